theorem m_addPlate {l : Launch} {g : jG} (hok : jOk g) (hst : l.stackTraces = false) {z : Option Nat} {sk : jS} {t : jT} {M : Nat} (hM : isMod g sk M) {w : WB} {G : GS} (hG : RmG t M w G) (hK : okG G) (x : Int32) : jMet l g mX10_addPlate 3 0 0 [.ref (jb g + M), .int x] z sk t (mP M w (a_addPlate w.1 G x) z sk t) := by
  refine j_body (lv := [some (.ref (jb g + M)), some (.int x), none]) i_X10_addPlate hok hst (fun p e s m args below meth c X => ?_)
  obtain ⟨M0, M1, M2, M3, M4, M5, M6, M7⟩ := id hM
  obtain ⟨r1, r2, r3, r4, r5, r6, r7, r8, r9, r10, r11⟩ := id hG
  obtain ⟨u1, u2, u3, u4, u5, u6, u7⟩ := id r1
  obtain ⟨k1, k2, k3, k4, k5, k6, k7, k8⟩ := id hK.1
  have no : ∀ (n : Nat) (m2 : Int), 0 < n → n < 4 → m2 < 0 → vNewPlate (gV G) x = (m2, gV G) → cod (-2) (-3) (-9) m2 = n → J p l e (jR 3 0 0) s m args below meth c (jQm below args s g 0 0 (mP M w (a_addPlate w.1 G x) z sk t)) 3 g 0 0 z sk t 28 [some (.ref (jb g + M)), some (.int x), none] [.int (nI n), .ref (jb g + M)] := fun n m2 h0 h4 hm ev hc => by
    refine j_callV X (m_fails hok hst hM h4) i_X10_fails tw_6_135 tw_6_137 tp_25 M0 rfl dX10_addPlate_28 ?_ 
    rw [decide_eq_true h0]
    refine j_if_eq X (tgt := 36) dX10_addPlate_31 (by decide) (fun q9 => absurd q9 (by decide)) (fun _ => ?_)
    refine j_iconst X (v := (nI 0)) dX10_addPlate_34 (by decide) ?_
    exact j_iret X dX10_addPlate_35 rfl rfl (mP_no hG (by rw [a_addPlate, ev, ch_no hm, hc]))
  refine j_aload_n X (i := 0) dX10_addPlate_0 rfl rfl ?_
  refine j_iload_n X (i := 1) dX10_addPlate_1 rfl rfl ?_
  refine j_callS X (m_which hok hst x) i_X10_which tw_6_132 tw_6_133 dX10_addPlate_2 ?_ 
  cases hi : isIk x with
  | false =>
    refine j_if_ge X (tgt := 12) dX10_addPlate_5 (by decide) (fun q9 => absurd q9 ((by rw [show whI x = -1 from if_neg (by rw [hi]; decide)]; decide))) (fun _ => ?_)
    refine j_iconst X (v := (nI 1)) dX10_addPlate_8 (by decide) ?_
    refine j_goto X (tgt := 28) dX10_addPlate_9 (by decide) ?_
    exact no 1 (-2) (by decide) (by decide) (by decide) (by unfold vNewPlate; rw [if_pos hi]) (by decide)
  | true =>
    obtain ⟨n, hn, rfl, hxn⟩ := isIk_of hi
    have hw : whI (nI n) = ((n / 2 : Nat) : Int) := by unfold whI; rw [if_pos hi, hxn]
    rw [hw, iN_nI]
    refine j_if_ge X (tgt := 12) dX10_addPlate_5 (by decide) (fun _ => ?_) (fun q9 => absurd ((show nI 0 ≤ nI (n / 2) from nI_le (Nat.zero_le _) (by omega))) q9)
    refine j_aload_n X (i := 0) dX10_addPlate_12 rfl rfl ?_
    refine jFd.get X fd_X10_7 M0 rfl dX10_addPlate_13 ?_
    refine j_iconst X (v := (nI 0)) dX10_addPlate_16 (by decide) ?_
    refine j_iald X M1 rfl (by decide) (by decide) dX10_addPlate_17 ?_
    rw [u1]
    refine j_bipush X (v := (nI 6)) dX10_addPlate_18 (by decide) ?_
    by_cases h6 : np (gV G) = 6
    · refine j_icmp_ne X (tgt := 27) dX10_addPlate_20 (by decide) (fun q9 => absurd ((congrArg nI h6)) q9) (fun _ => ?_)
      refine j_iconst X (v := (nI 2)) dX10_addPlate_23 (by decide) ?_
      refine j_goto X (tgt := 28) dX10_addPlate_24 (by decide) ?_
      exact no 2 (-3) (by decide) (by decide) (by decide) (by unfold vNewPlate; rw [if_neg (by rw [hi]; decide), if_pos (by omega)]) (by decide)
    · refine j_icmp_ne X (tgt := 27) dX10_addPlate_20 (by decide) (fun _ => ?_) (fun q9 => absurd q9 ((fun z9 => h6 ((nI_eq (by omega) (by decide)).mp z9))))
      refine j_iconst X (v := (nI 0)) dX10_addPlate_27 (by decide) ?_
      refine j_callV X (m_fails hok hst hM (n := 0) (by decide)) i_X10_fails tw_6_135 tw_6_137 tp_25 M0 rfl dX10_addPlate_28 ?_ 
      rw [decide_eq_false (Nat.lt_irrefl 0)]
      refine j_if_eq X (tgt := 36) dX10_addPlate_31 (by decide) (fun _ => ?_) (fun q9 => absurd (rfl) q9)
      have hG1 := hG.jcode (nI 0)
      have f1 : ∀ c, c ≠ M → jU t M 7 (nI 0) c = t c := fun c hc => jU_ne _ _ _ hc
      generalize jU t M 7 (nI 0) = t1 at hG1 f1 ⊢
      refine j_aload_n X (i := 0) dX10_addPlate_36 rfl rfl ?_
      refine j_aload_n X (i := 0) dX10_addPlate_37 rfl rfl ?_
      refine jFd.get X fd_X10_7 M0 rfl dX10_addPlate_38 ?_
      refine j_callV_p X (m_keepG hok hst hM hG1 hK) i_X10_keeps tw_6_139 tw_6_141 tp_26 M0 rfl dX10_addPlate_41 (fun v2 z2 sk2 t2 hp => ?_) 
      obtain ⟨rfl, rfl, rfl, hG2, c2, f2a⟩ := hp
      have f2 : ∀ c, (c < M ∨ M + 8 ≤ c ∨ c = M + 4 ∨ c = M + 7) → t2 c = t c := fun c hc => (f2a c (by omega) (by omega)).trans (f1 c (by omega))
      have w2 : RmV (t2 (M + 1)) (gV G) := hG2.1
      clear f2a hG1 f1 t1
      obtain ⟨pn, hpn⟩ : ∃ pn, pn = np (gV G) := ⟨_, rfl⟩
      have hp6 : pn < 6 := by omega
      have w20 : t2 (M + 1) 0 = nI pn := by rw [hpn]; exact w2.1
      have loop : ∀ k, k ≤ 7 → J p l e (jR 3 0 0) s m args below meth c (jQm below args s g 0 0 (mP M w (a_addPlate w.1 G (nI n)) z sk t)) 3 g (0 + 0 + 0 + 0) (0 + 0 + 0 + 0) z sk  (jUf t2 (M + 1) (fun j => if 9 + 7 * pn ≤ j ∧ j < 9 + 7 * pn + k then nI 0 else t2 (M + 1) j)) 46 [some (.ref (jb g + M)), some (.int (nI n)), some (.int (nI k))] [] := by
        refine up_loop ?_ ?_
        · refine j_iload_n X (i := 2) dX10_addPlate_46 rfl rfl ?_
          refine j_bipush X (v := (nI 7)) dX10_addPlate_47 (by decide) ?_
          refine j_icmp_ge X (tgt := 78) dX10_addPlate_49 (by decide) (fun _ => ?_) (fun q9 => absurd (nI_le (Nat.le_refl _) (by decide)) q9)
          obtain ⟨t3, ht3⟩ : ∃ t3, t3 = jUf t2 (M + 1) (fun j => if 9 + 7 * pn ≤ j ∧ j < 9 + 7 * pn + 7 then nI 0 else t2 (M + 1) j) := ⟨_, rfl⟩
          have eo : ∀ c, c ≠ M + 1 → t3 c = t2 c := fun c hc => by rw [ht3]; exact jUf_ne _ _ hc
          have e1 : t3 (M + 1) = fun j => if 9 + 7 * pn ≤ j ∧ j < 9 + 7 * pn + 7 then nI 0 else t2 (M + 1) j := by rw [ht3]; exact jUf_eq _ _ _
          have e10 : t3 (M + 1) 0 = nI pn := by rw [e1]; show (if _ then _ else _) = _; rw [if_neg (by omega)]; exact w20
          rw [← ht3]
          clear ht3
          refine j_aload_n X (i := 0) dX10_addPlate_78 rfl rfl ?_
          refine jFd.get X fd_X10_7 M0 rfl dX10_addPlate_79 ?_
          refine j_bipush X (v := (nI 9)) dX10_addPlate_82 (by decide) ?_
          refine j_bipush X (v := (nI 7)) dX10_addPlate_84 (by decide) ?_
          refine j_aload_n X (i := 0) dX10_addPlate_86 rfl rfl ?_
          refine jFd.get X fd_X10_7 M0 rfl dX10_addPlate_87 ?_
          refine j_iconst X (v := (nI 0)) dX10_addPlate_90 (by decide) ?_
          refine j_iald X M1 rfl (by decide) (by decide) dX10_addPlate_91 ?_
          rw [e10]
          refine j_imul X dX10_addPlate_92 ?_
          refine j_iadd X dX10_addPlate_93 ?_
          refine j_iconst X (v := (nI 0)) dX10_addPlate_94 (by decide) ?_
          refine j_iadd X dX10_addPlate_95 ?_
          rw [pk_mul, nI_add, nI_add]
          refine j_iload_n X (i := 1) dX10_addPlate_96 rfl rfl ?_
          refine j_iast X M1 rfl (by omega) (by decide) dX10_addPlate_97 ?_
          refine j_aload_n X (i := 0) dX10_addPlate_98 rfl rfl ?_
          refine jFd.get X fd_X10_7 M0 rfl dX10_addPlate_99 ?_
          refine j_iconst X (v := (nI 0)) dX10_addPlate_102 (by decide) ?_
          refine j_dup2 X dX10_addPlate_103 rfl rfl ?_
          refine j_iald X M1 rfl (by decide) (by decide) dX10_addPlate_104 ?_
          have e20 : jU t3 (M + 1) (9 + 7 * pn + 0) (nI n) (M + 1) 0 = nI pn := by rw [jU_eq]; unfold upd; rw [if_neg (by omega)]; exact e10
          rw [e20]
          refine j_iconst X (v := (nI 1)) dX10_addPlate_105 (by decide) ?_
          refine j_iadd X dX10_addPlate_106 ?_
          rw [nI_add]
          refine j_iast X M1 rfl (by decide) (by decide) dX10_addPlate_107 ?_
          refine j_aload_n X (i := 0) dX10_addPlate_108 rfl rfl ?_
          refine jFd.get X fd_X10_7 M0 rfl dX10_addPlate_109 ?_
          refine j_iconst X (v := (nI 0)) dX10_addPlate_112 (by decide) ?_
          refine j_iald X M1 rfl (by decide) (by decide) dX10_addPlate_113 ?_
          rw [show jU (jU t3 (M + 1) (9 + 7 * pn + 0) (nI n)) (M + 1) 0 (nI (pn + 1)) (M + 1) 0 = nI (pn + 1) by rw [jU_eq]; rfl]
          refine j_iconst X (v := (nI 1)) dX10_addPlate_114 (by decide) ?_
          refine j_isub X dX10_addPlate_115 ?_
          rw [pk_sub (by omega), Nat.add_sub_cancel]
          have ev : vNewPlate (gV G) (nI n) = ((np (gV G) : Int), ((np (gV G) + 1, ns (gV G), hr (gV G)), dr (gV G), (fun j => if j = np (gV G) then ((nI n).toInt.toNat, (pl (gV G) j).2) else pl (gV G) j), sh (gV G))) := by unfold vNewPlate; rw [if_neg (by rw [hi]; decide), if_neg (by omega)]
          have hr2 : a_addPlate w.1 G (nI n) = (0, nI pn, (((np (gV G) + 1, ns (gV G), hr (gV G)), dr (gV G), (fun j => if j = np (gV G) then ((nI n).toInt.toNat, (pl (gV G) j).2) else pl (gV G) j), sh (gV G)), (kpG w.1 G).2)) := by
            rw [a_addPlate, ev, ch_yes (by omega) (by decide) (by decide) (by decide), iN_nI, hpn]
          have e5 : (jU (jU t3 (M + 1) (9 + 7 * pn + 0) (nI n)) (M + 1) 0 (nI (pn + 1))) (M + 1) = upd (upd (t3 (M + 1)) (9 + 7 * pn) (nI n)) 0 (nI (pn + 1)) := by rw [jU_eq, jU_eq]; rfl
          have eo5 : ∀ c, c ≠ M + 1 → (jU (jU t3 (M + 1) (9 + 7 * pn + 0) (nI n)) (M + 1) 0 (nI (pn + 1))) c = t2 c := fun c hc => by rw [jU_ne _ _ _ hc, jU_ne _ _ _ hc]; exact eo c hc
          generalize jU (jU t3 (M + 1) (9 + 7 * pn + 0) (nI n)) (M + 1) 0 (nI (pn + 1)) = t5 at e5 eo5 ⊢
          have e6 : ∀ j, j ≠ 0 → j ≠ 9 + 7 * pn → t5 (M + 1) j = t3 (M + 1) j := fun j h0 h1 => by rw [e5]; unfold upd; rw [if_neg h0, if_neg h1]
          have e7 : ∀ i, i < 7 → t3 (M + 1) (9 + 7 * pn + i) = nI 0 := fun i hi => by rw [e1]; exact if_pos (by omega)
          refine j_iret X dX10_addPlate_116 rfl rfl (mP_mk hr2 ?_ ?_ ?_)
          · rw [eo5 _ (by omega)]; exact c2
          · refine hG2.g ?_ eo5
            have e9 : (fun j => if j = np (gV G) then ((nI n).toInt.toNat, (pl (gV G) j).2) else pl (gV G) j) = (fun j => if j = np (gV G) then (n, (pl (gV G) pn).2) else pl (gV G) j) := by
              funext j
              by_cases e : j = np (gV G)
              · rw [if_pos e, if_pos e, hxn, e, hpn]
              · rw [if_neg e, if_neg e]
            rw [e9]
            obtain ⟨z1, z2', z3⟩ := k6 pn hp6 (by omega)
            refine RmV.newPlate w2 (by omega) ?_ ?_ ?_
            · rw [e5, ← hpn]; rfl
            · rw [← hpn]
              refine ⟨?_, ?_, ?_, Wd_0 (fun i hi => ?_) z3⟩
              · rw [e5]; unfold upd; rw [if_neg (by omega), if_pos rfl]
              · rw [e6 _ (by omega) (by omega), e7 1 (by omega), z1]; rfl
              · rw [e6 _ (by omega) (by omega), e7 2 (by omega), z2']; rfl
              · rw [e6 _ (by omega) (by omega), show 9 + 7 * pn + 3 + i = 9 + 7 * pn + (3 + i) by omega, e7 _ (by omega)]
            · intro j h0 hj
              rw [← hpn] at hj
              rw [e6 _ h0 (by omega), e1]
              exact if_neg (by omega)
          · intro c hc
            rw [eo5 c (by omega)]
            exact f2 c hc
        · intro k hk ih
          have e10 : jUf t2 (M + 1) (fun j => if 9 + 7 * pn ≤ j ∧ j < 9 + 7 * pn + k then nI 0 else t2 (M + 1) j) (M + 1) 0 = nI pn := by rw [jUf_eq]; show (if _ then _ else _) = _; rw [if_neg (by omega)]; exact w20
          refine j_iload_n X (i := 2) dX10_addPlate_46 rfl rfl ?_
          refine j_bipush X (v := (nI 7)) dX10_addPlate_47 (by decide) ?_
          refine j_icmp_ge X (tgt := 78) dX10_addPlate_49 (by decide) (fun q9 => absurd q9 (nI_ge hk (by decide))) (fun _ => ?_)
          refine j_aload_n X (i := 0) dX10_addPlate_52 rfl rfl ?_
          refine jFd.get X fd_X10_7 M0 rfl dX10_addPlate_53 ?_
          refine j_bipush X (v := (nI 9)) dX10_addPlate_56 (by decide) ?_
          refine j_bipush X (v := (nI 7)) dX10_addPlate_58 (by decide) ?_
          refine j_aload_n X (i := 0) dX10_addPlate_60 rfl rfl ?_
          refine jFd.get X fd_X10_7 M0 rfl dX10_addPlate_61 ?_
          refine j_iconst X (v := (nI 0)) dX10_addPlate_64 (by decide) ?_
          refine j_iald X M1 rfl (by decide) (by decide) dX10_addPlate_65 ?_
          rw [e10]
          refine j_imul X dX10_addPlate_66 ?_
          refine j_iadd X dX10_addPlate_67 ?_
          refine j_iload_n X (i := 2) dX10_addPlate_68 rfl rfl ?_
          refine j_iadd X dX10_addPlate_69 ?_
          rw [pk_mul, nI_add, nI_add]
          refine j_iconst X (v := (nI 0)) dX10_addPlate_70 (by decide) ?_
          refine j_iast X M1 rfl (by omega) (by decide) dX10_addPlate_71 ?_
          refine j_iinc X (i := 2) (v := (nI (k + 1))) dX10_addPlate_72 rfl (nI_1 k) (by decide) rfl ?_
          refine j_goto X (tgt := 46) dX10_addPlate_75 (by decide) ?_
          have e : jU (jUf t2 (M + 1) (fun j => if 9 + 7 * pn ≤ j ∧ j < 9 + 7 * pn + k then nI 0 else t2 (M + 1) j)) (M + 1) (9 + 7 * pn + k) (nI 0) = jUf t2 (M + 1) (fun j => if 9 + 7 * pn ≤ j ∧ j < 9 + 7 * pn + (k + 1) then nI 0 else t2 (M + 1) j) := by
            rw [jU_row, jUf_jUf, jUf_eq]
            congr 1
            funext j
            unfold upd
            by_cases hj : j = 9 + 7 * pn + k
            · rw [if_pos hj, if_pos (by omega)]
            · rw [if_neg hj]
              show (if _ then _ else _) = _
              by_cases h2 : 9 + 7 * pn ≤ j ∧ j < 9 + 7 * pn + k
              · rw [if_pos h2, if_pos (by omega)]
              · rw [if_neg h2, if_neg (by omega)]
          rw [e]
          exact ih
      refine j_iconst X (v := (nI 0)) dX10_addPlate_44 (by decide) ?_
      refine j_istore_n X (i := 2) dX10_addPlate_45 rfl (by decide) rfl ?_
      have k0 := loop 0 (Nat.zero_le _)
      rw [show (fun j => if 9 + 7 * pn ≤ j ∧ j < 9 + 7 * pn + 0 then nI 0 else t2 (M + 1) j) = t2 (M + 1) from funext fun j => if_neg (by omega), jUf_self] at k0
      exact k0

theorem m_addStar {l : Launch} {g : jG} (hok : jOk g) (hst : l.stackTraces = false) {z : Option Nat} {sk : jS} {t : jT} {M : Nat} (hM : isMod g sk M) {w : WB} {G : GS} (hG : RmG t M w G) (hK : okG G) (q x y : Int32) : jMet l g mX10_addStar 3 0 0 [.ref (jb g + M), .int q, .int x, .int y] z sk t (mP M w (a_addStar w.1 G q x y) z sk t) := by
  refine j_body (lv := [some (.ref (jb g + M)), some (.int q), some (.int x), some (.int y)]) i_X10_addStar hok hst (fun p e s m args below meth c X => ?_)
  obtain ⟨M0, M1, M2, M3, M4, M5, M6, M7⟩ := id hM
  obtain ⟨r1, r2, r3, r4, r5, r6, r7, r8, r9, r10, r11⟩ := id hG
  obtain ⟨u1, u2, u3, u4, u5, u6, u7⟩ := id r1
  obtain ⟨k1, k2, k3, k4, k5, k6, k7, k8⟩ := id hK.1
  have no : ∀ (n : Nat) (m2 : Int), 0 < n → n < 4 → m2 < 0 → vNewStar (gV G) q x y = (m2, gV G) → cod (-1) (-2) (-3) m2 = n → J p l e (jR 3 0 0) s m args below meth c (jQm below args s g 0 0 (mP M w (a_addStar w.1 G q x y) z sk t)) 4 g 0 0 z sk t 54 [some (.ref (jb g + M)), some (.int q), some (.int x), some (.int y)] [.int (nI n), .ref (jb g + M)] := fun n m2 h0 h4 hm ev hc => by
    refine j_callV X (m_fails hok hst hM h4) i_X10_fails tw_6_135 tw_6_137 tp_25 M0 rfl dX10_addStar_54 ?_ 
    rw [decide_eq_true h0]
    refine j_if_eq X (tgt := 62) dX10_addStar_57 (by decide) (fun q9 => absurd q9 (by decide)) (fun _ => ?_)
    refine j_iconst X (v := (nI 0)) dX10_addStar_60 (by decide) ?_
    exact j_iret X dX10_addStar_61 rfl rfl (mP_no hG (by rw [a_addStar, ev, ch_no hm, hc]))
  refine j_aload_n X (i := 0) dX10_addStar_0 rfl rfl ?_
  refine j_aload_n X (i := 0) dX10_addStar_1 rfl rfl ?_
  refine j_iload_n X (i := 1) dX10_addStar_2 rfl rfl ?_
  refine j_callV X (m_isPlate hok hst hM u1 (by omega) q) i_X10_isPlate tw_6_150 tw_6_152 tp_27 M0 rfl dX10_addStar_3 ?_ 
  cases hq : pIx (np (gV G)) q with
  | false =>
    refine j_if_ne X (tgt := 13) dX10_addStar_6 (by decide) (fun q9 => absurd (rfl) q9) (fun _ => ?_)
    refine j_iconst X (v := (nI 1)) dX10_addStar_9 (by decide) ?_
    refine j_goto X (tgt := 54) dX10_addStar_10 (by decide) ?_
    exact no 1 (-1) (by decide) (by decide) (by decide) (by unfold vNewStar; rw [if_pos hq]) (by decide)
  | true =>
    refine j_if_ne X (tgt := 13) dX10_addStar_6 (by decide) (fun _ => ?_) (fun q9 => absurd q9 (by decide))
    refine j_iload_n X (i := 2) dX10_addStar_13 rfl rfl ?_
    refine j_iload_n X (i := 3) dX10_addStar_14 rfl rfl ?_
    refine j_callS X (m_isOn hok hst _ _) i_X10_isOn tw_6_157 tw_6_158 dX10_addStar_15 ?_ 
    cases hp : isPl x y with
    | false =>
      refine j_if_ne X (tgt := 25) dX10_addStar_18 (by decide) (fun q9 => absurd (rfl) q9) (fun _ => ?_)
      refine j_iconst X (v := (nI 2)) dX10_addStar_21 (by decide) ?_
      refine j_goto X (tgt := 54) dX10_addStar_22 (by decide) ?_
      exact no 2 (-2) (by decide) (by decide) (by decide) (by unfold vNewStar; rw [if_neg (by rw [hq]; decide), if_pos hp]) (by decide)
    | true =>
      obtain ⟨k, hk1, rfl, hkn⟩ := pIx_of (by omega) hq
      obtain ⟨a, d, ha, hd, rfl, rfl, han, hdn⟩ := isPl_of hp
      have hk6 : k < 6 := by omega
      have W0 := (u6 k hk1).2.2.2
      obtain ⟨S, hS⟩ : ∃ S, S = (pl (gV G) k).2.2.2 := ⟨_, rfl⟩
      rw [← hS] at W0
      have ev0 : vNewStar (gV G) (nI k) (nI a) (nI d) = if S (16 * d + a) = true ∨ 20 ≤ cntB S then (-3, gV G) else ((cntB (flipS S (16 * d + a)) : Int), upP (gV G) k (ptS (pl (gV G) k) (flipS S (16 * d + a)))) := by
        unfold vNewStar
        rw [if_neg (by rw [hq]; decide), if_neg (by rw [hp]; decide), pAt_nI hkn, cAt_nI han hdn, hkn, hS]
      refine j_if_ne X (tgt := 25) dX10_addStar_18 (by decide) (fun _ => ?_) (fun q9 => absurd q9 (by decide))
      refine j_aload_n X (i := 0) dX10_addStar_25 rfl rfl ?_
      refine j_aload_n X (i := 0) dX10_addStar_26 rfl rfl ?_
      refine j_iload_n X (i := 1) dX10_addStar_27 rfl rfl ?_
      refine j_callV X (m_stars hok hst (M := M)) i_X10_stars tw_6_160 tw_6_162 tp_28 M0 rfl dX10_addStar_28 ?_ 
      refine j_iload_n X (i := 2) dX10_addStar_31 rfl rfl ?_
      refine j_iload_n X (i := 3) dX10_addStar_32 rfl rfl ?_
      refine j_callV X (m_has hok hst (x := a) (y := d) hM W0 (by omega) ha hd) i_X10_has tw_6_164 tw_6_166 tp_29 M0 rfl dX10_addStar_33 ?_ 
      have ok : ¬ (S (16 * d + a) = true ∨ 20 ≤ cntB S) → J p l e (jR 3 0 0) s m args below meth c (jQm below args s g 0 0 (mP M w (a_addStar w.1 G (nI k) (nI a) (nI d)) z sk t)) 4 g 0 0 z sk t 54 [some (.ref (jb g + M)), some (.int (nI k)), some (.int (nI a)), some (.int (nI d))] [.int (nI 0), .ref (jb g + M)] := fun hc => by
        rw [if_neg hc] at ev0
        refine j_callV X (m_fails hok hst hM (n := 0) (by decide)) i_X10_fails tw_6_135 tw_6_137 tp_25 M0 rfl dX10_addStar_54 ?_ 
        rw [decide_eq_false (Nat.lt_irrefl 0)]
        refine j_if_eq X (tgt := 62) dX10_addStar_57 (by decide) (fun _ => ?_) (fun q9 => absurd (rfl) q9)
        have hG1 := hG.jcode (nI 0)
        have f1 : ∀ c, c ≠ M → jU t M 7 (nI 0) c = t c := fun c hc => jU_ne _ _ _ hc
        generalize jU t M 7 (nI 0) = t1 at hG1 f1 ⊢
        refine j_aload_n X (i := 0) dX10_addStar_62 rfl rfl ?_
        refine j_aload_n X (i := 0) dX10_addStar_63 rfl rfl ?_
        refine jFd.get X fd_X10_7 M0 rfl dX10_addStar_64 ?_
        refine j_callV_p X (m_keepG hok hst hM hG1 hK) i_X10_keeps tw_6_139 tw_6_141 tp_26 M0 rfl dX10_addStar_67 (fun v2 z2 sk2 t2 hp => ?_) 
        obtain ⟨rfl, rfl, rfl, hG2, c2, f2a⟩ := hp
        have f2 : ∀ c, (c < M ∨ M + 8 ≤ c ∨ c = M + 4 ∨ c = M + 7) → t2 c = t c := fun c hc => (f2a c (by omega) (by omega)).trans (f1 c (by omega))
        have w2 : RmV (t2 (M + 1)) (gV G) := hG2.1
        clear f2a hG1 f1 t1
        have W2 : Wd (t2 (M + 1)) (9 + 7 * k + 3) S := by rw [hS]; exact (w2.2.2.2.2.2.1 k hk1).2.2.2
        refine j_aload_n X (i := 0) dX10_addStar_70 rfl rfl ?_
        refine j_aload_n X (i := 0) dX10_addStar_71 rfl rfl ?_
        refine j_iload_n X (i := 1) dX10_addStar_72 rfl rfl ?_
        refine j_callV X (m_stars hok hst (M := M)) i_X10_stars tw_6_160 tw_6_162 tp_28 M0 rfl dX10_addStar_73 ?_ 
        refine j_iload_n X (i := 2) dX10_addStar_76 rfl rfl ?_
        refine j_iload_n X (i := 3) dX10_addStar_77 rfl rfl ?_
        refine j_callV_p X (m_turns hok hst (x := a) (y := d) hM W2 (by omega) ha hd) i_X10_turns tw_6_175 tw_6_177 tp_31 M0 rfl dX10_addStar_78 (fun v2 z2 sk2 t2 hp => ?_) 
        obtain ⟨rfl, rfl, rfl, W3, o3, f3⟩ := hp
        rename_i t3
        refine j_aload_n X (i := 0) dX10_addStar_81 rfl rfl ?_
        refine j_iload_n X (i := 1) dX10_addStar_82 rfl rfl ?_
        refine j_callV X (m_starred hok hst hM hk6 W3) i_X10_starred tw_6_168 tw_6_170 tp_30 M0 rfl dX10_addStar_83 ?_ 
        have hr2 : a_addStar w.1 G (nI k) (nI a) (nI d) = (0, nI (cntB (flipS S (16 * d + a))), (upP (gV G) k (ptS (pl (gV G) k) (flipS S (16 * d + a))), (kpG w.1 G).2)) := by
          rw [a_addStar, ev0, ch_yes (by omega) (by decide) (by decide) (by decide), iN_nI]
        refine j_iret X dX10_addStar_86 rfl rfl (mP_mk hr2 ?_ ?_ ?_)
        · rw [f3 _ (by omega)]; exact c2
        · refine hG2.g ?_ f3
          obtain ⟨p1, p2, p3, p4⟩ := w2.2.2.2.2.2.1 k hk1
          exact w2.upP hk1 k1 ⟨(o3 _ (by omega)).trans p1, (o3 _ (by omega)).trans p2, (o3 _ (by omega)).trans p3, W3⟩ (fun j hj => o3 _ (by omega))
        · intro c hc
          rw [f3 c (by omega)]
          exact f2 c hc
      have bad : (S (16 * d + a) = true ∨ 20 ≤ cntB S) → J p l e (jR 3 0 0) s m args below meth c (jQm below args s g 0 0 (mP M w (a_addStar w.1 G (nI k) (nI a) (nI d)) z sk t)) 4 g 0 0 z sk t 49 [some (.ref (jb g + M)), some (.int (nI k)), some (.int (nI a)), some (.int (nI d))] [.ref (jb g + M)] := fun hb => by
        rw [if_pos hb] at ev0
        refine j_iconst X (v := (nI 3)) dX10_addStar_49 (by decide) ?_
        refine j_goto X (tgt := 54) dX10_addStar_50 (by decide) ?_
        exact no 3 (-3) (by decide) (by decide) (by decide) ev0 (by decide)
      cases hs : S (16 * d + a) with
      | true =>
        refine j_if_ne X (tgt := 49) dX10_addStar_36 (by decide) (fun _ => ?_) (fun q9 => absurd q9 (by decide))
        exact bad (Or.inl hs)
      | false =>
        refine j_if_ne X (tgt := 49) dX10_addStar_36 (by decide) (fun q9 => absurd (rfl) q9) (fun _ => ?_)
        refine j_aload_n X (i := 0) dX10_addStar_39 rfl rfl ?_
        refine j_iload_n X (i := 1) dX10_addStar_40 rfl rfl ?_
        refine j_callV X (m_starred hok hst hM hk6 W0) i_X10_starred tw_6_168 tw_6_170 tp_30 M0 rfl dX10_addStar_41 ?_ 
        refine j_bipush X (v := (nI 20)) dX10_addStar_44 (by decide) ?_
        have hcl := cntB_le S
        have hc20 : cntB S ≤ 20 := by rw [hS]; exact (k3 k hk6).2.2.2.2.2
        by_cases h20 : cntB S = 20
        · refine j_icmp_ne X (tgt := 53) dX10_addStar_46 (by decide) (fun q9 => absurd ((congrArg nI h20)) q9) (fun _ => ?_)
          exact bad (Or.inr (by omega))
        · refine j_icmp_ne X (tgt := 53) dX10_addStar_46 (by decide) (fun _ => ?_) (fun q9 => absurd q9 ((fun z9 => h20 ((nI_eq (by omega) (by decide)).mp z9))))
          refine j_iconst X (v := (nI 0)) dX10_addStar_53 (by decide) ?_
          exact ok (by rw [hs]; intro z9; rcases z9 with z9 | z9; exact absurd z9 (by decide); omega)

theorem m_removeStar {l : Launch} {g : jG} (hok : jOk g) (hst : l.stackTraces = false) {z : Option Nat} {sk : jS} {t : jT} {M : Nat} (hM : isMod g sk M) {w : WB} {G : GS} (hG : RmG t M w G) (hK : okG G) (q x y : Int32) : jMet l g mX10_removeStar 3 0 0 [.ref (jb g + M), .int q, .int x, .int y] z sk t (mP M w (a_removeStar w.1 G q x y) z sk t) := by
  refine j_body (lv := [some (.ref (jb g + M)), some (.int q), some (.int x), some (.int y)]) i_X10_removeStar hok hst (fun p e s m args below meth c X => ?_)
  obtain ⟨M0, M1, M2, M3, M4, M5, M6, M7⟩ := id hM
  obtain ⟨r1, r2, r3, r4, r5, r6, r7, r8, r9, r10, r11⟩ := id hG
  obtain ⟨u1, u2, u3, u4, u5, u6, u7⟩ := id r1
  obtain ⟨k1, k2, k3, k4, k5, k6, k7, k8⟩ := id hK.1
  have no : ∀ (n : Nat) (m2 : Int), 0 < n → n < 4 → m2 < 0 → vDropStar (gV G) q x y = (m2, gV G) → cod (-1) (-2) (-4) m2 = n → J p l e (jR 3 0 0) s m args below meth c (jQm below args s g 0 0 (mP M w (a_removeStar w.1 G q x y) z sk t)) 4 g 0 0 z sk t 44 [some (.ref (jb g + M)), some (.int q), some (.int x), some (.int y)] [.int (nI n), .ref (jb g + M)] := fun n m2 h0 h4 hm ev hc => by
    refine j_callV X (m_fails hok hst hM h4) i_X10_fails tw_6_135 tw_6_137 tp_25 M0 rfl dX10_removeStar_44 ?_ 
    rw [decide_eq_true h0]
    refine j_if_eq X (tgt := 52) dX10_removeStar_47 (by decide) (fun q9 => absurd q9 (by decide)) (fun _ => ?_)
    refine j_iconst X (v := (nI 0)) dX10_removeStar_50 (by decide) ?_
    exact j_iret X dX10_removeStar_51 rfl rfl (mP_no hG (by rw [a_removeStar, ev, ch_no hm, hc]))
  refine j_aload_n X (i := 0) dX10_removeStar_0 rfl rfl ?_
  refine j_aload_n X (i := 0) dX10_removeStar_1 rfl rfl ?_
  refine j_iload_n X (i := 1) dX10_removeStar_2 rfl rfl ?_
  refine j_callV X (m_isPlate hok hst hM u1 (by omega) q) i_X10_isPlate tw_6_150 tw_6_152 tp_27 M0 rfl dX10_removeStar_3 ?_ 
  cases hq : pIx (np (gV G)) q with
  | false =>
    refine j_if_ne X (tgt := 13) dX10_removeStar_6 (by decide) (fun q9 => absurd (rfl) q9) (fun _ => ?_)
    refine j_iconst X (v := (nI 1)) dX10_removeStar_9 (by decide) ?_
    refine j_goto X (tgt := 44) dX10_removeStar_10 (by decide) ?_
    exact no 1 (-1) (by decide) (by decide) (by decide) (by unfold vDropStar; rw [if_pos hq]) (by decide)
  | true =>
    refine j_if_ne X (tgt := 13) dX10_removeStar_6 (by decide) (fun _ => ?_) (fun q9 => absurd q9 (by decide))
    refine j_iload_n X (i := 2) dX10_removeStar_13 rfl rfl ?_
    refine j_iload_n X (i := 3) dX10_removeStar_14 rfl rfl ?_
    refine j_callS X (m_isOn hok hst _ _) i_X10_isOn tw_6_157 tw_6_158 dX10_removeStar_15 ?_ 
    cases hp : isPl x y with
    | false =>
      refine j_if_ne X (tgt := 25) dX10_removeStar_18 (by decide) (fun q9 => absurd (rfl) q9) (fun _ => ?_)
      refine j_iconst X (v := (nI 2)) dX10_removeStar_21 (by decide) ?_
      refine j_goto X (tgt := 44) dX10_removeStar_22 (by decide) ?_
      exact no 2 (-2) (by decide) (by decide) (by decide) (by unfold vDropStar; rw [if_neg (by rw [hq]; decide), if_pos hp]) (by decide)
    | true =>
      obtain ⟨k, hk1, rfl, hkn⟩ := pIx_of (by omega) hq
      obtain ⟨a, d, ha, hd, rfl, rfl, han, hdn⟩ := isPl_of hp
      have hk6 : k < 6 := by omega
      have W0 := (u6 k hk1).2.2.2
      obtain ⟨S, hS⟩ : ∃ S, S = (pl (gV G) k).2.2.2 := ⟨_, rfl⟩
      rw [← hS] at W0
      have ev0 : vDropStar (gV G) (nI k) (nI a) (nI d) = if S (16 * d + a) = false then (-4, gV G) else ((cntB (flipS S (16 * d + a)) : Int), upP (gV G) k (ptS (pl (gV G) k) (flipS S (16 * d + a)))) := by
        unfold vDropStar
        rw [if_neg (by rw [hq]; decide), if_neg (by rw [hp]; decide), pAt_nI hkn, cAt_nI han hdn, hkn, hS]
      refine j_if_ne X (tgt := 25) dX10_removeStar_18 (by decide) (fun _ => ?_) (fun q9 => absurd q9 (by decide))
      refine j_aload_n X (i := 0) dX10_removeStar_25 rfl rfl ?_
      refine j_aload_n X (i := 0) dX10_removeStar_26 rfl rfl ?_
      refine j_iload_n X (i := 1) dX10_removeStar_27 rfl rfl ?_
      refine j_callV X (m_stars hok hst (M := M)) i_X10_stars tw_6_160 tw_6_162 tp_28 M0 rfl dX10_removeStar_28 ?_ 
      refine j_iload_n X (i := 2) dX10_removeStar_31 rfl rfl ?_
      refine j_iload_n X (i := 3) dX10_removeStar_32 rfl rfl ?_
      refine j_callV X (m_has hok hst (x := a) (y := d) hM W0 (by omega) ha hd) i_X10_has tw_6_164 tw_6_166 tp_29 M0 rfl dX10_removeStar_33 ?_ 
      have ok : ¬ (S (16 * d + a) = false) → J p l e (jR 3 0 0) s m args below meth c (jQm below args s g 0 0 (mP M w (a_removeStar w.1 G (nI k) (nI a) (nI d)) z sk t)) 4 g 0 0 z sk t 44 [some (.ref (jb g + M)), some (.int (nI k)), some (.int (nI a)), some (.int (nI d))] [.int (nI 0), .ref (jb g + M)] := fun hc => by
        rw [if_neg hc] at ev0
        refine j_callV X (m_fails hok hst hM (n := 0) (by decide)) i_X10_fails tw_6_135 tw_6_137 tp_25 M0 rfl dX10_removeStar_44 ?_ 
        rw [decide_eq_false (Nat.lt_irrefl 0)]
        refine j_if_eq X (tgt := 52) dX10_removeStar_47 (by decide) (fun _ => ?_) (fun q9 => absurd (rfl) q9)
        have hG1 := hG.jcode (nI 0)
        have f1 : ∀ c, c ≠ M → jU t M 7 (nI 0) c = t c := fun c hc => jU_ne _ _ _ hc
        generalize jU t M 7 (nI 0) = t1 at hG1 f1 ⊢
        refine j_aload_n X (i := 0) dX10_removeStar_52 rfl rfl ?_
        refine j_aload_n X (i := 0) dX10_removeStar_53 rfl rfl ?_
        refine jFd.get X fd_X10_7 M0 rfl dX10_removeStar_54 ?_
        refine j_callV_p X (m_keepG hok hst hM hG1 hK) i_X10_keeps tw_6_139 tw_6_141 tp_26 M0 rfl dX10_removeStar_57 (fun v2 z2 sk2 t2 hp => ?_) 
        obtain ⟨rfl, rfl, rfl, hG2, c2, f2a⟩ := hp
        have f2 : ∀ c, (c < M ∨ M + 8 ≤ c ∨ c = M + 4 ∨ c = M + 7) → t2 c = t c := fun c hc => (f2a c (by omega) (by omega)).trans (f1 c (by omega))
        have w2 : RmV (t2 (M + 1)) (gV G) := hG2.1
        clear f2a hG1 f1 t1
        have W2 : Wd (t2 (M + 1)) (9 + 7 * k + 3) S := by rw [hS]; exact (w2.2.2.2.2.2.1 k hk1).2.2.2
        refine j_aload_n X (i := 0) dX10_removeStar_60 rfl rfl ?_
        refine j_aload_n X (i := 0) dX10_removeStar_61 rfl rfl ?_
        refine j_iload_n X (i := 1) dX10_removeStar_62 rfl rfl ?_
        refine j_callV X (m_stars hok hst (M := M)) i_X10_stars tw_6_160 tw_6_162 tp_28 M0 rfl dX10_removeStar_63 ?_ 
        refine j_iload_n X (i := 2) dX10_removeStar_66 rfl rfl ?_
        refine j_iload_n X (i := 3) dX10_removeStar_67 rfl rfl ?_
        refine j_callV_p X (m_turns hok hst (x := a) (y := d) hM W2 (by omega) ha hd) i_X10_turns tw_6_175 tw_6_177 tp_31 M0 rfl dX10_removeStar_68 (fun v2 z2 sk2 t2 hp => ?_) 
        obtain ⟨rfl, rfl, rfl, W3, o3, f3⟩ := hp
        rename_i t3
        refine j_aload_n X (i := 0) dX10_removeStar_71 rfl rfl ?_
        refine j_iload_n X (i := 1) dX10_removeStar_72 rfl rfl ?_
        refine j_callV X (m_starred hok hst hM hk6 W3) i_X10_starred tw_6_168 tw_6_170 tp_30 M0 rfl dX10_removeStar_73 ?_ 
        have hr2 : a_removeStar w.1 G (nI k) (nI a) (nI d) = (0, nI (cntB (flipS S (16 * d + a))), (upP (gV G) k (ptS (pl (gV G) k) (flipS S (16 * d + a))), (kpG w.1 G).2)) := by
          rw [a_removeStar, ev0, ch_yes (by omega) (by decide) (by decide) (by decide), iN_nI]
        refine j_iret X dX10_removeStar_76 rfl rfl (mP_mk hr2 ?_ ?_ ?_)
        · rw [f3 _ (by omega)]; exact c2
        · refine hG2.g ?_ f3
          obtain ⟨p1, p2, p3, p4⟩ := w2.2.2.2.2.2.1 k hk1
          exact w2.upP hk1 k1 ⟨(o3 _ (by omega)).trans p1, (o3 _ (by omega)).trans p2, (o3 _ (by omega)).trans p3, W3⟩ (fun j hj => o3 _ (by omega))
        · intro c hc
          rw [f3 c (by omega)]
          exact f2 c hc
      cases hs : S (16 * d + a) with
      | false =>
        rw [if_pos hs] at ev0
        refine j_if_eq X (tgt := 43) dX10_removeStar_36 (by decide) (fun _ => ?_) (fun q9 => absurd (rfl) q9)
        refine j_iconst X (v := (nI 3)) dX10_removeStar_43 (by decide) ?_
        exact no 3 (-4) (by decide) (by decide) (by decide) ev0 (by decide)
      | true =>
        refine j_if_eq X (tgt := 43) dX10_removeStar_36 (by decide) (fun q9 => absurd q9 (by decide)) (fun _ => ?_)
        refine j_iconst X (v := (nI 0)) dX10_removeStar_39 (by decide) ?_
        refine j_goto X (tgt := 44) dX10_removeStar_40 (by decide) ?_
        exact ok (by rw [hs]; decide)

theorem RmP.sets {f : Nat → Int32} {o : Nat} {p : PV} (h : RmP f o p) (dx dy : Int) : RmP (upd (upd f (o + 1) (iN dx)) (o + 2) (iN dy)) o (ptD p dx dy) := by
  obtain ⟨h1, h2, h3, h4⟩ := h
  refine ⟨?_, ?_, ?_, h4.cong fun w hw => ?_⟩
  · unfold upd; rw [if_neg (by omega), if_neg (by omega)]; exact h1
  · unfold upd; rw [if_neg (by omega), if_pos rfl]; rfl
  · unfold upd; rw [if_pos rfl]; rfl
  · unfold upd; rw [if_neg (by omega), if_neg (by omega)]
theorem sets_G {t2 : jT} {M : Nat} {w : WB} {G : GS} (hG2 : RmG t2 M w (kpG w.1 G)) (k1 : np (gV G) ≤ 6) {k : Nat} (hk1 : k < np (gV G)) (dx dy : Int) : RmG (jU (jU t2 (M + 1) (9 + 7 * k + 1) (iN dx)) (M + 1) (9 + 7 * k + 2) (iN dy)) M w (upP (gV G) k (ptD (pl (gV G) k) dx dy), (kpG w.1 G).2) := by
  have w2 : RmV (t2 (M + 1)) (gV G) := hG2.1
  refine hG2.g ?_ (fun c hc => by rw [jU_ne _ _ _ hc, jU_ne _ _ _ hc])
  rw [jU_eq, jU_eq]
  exact w2.upP hk1 k1 ((w2.2.2.2.2.2.1 k hk1).sets dx dy) (fun j hj => by unfold upd; rw [if_neg (by omega), if_neg (by omega)])
theorem m_setShift {l : Launch} {g : jG} (hok : jOk g) (hst : l.stackTraces = false) {z : Option Nat} {sk : jS} {t : jT} {M : Nat} (hM : isMod g sk M) {w : WB} {G : GS} (hG : RmG t M w G) (hK : okG G) (q x y : Int32) : jMet l g mX10_setShift 4 0 0 [.ref (jb g + M), .int q, .int x, .int y] z sk t (mP M w (a_setShift w.1 G q x y) z sk t) := by
  refine j_body (lv := [some (.ref (jb g + M)), some (.int q), some (.int x), some (.int y)]) i_X10_setShift hok hst (fun p e s m args below meth c X => ?_)
  obtain ⟨M0, M1, M2, M3, M4, M5, M6, M7⟩ := id hM
  obtain ⟨r1, r2, r3, r4, r5, r6, r7, r8, r9, r10, r11⟩ := id hG
  obtain ⟨u1, u2, u3, u4, u5, u6, u7⟩ := id r1
  obtain ⟨k1, k2, k3, k4, k5, k6, k7, k8⟩ := id hK.1
  have no : ∀ (n : Nat) (m2 : Int), 0 < n → n < 4 → m2 < 0 → vShift (gV G) q x y = (m2, gV G) → cod (-1) (-2) (-9) m2 = n → J p l e (jR 4 0 0) s m args below meth c (jQm below args s g 0 0 (mP M w (a_setShift w.1 G q x y) z sk t)) 4 g 0 0 z sk t 26 [some (.ref (jb g + M)), some (.int q), some (.int x), some (.int y)] [.int (nI n), .ref (jb g + M)] := fun n m2 h0 h4 hm ev hc => by
    refine j_callV X (m_fails hok hst hM h4) i_X10_fails tw_6_135 tw_6_137 tp_25 M0 rfl dX10_setShift_26 ?_ 
    rw [decide_eq_true h0]
    refine j_if_eq X (tgt := 34) dX10_setShift_29 (by decide) (fun q9 => absurd q9 (by decide)) (fun _ => ?_)
    refine j_iconst X (v := (nI 0)) dX10_setShift_32 (by decide) ?_
    exact j_iret X dX10_setShift_33 rfl rfl (mP_no hG (by rw [a_setShift, ev, ch_no hm, hc]))
  refine j_aload_n X (i := 0) dX10_setShift_0 rfl rfl ?_
  refine j_aload_n X (i := 0) dX10_setShift_1 rfl rfl ?_
  refine j_iload_n X (i := 1) dX10_setShift_2 rfl rfl ?_
  refine j_callV X (m_isPlate hok hst hM u1 (by omega) q) i_X10_isPlate tw_6_150 tw_6_152 tp_27 M0 rfl dX10_setShift_3 ?_ 
  cases hq : pIx (np (gV G)) q with
  | false =>
    refine j_if_ne X (tgt := 13) dX10_setShift_6 (by decide) (fun q9 => absurd (rfl) q9) (fun _ => ?_)
    refine j_iconst X (v := (nI 1)) dX10_setShift_9 (by decide) ?_
    refine j_goto X (tgt := 26) dX10_setShift_10 (by decide) ?_
    exact no 1 (-1) (by decide) (by decide) (by decide) (by unfold vShift; rw [if_pos hq]) (by decide)
  | true =>
    refine j_if_ne X (tgt := 13) dX10_setShift_6 (by decide) (fun _ => ?_) (fun q9 => absurd q9 (by decide))
    refine j_iload_n X (i := 2) dX10_setShift_13 rfl rfl ?_
    refine j_iload_n X (i := 3) dX10_setShift_14 rfl rfl ?_
    refine j_callS X (m_areNear hok hst _ _) i_X10_areNear tw_6_187 tw_6_188 dX10_setShift_15 ?_ 
    cases hp : isSh x y with
    | false =>
      refine j_if_eq X (tgt := 25) dX10_setShift_18 (by decide) (fun _ => ?_) (fun q9 => absurd (rfl) q9)
      refine j_iconst X (v := (nI 2)) dX10_setShift_25 (by decide) ?_
      exact no 2 (-2) (by decide) (by decide) (by decide) (by unfold vShift; rw [if_neg (by rw [hq]; decide), if_pos hp]) (by decide)
    | true =>
      obtain ⟨k, hk1, rfl, hkn⟩ := pIx_of (by omega) hq
      obtain ⟨d1, d2, d3, d4⟩ := isSh_of hp
      have hk6 : k < 6 := by omega
      have ev0 : vShift (gV G) (nI k) x y = ((besB (pl (gV G) k).2.2.2 x.toInt y.toInt : Int), upP (gV G) k (ptD (pl (gV G) k) x.toInt y.toInt)) := by
        unfold vShift
        rw [if_neg (by rw [hq]; decide), if_neg (by rw [hp]; decide), pAt_nI hkn, hkn]
      refine j_if_eq X (tgt := 25) dX10_setShift_18 (by decide) (fun q9 => absurd q9 (by decide)) (fun _ => ?_)
      refine j_iconst X (v := (nI 0)) dX10_setShift_21 (by decide) ?_
      refine j_goto X (tgt := 26) dX10_setShift_22 (by decide) ?_
      refine j_callV X (m_fails hok hst hM (n := 0) (by decide)) i_X10_fails tw_6_135 tw_6_137 tp_25 M0 rfl dX10_setShift_26 ?_ 
      rw [decide_eq_false (Nat.lt_irrefl 0)]
      refine j_if_eq X (tgt := 34) dX10_setShift_29 (by decide) (fun _ => ?_) (fun q9 => absurd (rfl) q9)
      have hG1 := hG.jcode (nI 0)
      have f1 : ∀ c, c ≠ M → jU t M 7 (nI 0) c = t c := fun c hc => jU_ne _ _ _ hc
      generalize jU t M 7 (nI 0) = t1 at hG1 f1 ⊢
      refine j_aload_n X (i := 0) dX10_setShift_34 rfl rfl ?_
      refine j_aload_n X (i := 0) dX10_setShift_35 rfl rfl ?_
      refine jFd.get X fd_X10_7 M0 rfl dX10_setShift_36 ?_
      refine j_callV_p X (m_keepG hok hst hM hG1 hK) i_X10_keeps tw_6_139 tw_6_141 tp_26 M0 rfl dX10_setShift_39 (fun v2 z2 sk2 t2 hp => ?_) 
      obtain ⟨rfl, rfl, rfl, hG2, c2, f2a⟩ := hp
      have f2 : ∀ c, (c < M ∨ M + 8 ≤ c ∨ c = M + 4 ∨ c = M + 7) → t2 c = t c := fun c hc => (f2a c (by omega) (by omega)).trans (f1 c (by omega))
      have w2 : RmV (t2 (M + 1)) (gV G) := hG2.1
      clear f2a hG1 f1 t1
      have hm := sets_G hG2 k1 hk1 x.toInt y.toInt
      have hf : ∀ c, c ≠ M + 1 → jU (jU t2 (M + 1) (9 + 7 * k + 1) (iN x.toInt)) (M + 1) (9 + 7 * k + 2) (iN y.toInt) c = t2 c := fun c hc => by rw [jU_ne _ _ _ hc, jU_ne _ _ _ hc]
      have h7 := hm.1.2.2.2.2.2.1 k hk1
      rw [show pl (upP (gV G) k (ptD (pl (gV G) k) x.toInt y.toInt)) k = ptD (pl (gV G) k) x.toInt y.toInt from if_pos rfl] at h7
      rw [iN_toInt_self, iN_toInt_self] at hm hf h7
      refine j_aload_n X (i := 0) dX10_setShift_42 rfl rfl ?_
      refine j_iload_n X (i := 1) dX10_setShift_43 rfl rfl ?_
      refine j_iload_n X (i := 2) dX10_setShift_44 rfl rfl ?_
      refine j_iload_n X (i := 3) dX10_setShift_45 rfl rfl ?_
      refine j_callV X (m_sets hok hst hM hk6 x y) i_X10_sets tw_6_190 tw_6_192 tp_32 M0 rfl dX10_setShift_46 ?_ 
      generalize jU (jU t2 (M + 1) (9 + 7 * k + 1) x) (M + 1) (9 + 7 * k + 2) y = t3 at hm hf h7 ⊢
      refine j_aload_n X (i := 0) dX10_setShift_49 rfl rfl ?_
      refine j_iload_n X (i := 1) dX10_setShift_50 rfl rfl ?_
      refine j_callV X (m_beside hok hst hM hk6 h7.2.2.2 h7.2.1 h7.2.2.1 d1 d2 d3 d4) i_X10_beside tw_6_194 tw_6_196 tp_33 M0 rfl dX10_setShift_51 ?_ 
      have hr2 : a_setShift w.1 G (nI k) x y = (0, nI (besB (pl (gV G) k).2.2.2 x.toInt y.toInt), (upP (gV G) k (ptD (pl (gV G) k) x.toInt y.toInt), (kpG w.1 G).2)) := by
        rw [a_setShift, ev0, ch_yes (by omega) (by decide) (by decide) (by decide), iN_nI]
      refine j_iret X dX10_setShift_54 rfl rfl (mP_mk hr2 ?_ hm ?_)
      · rw [hf _ (by omega)]; exact c2
      · intro c hc
        rw [hf c (by omega)]
        exact f2 c hc

theorem m_areNone {l : Launch} {g : jG} (hok : jOk g) (hst : l.stackTraces = false) {z : Option Nat} {sk : jS} {t : jT} {M : Nat} (hM : isMod g sk M) {n : Nat} (hn : t (M + 1) 0 = nI n) (hle : n < 100) (q o : Int32) : jMet l g mX10_areNone 3 0 0 [.ref (jb g + M), .int q, .int o] z sk t (jE (some (.int (nI (!(pIx n q && pIx n o)).toNat))) z sk (jU t M 7 (nI (!(pIx n q && pIx n o)).toNat))) := by
  refine j_body (lv := [some (.ref (jb g + M)), some (.int q), some (.int o)]) i_X10_areNone hok hst (fun p e s m args below meth c X => ?_)
  obtain ⟨M0, M1, M2, M3, M4, M5, M6, M7⟩ := id hM
  have no : (pIx n q && pIx n o) = false → J p l e (jR 3 0 0) s m args below meth c (jQm below args s g 0 0 (jE (some (.int (nI (!(pIx n q && pIx n o)).toNat))) z sk (jU t M 7 (nI (!(pIx n q && pIx n o)).toNat)))) 3 g 0 0 z sk t 21 [some (.ref (jb g + M)), some (.int q), some (.int o)] [.ref (jb g + M)] := fun h => by
    refine j_iconst X (v := (nI 1)) dX10_areNone_21 (by decide) ?_
    refine j_callV X (m_fails hok hst hM (n := 1) (by decide)) i_X10_fails tw_6_135 tw_6_137 tp_25 M0 rfl dX10_areNone_22 ?_ 
    exact j_iret X dX10_areNone_25 rfl (nbB _) ⟨by rw [h]; rfl, rfl, rfl, by rw [h]; rfl⟩
  refine j_aload_n X (i := 0) dX10_areNone_0 rfl rfl ?_
  refine j_aload_n X (i := 0) dX10_areNone_1 rfl rfl ?_
  refine j_iload_n X (i := 1) dX10_areNone_2 rfl rfl ?_
  refine j_callV X (m_isPlate hok hst hM hn hle q) i_X10_isPlate tw_6_150 tw_6_152 tp_27 M0 rfl dX10_areNone_3 ?_ 
  cases hq : pIx n q with
  | false =>
    refine j_if_eq X (tgt := 21) dX10_areNone_6 (by decide) (fun _ => ?_) (fun q9 => absurd (rfl) q9)
    rw [hq] at no
    exact no rfl
  | true =>
    refine j_if_eq X (tgt := 21) dX10_areNone_6 (by decide) (fun q9 => absurd q9 (by decide)) (fun _ => ?_)
    refine j_aload_n X (i := 0) dX10_areNone_9 rfl rfl ?_
    refine j_iload_n X (i := 2) dX10_areNone_10 rfl rfl ?_
    refine j_callV X (m_isPlate hok hst hM hn hle o) i_X10_isPlate tw_6_150 tw_6_152 tp_27 M0 rfl dX10_areNone_11 ?_ 
    cases ho : pIx n o with
    | false =>
      refine j_if_eq X (tgt := 21) dX10_areNone_14 (by decide) (fun _ => ?_) (fun q9 => absurd (rfl) q9)
      rw [hq, ho] at no
      exact no rfl
    | true =>
      refine j_if_eq X (tgt := 21) dX10_areNone_14 (by decide) (fun q9 => absurd q9 (by decide)) (fun _ => ?_)
      refine j_iconst X (v := (nI 0)) dX10_areNone_17 (by decide) ?_
      refine j_goto X (tgt := 22) dX10_areNone_18 (by decide) ?_
      refine j_callV X (m_fails hok hst hM (n := 0) (by decide)) i_X10_fails tw_6_135 tw_6_137 tp_25 M0 rfl dX10_areNone_22 ?_ 
      exact j_iret X dX10_areNone_25 rfl rfl ⟨rfl, rfl, rfl, rfl⟩

theorem m_isNone {l : Launch} {g : jG} (hok : jOk g) (hst : l.stackTraces = false) {z : Option Nat} {sk : jS} {t : jT} {M : Nat} (hM : isMod g sk M) {n : Nat} (hn : t (M + 1) 0 = nI n) (hle : n < 100) (q : Int32) : jMet l g mX10_isNone 3 0 0 [.ref (jb g + M), .int q] z sk t (jE (some (.int (nI (!(pIx n q)).toNat))) z sk (jU t M 7 (nI (!(pIx n q)).toNat))) := by
  refine j_body (lv := [some (.ref (jb g + M)), some (.int q)]) i_X10_isNone hok hst (fun p e s m args below meth c X => ?_)
  obtain ⟨M0, M1, M2, M3, M4, M5, M6, M7⟩ := id hM
  refine j_aload_n X (i := 0) dX10_isNone_0 rfl rfl ?_
  refine j_aload_n X (i := 0) dX10_isNone_1 rfl rfl ?_
  refine j_iload_n X (i := 1) dX10_isNone_2 rfl rfl ?_
  refine j_callV X (m_isPlate hok hst hM hn hle q) i_X10_isPlate tw_6_150 tw_6_152 tp_27 M0 rfl dX10_isNone_3 ?_ 
  cases hq : pIx n q with
  | false =>
    refine j_if_eq X (tgt := 13) dX10_isNone_6 (by decide) (fun _ => ?_) (fun q9 => absurd (rfl) q9)
    refine j_iconst X (v := (nI 1)) dX10_isNone_13 (by decide) ?_
    refine j_callV X (m_fails hok hst hM (n := 1) (by decide)) i_X10_fails tw_6_135 tw_6_137 tp_25 M0 rfl dX10_isNone_14 ?_ 
    exact j_iret X dX10_isNone_17 rfl rfl ⟨rfl, rfl, rfl, rfl⟩
  | true =>
    refine j_if_eq X (tgt := 13) dX10_isNone_6 (by decide) (fun q9 => absurd q9 (by decide)) (fun _ => ?_)
    refine j_iconst X (v := (nI 0)) dX10_isNone_9 (by decide) ?_
    refine j_goto X (tgt := 14) dX10_isNone_10 (by decide) ?_
    refine j_callV X (m_fails hok hst hM (n := 0) (by decide)) i_X10_fails tw_6_135 tw_6_137 tp_25 M0 rfl dX10_isNone_14 ?_ 
    exact j_iret X dX10_isNone_17 rfl rfl ⟨rfl, rfl, rfl, rfl⟩

theorem m_isLost {l : Launch} {g : jG} (hok : jOk g) (hst : l.stackTraces = false) {z : Option Nat} {sk : jS} {t : jT} {M : Nat} (hM : isMod g sk M) {n : Nat} (hn : t (M + 1) 1 = nI n) (hle : n < 100) (q : Int32) : jMet l g mX10_isLost 3 0 0 [.ref (jb g + M), .int q] z sk t (jE (some (.int (nI (!(pIx n q)).toNat))) z sk (jU t M 7 (nI (!(pIx n q)).toNat))) := by
  refine j_body (lv := [some (.ref (jb g + M)), some (.int q)]) i_X10_isLost hok hst (fun p e s m args below meth c X => ?_)
  obtain ⟨M0, M1, M2, M3, M4, M5, M6, M7⟩ := id hM
  refine j_aload_n X (i := 0) dX10_isLost_0 rfl rfl ?_
  refine j_aload_n X (i := 0) dX10_isLost_1 rfl rfl ?_
  refine j_iload_n X (i := 1) dX10_isLost_2 rfl rfl ?_
  refine j_callV X (m_isSheet hok hst hM hn hle q) i_X10_isSheet tw_7_41 tw_7_43 tp_40 M0 rfl dX10_isLost_3 ?_ 
  cases hq : pIx n q with
  | false =>
    refine j_if_eq X (tgt := 13) dX10_isLost_6 (by decide) (fun _ => ?_) (fun q9 => absurd (rfl) q9)
    refine j_iconst X (v := (nI 1)) dX10_isLost_13 (by decide) ?_
    refine j_callV X (m_fails hok hst hM (n := 1) (by decide)) i_X10_fails tw_6_135 tw_6_137 tp_25 M0 rfl dX10_isLost_14 ?_ 
    exact j_iret X dX10_isLost_17 rfl rfl ⟨rfl, rfl, rfl, rfl⟩
  | true =>
    refine j_if_eq X (tgt := 13) dX10_isLost_6 (by decide) (fun q9 => absurd q9 (by decide)) (fun _ => ?_)
    refine j_iconst X (v := (nI 0)) dX10_isLost_9 (by decide) ?_
    refine j_goto X (tgt := 14) dX10_isLost_10 (by decide) ?_
    refine j_callV X (m_fails hok hst hM (n := 0) (by decide)) i_X10_fails tw_6_135 tw_6_137 tp_25 M0 rfl dX10_isLost_14 ?_ 
    exact j_iret X dX10_isLost_17 rfl rfl ⟨rfl, rfl, rfl, rfl⟩

theorem bst_pos (S U : Nat → Bool) : 0 ≤ (bst S U).1 := by
  obtain ⟨h1, h2⟩ := bsG_max S U (-1, 0, 0) rfl 49
  have := h1 0 (by decide)
  unfold bst
  omega
theorem m_fit {l : Launch} {g : jG} (hok : jOk g) (hst : l.stackTraces = false) {z : Option Nat} {sk : jS} {t : jT} {M : Nat} (hM : isMod g sk M) {w : WB} {G : GS} (hG : RmG t M w G) (hK : okG G) (q o : Int32) : jMet l g mX10_fit 5 0 0 [.ref (jb g + M), .int q, .int o] z sk t (mP M w (a_fit w.1 G q o) z sk t) := by
  refine j_body (lv := [some (.ref (jb g + M)), some (.int q), some (.int o), none]) i_X10_fit hok hst (fun p e s m args below meth c X => ?_)
  obtain ⟨M0, M1, M2, M3, M4, M5, M6, M7⟩ := id hM
  obtain ⟨r1, r2, r3, r4, r5, r6, r7, r8, r9, r10, r11⟩ := id hG
  obtain ⟨u1, u2, u3, u4, u5, u6, u7⟩ := id r1
  obtain ⟨k1, k2, k3, k4, k5, k6, k7, k8⟩ := id hK.1
  refine j_aload_n X (i := 0) dX10_fit_0 rfl rfl ?_
  refine j_iload_n X (i := 1) dX10_fit_1 rfl rfl ?_
  refine j_iload_n X (i := 2) dX10_fit_2 rfl rfl ?_
  refine j_callV X (m_areNone hok hst hM u1 (by omega) q o) i_X10_areNone tw_6_206 tw_6_208 tp_35 M0 rfl dX10_fit_3 ?_ 
  cases hqo : (pIx (np (gV G)) q && pIx (np (gV G)) o) with
  | false =>
    have hn : pIx (np (gV G)) q = false ∨ pIx (np (gV G)) o = false := by
      cases hq : pIx (np (gV G)) q with
      | false => exact Or.inl rfl
      | true => rw [hq] at hqo; exact Or.inr hqo
    refine j_if_ne X (tgt := 26) dX10_fit_6 (by decide) (fun _ => ?_) (fun q9 => absurd q9 (by decide))
    refine j_iconst X (v := (nI 0)) dX10_fit_26 (by decide) ?_
    exact j_iret X dX10_fit_27 rfl rfl (mP_no hG (by rw [a_fit, show vFit (gV G) q o = (-1, gV G) by unfold vFit; rw [if_pos hn], ch_no (by decide)]; rfl))
  | true =>
    have hq : pIx (np (gV G)) q = true := by cases hq : pIx (np (gV G)) q with | true => rfl | false => rw [hq] at hqo; exact absurd (show false = true from hqo) (by decide)
    have ho : pIx (np (gV G)) o = true := by rw [hq] at hqo; exact hqo
    have hneg : ¬ (pIx (np (gV G)) q = false ∨ pIx (np (gV G)) o = false) := by rw [hq, ho]; decide
    refine j_if_ne X (tgt := 26) dX10_fit_6 (by decide) (fun q9 => absurd (rfl) q9) (fun _ => ?_)
    have hG := hG.jcode (nI (!true).toNat)
    have f0 : ∀ c, c ≠ M → jU t M 7 (nI (!true).toNat) c = t c := fun c hc => jU_ne _ _ _ hc
    have goal : ∀ t0, (∀ c, c ≠ M → t0 c = t c) → RmG t0 M w G → J p l e (jR 5 0 0) s m args below meth c (jQm below args s g 0 0 (mP M w (a_fit w.1 G q o) z sk t)) 4 g (0 + 0) (0 + 0) z sk  t0 9 [some (.ref (jb g + M)), some (.int q), some (.int o), none] [] := by
      intro t0 f0 hG
      have hfr : ∀ (v2 : Option Value) (z2 : Option Nat) (sk2 : jS) (t2 : jT), mP M w (a_fit w.1 G q o) z sk t0 v2 z2 sk2 t2 → mP M w (a_fit w.1 G q o) z sk t v2 z2 sk2 t2 := fun v2 z2 sk2 t2 h => ⟨h.1, h.2.1, h.2.2.1, h.2.2.2.1, h.2.2.2.2.1, fun c hc => (h.2.2.2.2.2 c hc).trans (f0 c (by omega))⟩
      refine j_aload_n X (i := 0) dX10_fit_9 rfl rfl ?_
      refine j_iload_n X (i := 1) dX10_fit_10 rfl rfl ?_
      refine j_iload_n X (i := 2) dX10_fit_11 rfl rfl ?_
      by_cases he : q = o
      · refine j_icmp_ne X (tgt := 19) dX10_fit_12 (by decide) (fun q9 => absurd (he) q9) (fun _ => ?_)
        refine j_iconst X (v := (nI 2)) dX10_fit_15 (by decide) ?_
        refine j_goto X (tgt := 20) dX10_fit_16 (by decide) ?_
        refine j_callV X (m_fails hok hst hM (n := 2) (by decide)) i_X10_fails tw_6_135 tw_6_137 tp_25 M0 rfl dX10_fit_20 ?_ 
        rw [decide_eq_true (by decide)]
        refine j_if_eq X (tgt := 28) dX10_fit_23 (by decide) (fun q9 => absurd q9 (by decide)) (fun _ => ?_)
        refine j_iconst X (v := (nI 0)) dX10_fit_26 (by decide) ?_
        exact j_iret X dX10_fit_27 rfl rfl (hfr _ _ _ _ (mP_no hG (by rw [a_fit, show vFit (gV G) q o = (-2, gV G) by unfold vFit; rw [if_neg hneg, if_pos he], ch_no (by decide)]; rfl)))
      · have ev0 : vFit (gV G) q o = ((bstV (gV G) q o).1, upP (gV G) q.toInt.toNat (ptD (pAt (gV G) q) (bstV (gV G) q o).2.1 (bstV (gV G) q o).2.2)) := by unfold vFit; rw [if_neg hneg, if_neg he]
        refine j_icmp_ne X (tgt := 19) dX10_fit_12 (by decide) (fun _ => ?_) (fun q9 => absurd q9 (he))
        refine j_iconst X (v := (nI 0)) dX10_fit_19 (by decide) ?_
        clear r1 u1 u2 u3 u4 u5 u6 u7
        refine j_callV X (m_fails hok hst hM (n := 0) (by decide)) i_X10_fails tw_6_135 tw_6_137 tp_25 M0 rfl dX10_fit_20 ?_ 
        rw [decide_eq_false (Nat.lt_irrefl 0)]
        refine j_if_eq X (tgt := 28) dX10_fit_23 (by decide) (fun _ => ?_) (fun q9 => absurd (rfl) q9)
        have hG1 := hG.jcode (nI 0)
        have f1 : ∀ c, c ≠ M → jU t0 M 7 (nI 0) c = t0 c := fun c hc => jU_ne _ _ _ hc
        generalize jU t0 M 7 (nI 0) = t1 at hG1 f1 ⊢
        refine j_aload_n X (i := 0) dX10_fit_28 rfl rfl ?_
        refine j_aload_n X (i := 0) dX10_fit_29 rfl rfl ?_
        refine jFd.get X fd_X10_7 M0 rfl dX10_fit_30 ?_
        refine j_callV_p X (m_keepG hok hst hM hG1 hK) i_X10_keeps tw_6_139 tw_6_141 tp_26 M0 rfl dX10_fit_33 (fun v2 z2 sk2 t2 hp => ?_) 
        obtain ⟨rfl, rfl, rfl, hG2, c2, f2a⟩ := hp
        have f2 : ∀ c, (c < M ∨ M + 8 ≤ c ∨ c = M + 4 ∨ c = M + 7) → t2 c = t0 c := fun c hc => (f2a c (by omega) (by omega)).trans (f1 c (by omega))
        have w2 : RmV (t2 (M + 1)) (gV G) := hG2.1
        clear f2a hG1 f1 t1
        obtain ⟨k, hk1, rfl, hkn⟩ := pIx_of (by omega) hq
        obtain ⟨j, hj1, rfl, hjn⟩ := pIx_of (by omega) ho
        have hk6 : k < 6 := by omega
        have hj6 : j < 6 := by omega
        obtain ⟨B, eB⟩ : ∃ B, B = bst (pl (gV G) k).2.2.2 (pl (gV G) j).2.2.2 := ⟨_, rfl⟩
        have okB : okF B := by rw [eB]; exact bst_ok _ _
        have hB0 : 0 ≤ B.1 := by rw [eB]; exact bst_pos _ _
        unfold bstV at ev0
        rw [pAt_nI hkn, pAt_nI hjn, hkn, ← eB] at ev0
        have W2 := (w2.2.2.2.2.2.1 k hk1).2.2.2
        have W3 := (w2.2.2.2.2.2.1 j hj1).2.2.2
        refine j_aload_n X (i := 0) dX10_fit_36 rfl rfl ?_
        refine j_iload_n X (i := 1) dX10_fit_37 rfl rfl ?_
        refine j_iload_n X (i := 2) dX10_fit_38 rfl rfl ?_
        refine j_callV X (m_best hok hst hM hk6 W2 hj6 W3 hG2.2.2.2.2.2.2.2.2.2.2) i_X10_best tw_6_210 tw_6_212 tp_36 M0 rfl dX10_fit_39 ?_ 
        refine j_istore_n X (i := 3) dX10_fit_42 rfl (by decide) rfl ?_
        rw [← eB]
        have hG3 := hG2.best okB
        have f3 : ∀ c, c ≠ M → bm t2 M B c = t2 c := fun c hc => bm_o _ _ _ hc
        have b16 := bm_16 t2 M B
        have b17 := bm_17 t2 M B
        have b7 : bm t2 M B M 7 = nI 0 := by rw [bm_k _ _ _ (by decide) (by decide)]; exact c2
        generalize bm t2 M B = t3 at hG3 f3 b16 b17 b7 ⊢
        refine j_aload_n X (i := 0) dX10_fit_43 rfl rfl ?_
        refine j_iload_n X (i := 1) dX10_fit_44 rfl rfl ?_
        refine j_aload_n X (i := 0) dX10_fit_45 rfl rfl ?_
        refine jFd.get X fd_X10_118 M0 rfl dX10_fit_46 ?_
        refine j_aload_n X (i := 0) dX10_fit_49 rfl rfl ?_
        refine jFd.get X fd_X10_121 M0 rfl dX10_fit_50 ?_
        rw [b16, b17]
        refine j_callV X (m_sets hok hst hM hk6 _ _) i_X10_sets tw_6_190 tw_6_192 tp_32 M0 rfl dX10_fit_53 ?_ 
        refine j_iload_n X (i := 3) dX10_fit_56 rfl rfl ?_
        have hr2 : a_fit w.1 G (nI k) (nI j) = (0, iN B.1, (upP (gV G) k (ptD (pl (gV G) k) B.2.1 B.2.2), (kpG w.1 G).2)) := by
          rw [a_fit, ev0, ch_yes hB0 (by decide) (by decide) (by decide)]
        refine j_iret X dX10_fit_57 rfl rfl (mP_mk hr2 ?_ (sets_G hG3 k1 hk1 _ _) ?_)
        · rw [jU_ne _ _ _ (by omega), jU_ne _ _ _ (by omega)]; exact b7
        · intro c hc
          rw [jU_ne _ _ _ (by omega), jU_ne _ _ _ (by omega), f3 c (by omega), f2 c hc]
          exact f0 c (by omega)
    exact goal _ f0 hG

