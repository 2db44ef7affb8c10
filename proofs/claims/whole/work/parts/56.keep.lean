/-- a change of the press's own fields and of its output -/
theorem RcG.out2 {t u : jT} {G : GS} (h : RcG t G) {o : TXV} (e0 : ∀ k, k ≠ 8 → u 0 k = t 0 k) (e : ∀ c, c ≠ 0 → c ≠ 452 → u c = t c) (h8 : u 0 8 = nI o.1) (ho : ∀ i, i < o.1 → u 452 i = nI (o.2 i)) : RcG u (setO G o) := by
  obtain ⟨h1, h2, h3, h4, h5, h6, h7, h8', h9⟩ := h
  refine ⟨h1.cong (fun c a b => e c (by omega) (by omega)), ?_, h3.cong (fun c a b => e c (by omega) (by omega)), h4.cong (e _ (by decide) (by decide)), h5.cong (e _ (by decide) (by decide)), ⟨by rw [e 450 (by decide) (by decide)]; exact h6.1, fun i hi => by rw [e 451 (by decide) (by decide)]; exact h6.2 i hi⟩, ⟨h8, ho⟩, (e0 9 (by decide)).trans h8', (e0 10 (by decide)).trans h9⟩
  show RcSv u (gS G)
  cases hS : gS G with
  | none => rw [hS] at h2; exact (e0 11 (by decide)).trans h2
  | some S => rw [hS] at h2; exact ⟨(e0 11 (by decide)).trans h2.1, h2.2.cong (fun c a b => e c (by omega) (by omega))⟩
theorem f_writeRow {l : Launch} {g : jG} (hok : jOk g) (hst : l.stackTraces = false) {z : Option Nat} {sk : jS} {t : jT} {kw : Nat → Nat} (hP : isPr g kw sk) {G : GS} (hG : RcG t G) (hK : okG G) (o y : Int32) : jMetX l g mX9_writeRow 7 2 12 [.ref (jb g + 0), .int o, .int y] z sk t (fP (a_writeRow G o y) z sk t) (fX ["java/lang/IndexOutOfBoundsException", "java/lang/IllegalArgumentException"] (a_writeRow G o y) sk t) := by
  refine j_bodyX (lv := [some (.ref (jb g + 0)), some (.int o), some (.int y), none, none, none]) i_X9_writeRow hok hst (fun p e s m args below meth c X => ?_)
  obtain ⟨P0, P1, P2, P3, P4, P5, P6, P7, P8⟩ := id hP
  obtain ⟨B0, B1, B2, B3, B4, B5⟩ := id P1
  obtain ⟨r1, r2, r3, r4, r5, r6, r7, r8, r9⟩ := id hG
  obtain ⟨v1, v2_, v3, v4, v5, v6⟩ := id r1
  obtain ⟨k1, k2, k3, k4, k5, k6, k7, k8⟩ := id hK.1
  refine j_aload_n X (i := 0) dX9_writeRow_0 rfl rfl ?_
  refine j_iload_n X (i := 1) dX9_writeRow_1 rfl rfl ?_
  refine j_callVX_p X (f_sheetAt hok hst hP hG hK o) i_X9_sheetAt tw_4_100 tw_4_102 tp_9 P0 rfl dX9_writeRow_2 (fun v2 z2 sk2 t1 hp => ?_) (fun E z2 sk2 t1 hp => jE_out (d := 0) X (fX_mk (n := 0) (v := nI 0) (by unfold a_writeRow; rw [if_pos hp.1]) (congrArg some hp.2.1.symm) hp.2.2.1 hp.2.2.2.1 (by rw [hp.2.2.2.2]; exact hG) (fun c _ => by rw [hp.2.2.2.2])))
  obtain ⟨hqk, k, hkk, rfl, hxk, rfl, rfl, rfl, rfl⟩ := hp
  have bk := B5 k (by omega)
  have ck := v6 k (by omega)
  refine j_astore_n X (i := 3) dX9_writeRow_5 rfl (by decide) rfl ?_
  refine j_iconst X (v := (nI 0)) dX9_writeRow_6 (by decide) ?_
  refine j_iload_n X (i := 2) dX9_writeRow_7 rfl rfl ?_
  refine j_callSX_p X (f_requirePlace hok hst (nI 0) y) i_X9_requirePlace tw_3_227 tw_3_228 dX9_writeRow_8 (fun v2 z2 sk2 t2 hp => ?_) (fun E z2 sk2 t2 hp => jE_out (d := 0) X (fX_mk (n := 1) (v := nI 0) (by unfold a_writeRow; rw [if_neg (by rw [hqk]; decide), if_pos ((isPl_0 y).symm.trans hp.1)]) (congrArg some hp.2.1.symm) hp.2.2.1 hp.2.2.2.1 (by rw [hp.2.2.2.2]; exact hG) (fun c _ => by rw [hp.2.2.2.2])))
  obtain ⟨hy0, rfl, rfl, rfl, rfl⟩ := hp
  rw [isPl_0] at hy0
  obtain ⟨dd, hd, rfl, hdn⟩ := pIx_of (n := 8) (by decide) hy0
  have hr : a_writeRow G (nI k) (nI dd) = (0, nI 16, setO G (16, rowV (sh (gV G) k).2.1 dd)) := by unfold a_writeRow; rw [if_neg (by rw [hqk]; decide), if_neg (by rw [hy0]; decide), sAt_k hxk, hdn]
  have loop : ∀ x, x ≤ 16 → J p l e (jR 7 2 12) s m args below meth c (jQx below args s g 2 12 (fP (a_writeRow G (nI k) (nI dd)) z sk t) (fX ["java/lang/IndexOutOfBoundsException", "java/lang/IllegalArgumentException"] (a_writeRow G (nI k) (nI dd)) sk t)) 6 g (0 + 1 + 1) (0 + 6 + 6) z sk (jUf t 452 (fun q => if q < x then nI (rowV (sh (gV G) k).2.1 dd q) else t 452 q)) 14 [some (.ref (jb g + 0)), some (.int (nI k)), some (.int (nI dd)), some (.ref (jb g + (1 + 16 + 3 * k))), some (.int (nI x)), none] [] := by
    refine up_loop ?_ ?_
    · refine j_iload X (i := 4) dX9_writeRow_14 rfl ?_
      refine j_bipush X (v := (nI 16)) dX9_writeRow_16 (by decide) ?_
      refine j_icmp_ge X (tgt := 59) dX9_writeRow_18 (by decide) (fun _ => ?_) (fun q9 => absurd (nI_le (Nat.le_refl _) (by decide)) q9)
      refine j_aload_n X (i := 0) dX9_writeRow_59 rfl rfl ?_
      refine j_bipush X (v := (nI 16)) dX9_writeRow_60 (by decide) ?_
      refine jFd.put X fd_X9_55 P0 rfl rfl rfl rfl dX9_writeRow_62 ?_
      refine j_aload_n X (i := 0) dX9_writeRow_65 rfl rfl ?_
      refine jFd.get X fd_X9_55 P0 rfl dX9_writeRow_66 ?_
      have f8 : jU (jUf t 452 (fun q => if q < 16 then nI (rowV (sh (gV G) k).2.1 dd q) else t 452 q)) 0 8 (nI 16) 0 8 = nI 16 := by rw [jU_eq]; rfl
      rw [f8]
      exact j_iret_x X dX9_writeRow_69 rfl rfl (fP_mk hr (hG.out2 (fun k hk => by rw [jU_eq, jUf_ne _ _ (by decide)]; exact if_neg hk) (fun c h1 h2 => by rw [jU_ne _ _ _ h1, jUf_ne _ _ h2]) f8 (fun i hi => by rw [jU_ne _ _ _ (by decide), jUf_eq]; exact if_pos hi)) (fun c hc => by rw [jU_ne _ _ _ (by omega), jUf_ne _ _ (by omega)]))
    · intro x hx ih
      have e1 : ∀ c, c ≠ 452 → (jUf t 452 (fun q => if q < x then nI (rowV (sh (gV G) k).2.1 dd q) else t 452 q)) c = t c := fun c hc => jUf_ne _ _ hc
      have hR : RcS (jUf t 452 (fun q => if q < x then nI (rowV (sh (gV G) k).2.1 dd q) else t 452 q)) ((1 + 16 + 3 * k)) ((1 + 16 + 3 * k) + 1) ((1 + 16 + 3 * k) + 2) (sh (gV G) k) := ck.cong (e1 _ (by omega)) (e1 _ (by omega)) (e1 _ (by omega))
      refine j_iload X (i := 4) dX9_writeRow_14 rfl ?_
      refine j_bipush X (v := (nI 16)) dX9_writeRow_16 (by decide) ?_
      refine j_icmp_ge X (tgt := 59) dX9_writeRow_18 (by decide) (fun q9 => absurd q9 (nI_ge hx (by decide))) (fun _ => ?_)
      refine j_aload_n X (i := 3) dX9_writeRow_21 rfl rfl ?_
      refine j_iload X (i := 4) dX9_writeRow_22 rfl ?_
      refine j_iload_n X (i := 2) dX9_writeRow_24 rfl rfl ?_
      refine j_callV X (s_colourAt hok hst bk.1 bk.2.1 bk.2.2 hR.2.2.2.1 hR.2.2.2.2 hx hd) i_X7_colourAt tw_4_114 tw_2_120 tw_2_121 bk.1 rfl dX9_writeRow_25 ?_ 
      refine j_istore X (i := 5) dX9_writeRow_28 (by decide) rfl ?_
      have hlt : colN (sh (gV G) k).2.1 (16 * dd + x) < 8 := colN_lt _ _
      have hrow : rowV (sh (gV G) k).2.1 dd x = sgn (colN (sh (gV G) k).2.1 (16 * dd + x)) := rfl
      have done : J p l e (jR 7 2 12) s m args below meth c (jQx below args s g 2 12 (fP (a_writeRow G (nI k) (nI dd)) z sk t) (fX ["java/lang/IndexOutOfBoundsException", "java/lang/IllegalArgumentException"] (a_writeRow G (nI k) (nI dd)) sk t)) 6 g (0 + 1 + 1) (0 + 6 + 6) z sk (jUf t 452 (fun q => if q < x then nI (rowV (sh (gV G) k).2.1 dd q) else t 452 q)) 52 [some (.ref (jb g + 0)), some (.int (nI k)), some (.int (nI dd)), some (.ref (jb g + (1 + 16 + 3 * k))), some (.int (nI x)), some (.int (nI (colN (sh (gV G) k).2.1 (16 * dd + x))))] [.int (nI (sgn (colN (sh (gV G) k).2.1 (16 * dd + x)))), .int (nI x), .ref (jb g + 452)] := by
        refine j_castore X P7 rfl hx (by decide) (sgn_nc _ hlt) dX9_writeRow_52 ?_
        refine j_iinc X (i := 4) (v := (nI (x + 1))) dX9_writeRow_53 rfl (nI_1 x) (by decide) rfl ?_
        refine j_goto X (tgt := 14) dX9_writeRow_56 (by decide) ?_
        have e5 : jU (jUf t 452 (fun q => if q < x then nI (rowV (sh (gV G) k).2.1 dd q) else t 452 q)) 452 x (nI (sgn (colN (sh (gV G) k).2.1 (16 * dd + x)))) = (jUf t 452 (fun q => if q < x + 1 then nI (rowV (sh (gV G) k).2.1 dd q) else t 452 q)) := by
          rw [jU_row, jUf_jUf, jUf_eq]
          congr 1
          funext q
          unfold upd
          by_cases hq : q = x
          · rw [if_pos hq, if_pos (by omega), hq, hrow]
          · rw [if_neg hq]
            show (if q < x then _ else _) = _
            by_cases h2 : q < x
            · rw [if_pos h2, if_pos (by omega)]
            · rw [if_neg h2, if_neg (by omega)]
        rw [e5]
        refine j_drop 5 ?_
        exact ih
      refine j_aload_n X (i := 0) dX9_writeRow_30 rfl rfl ?_
      refine jFd.get X fd_X9_47 P0 rfl dX9_writeRow_31 ?_
      refine j_iload X (i := 4) dX9_writeRow_34 rfl ?_
      refine j_iload X (i := 5) dX9_writeRow_36 rfl ?_
      by_cases hc : colN (sh (gV G) k).2.1 (16 * dd + x) = 0
      · rw [show sgn (colN (sh (gV G) k).2.1 (16 * dd + x)) = 46 from if_pos hc] at done
        refine j_if_ne X (tgt := 46) dX9_writeRow_38 (by decide) (fun q9 => absurd ((congrArg nI hc)) q9) (fun _ => ?_)
        refine j_bipush X (v := (nI 46)) dX9_writeRow_41 (by decide) ?_
        refine j_goto X (tgt := 52) dX9_writeRow_43 (by decide) ?_
        exact done
      · rw [show sgn (colN (sh (gV G) k).2.1 (16 * dd + x)) = 48 + colN (sh (gV G) k).2.1 (16 * dd + x) from if_neg hc] at done
        refine j_if_ne X (tgt := 46) dX9_writeRow_38 (by decide) (fun _ => ?_) (fun q9 => absurd q9 ((fun z9 => hc ((nI_eq (by omega) (by decide)).mp z9))))
        refine j_bipush X (v := (nI 48)) dX9_writeRow_46 (by decide) ?_
        refine j_iload X (i := 5) dX9_writeRow_48 rfl ?_
        refine j_iadd X dX9_writeRow_50 ?_
        rw [nI_add]
        refine j_i2c X dX9_writeRow_51 (sgn_i2c _ hlt) ?_
        exact done
  refine j_iconst X (v := (nI 0)) dX9_writeRow_11 (by decide) ?_
  refine j_istore X (i := 4) dX9_writeRow_12 (by decide) rfl ?_
  have k0 := loop 0 (Nat.zero_le _)
  rw [show (fun q => if q < 0 then nI (rowV (sh (gV G) k).2.1 dd q) else t 452 q) = t 452 from funext fun q => if_neg (Nat.not_lt_zero q), jUf_self] at k0
  exact k0

theorem f_outputCharacter {l : Launch} {g : jG} (hok : jOk g) (hst : l.stackTraces = false) {z : Option Nat} {sk : jS} {t : jT} {kw : Nat → Nat} (hP : isPr g kw sk) {G : GS} (hG : RcG t G) (hK : okG G) (x : Int32) : jMetX l g mX9_outputCharacter 7 1 6 [.ref (jb g + 0), .int x] z sk t (fP (a_outChar G x) z sk t) (fX ["java/lang/IndexOutOfBoundsException"] (a_outChar G x) sk t) := by
  refine j_bodyX (lv := [some (.ref (jb g + 0)), some (.int x)]) i_X9_outputCharacter hok hst (fun p e s m args below meth c X => ?_)
  obtain ⟨P0, P1, P2, P3, P4, P5, P6, P7, P8⟩ := id hP
  obtain ⟨B0, B1, B2, B3, B4, B5⟩ := id P1
  obtain ⟨r1, r2, r3, r4, r5, r6, r7, r8, r9⟩ := id hG
  obtain ⟨v1, v2_, v3, v4, v5, v6⟩ := id r1
  obtain ⟨k1, k2, k3, k4, k5, k6, k7, k8⟩ := id hK.1
  obtain ⟨o16, oc, -, -⟩ := hK.o
  have no : pIx (gO G).1 x = false → J p l e (jR 7 1 6) s m args below meth c (jQx below args s g 1 6 (fP (a_outChar G x) z sk t) (fX ["java/lang/IndexOutOfBoundsException"] (a_outChar G x) sk t)) 2 g 0 0 z sk t 12 [some (.ref (jb g + 0)), some (.int x)] [] := fun h => by
    exact j_throwSW X thr_IO hok.x275 dX9_outputCharacter_12 dX9_outputCharacter_15 dX9_outputCharacter_16 dX9_outputCharacter_19 dX9_outputCharacter_22 (fX_mk (n := 0) (v := nI 32) (by unfold a_outChar; rw [if_neg (by rw [h]; decide)]) rfl rfl rfl hG (fun _ _ => rfl))
  refine j_iload_n X (i := 1) dX9_outputCharacter_0 rfl rfl ?_
  refine j_if_lt X (tgt := 12) dX9_outputCharacter_1 (by decide) (fun h1 => ?_) (fun h1 => ?_)
  · exact no (decide_eq_false (by rw [i_lt0] at h1; omega))
  rw [i_lt0] at h1
  refine j_iload_n X (i := 1) dX9_outputCharacter_4 rfl rfl ?_
  refine j_aload_n X (i := 0) dX9_outputCharacter_5 rfl rfl ?_
  refine jFd.get X fd_X9_55 P0 rfl dX9_outputCharacter_6 ?_
  rw [r7.1]
  refine j_icmp_lt X (tgt := 23) dX9_outputCharacter_9 (by decide) (fun h9 => ?_) (fun h9 => ?_)
  · rw [i_ltn (by omega)] at h9
    have hp : pIx (gO G).1 x = true := decide_eq_true ⟨by omega, h9⟩
    obtain ⟨cx, hcx, rfl, ecx⟩ := pIx_of (by omega) hp
    refine j_aload_n X (i := 0) dX9_outputCharacter_23 rfl rfl ?_
    refine jFd.get X fd_X9_47 P0 rfl dX9_outputCharacter_24 ?_
    refine j_iload_n X (i := 1) dX9_outputCharacter_27 rfl rfl ?_
    refine j_cald X P7 rfl (by omega) (by decide) dX9_outputCharacter_28 ?_
    rw [r7.2 cx hcx]
    exact j_iret_x X dX9_outputCharacter_29 rfl (pk_charN (oc _)).1 (fP_mk (by unfold a_outChar; rw [if_pos hp, ecx]) hG (fun _ _ => rfl))
  · rw [i_ltn (by omega)] at h9
    exact no (decide_eq_false (by omega))

theorem f_platesCons {l : Launch} {g : jG} (hok : jOk g) (hst : l.stackTraces = false) {z : Option Nat} {sk : jS} {t : jT} {kw : Nat → Nat} (hP : isPr g kw sk) {G : GS} (hG : RcG t G) (hK : okG G) : jMet l g mX9_platesAreConsistent 5 0 0 [.ref (jb g + 0)] z sk t (fun v2 z2 sk2 t2 => v2 = some (.int (nI 1)) ∧ z = z2 ∧ sk = sk2 ∧ RcG t2 G ∧ ∀ c, 454 ≤ c → t2 c = t c) := by
  refine j_body (lv := [some (.ref (jb g + 0)), none, none]) i_X9_platesAreConsistent hok hst (fun p e s m args below meth c X => ?_)
  obtain ⟨P0, P1, P2, P3, P4, P5, P6, P7, P8⟩ := id hP
  obtain ⟨B0, B1, B2, B3, B4, B5⟩ := id P1
  obtain ⟨r1, r2, r3, r4, r5, r6, r7, r8, r9⟩ := id hG
  obtain ⟨v1, v2_, v3, v4, v5, v6⟩ := id r1
  obtain ⟨k1, k2, k3, k4, k5, k6, k7, k8⟩ := id hK.1
  have outer : ∀ k, k ≤ np (gV G) → ∀ t1, RcG t1 G → (∀ c, 454 ≤ c → t1 c = t c) → J p l e (jR 5 0 0) s m args below meth c (jQm below args s g 0 0 (fun v2 z2 sk2 t2 => v2 = some (.int (nI 1)) ∧ z = z2 ∧ sk = sk2 ∧ RcG t2 G ∧ ∀ c, 454 ≤ c → t2 c = t c)) 3 g 0 0 z sk t1 2 [some (.ref (jb g + 0)), some (.int (nI k)), none] [] := by
    refine up_loop ?_ ?_
    · intro t1 hG1 hf1
      refine j_iload_n X (i := 1) dX9_platesAreConsistent_2 rfl rfl ?_
      refine j_aload_n X (i := 0) dX9_platesAreConsistent_3 rfl rfl ?_
      refine jFd.get X fd_X9_12 P0 rfl dX9_platesAreConsistent_4 ?_
      refine jFd.get X fd_X9_94 B0 rfl dX9_platesAreConsistent_7 ?_
      rw [hG1.1.1]
      refine j_icmp_ge X (tgt := 100) dX9_platesAreConsistent_10 (by decide) (fun _ => ?_) (fun q9 => absurd (nI_le (Nat.le_refl _) (by omega)) q9)
      refine j_iconst X (v := (nI 1)) dX9_platesAreConsistent_100 (by decide) ?_
      exact j_iret X dX9_platesAreConsistent_101 rfl rfl ⟨rfl, rfl, rfl, hG1, hf1⟩
    · intro k hk ih t1 hG1 hf1
      refine j_iload_n X (i := 1) dX9_platesAreConsistent_2 rfl rfl ?_
      refine j_aload_n X (i := 0) dX9_platesAreConsistent_3 rfl rfl ?_
      refine jFd.get X fd_X9_12 P0 rfl dX9_platesAreConsistent_4 ?_
      refine jFd.get X fd_X9_94 B0 rfl dX9_platesAreConsistent_7 ?_
      rw [hG1.1.1]
      refine j_icmp_ge X (tgt := 100) dX9_platesAreConsistent_10 (by decide) (fun q9 => absurd q9 (nI_ge hk (by omega))) (fun _ => ?_)
      refine j_iconst X (v := (nI 0)) dX9_platesAreConsistent_13 (by decide) ?_
      refine j_istore_n X (i := 2) dX9_platesAreConsistent_14 rfl (by decide) rfl ?_
      have inner : ∀ j, j ≤ np (gV G) → ∀ t1, RcG t1 G → (∀ c, 454 ≤ c → t1 c = t c) → J p l e (jR 5 0 0) s m args below meth c (jQm below args s g 0 0 (fun v2 z2 sk2 t2 => v2 = some (.int (nI 1)) ∧ z = z2 ∧ sk = sk2 ∧ RcG t2 G ∧ ∀ c, 454 ≤ c → t2 c = t c)) 3 g 0 0 z sk t1 15 [some (.ref (jb g + 0)), some (.int (nI k)), some (.int (nI j))] [] := by
        refine up_loop ?_ ?_
        · intro t1 hG1 hf1
          refine j_iload_n X (i := 2) dX9_platesAreConsistent_15 rfl rfl ?_
          refine j_aload_n X (i := 0) dX9_platesAreConsistent_16 rfl rfl ?_
          refine jFd.get X fd_X9_12 P0 rfl dX9_platesAreConsistent_17 ?_
          refine jFd.get X fd_X9_94 B0 rfl dX9_platesAreConsistent_20 ?_
          rw [hG1.1.1]
          refine j_icmp_ge X (tgt := 94) dX9_platesAreConsistent_23 (by decide) (fun _ => ?_) (fun q9 => absurd (nI_le (Nat.le_refl _) (by omega)) q9)
          refine j_iinc X (i := 1) (v := (nI (k + 1))) dX9_platesAreConsistent_94 rfl (nI_1 k) (by decide) rfl ?_
          refine j_goto X (tgt := 2) dX9_platesAreConsistent_97 (by decide) ?_
          exact j_drop 2 (ih t1 hG1 hf1)
        · intro j hj ihj t1 hG1 hf1
          have bk := B4 k (by omega)
          have bj := B4 j (by omega)
          have ck := hG1.1.2.2.2.2.1 k (by omega)
          have cj := hG1.1.2.2.2.2.1 j (by omega)
          obtain ⟨fx, fy, f6, f7, fa, fb, fc, fd⟩ := id hG1.2.2.2.1
          refine j_iload_n X (i := 2) dX9_platesAreConsistent_15 rfl rfl ?_
          refine j_aload_n X (i := 0) dX9_platesAreConsistent_16 rfl rfl ?_
          refine jFd.get X fd_X9_12 P0 rfl dX9_platesAreConsistent_17 ?_
          refine jFd.get X fd_X9_94 B0 rfl dX9_platesAreConsistent_20 ?_
          rw [hG1.1.1]
          refine j_icmp_ge X (tgt := 94) dX9_platesAreConsistent_23 (by decide) (fun q9 => absurd q9 (nI_ge hj (by omega))) (fun _ => ?_)
          refine j_aload_n X (i := 0) dX9_platesAreConsistent_26 rfl rfl ?_
          refine jFd.get X fd_X9_29 P0 rfl dX9_platesAreConsistent_27 ?_
          refine j_aload_n X (i := 0) dX9_platesAreConsistent_30 rfl rfl ?_
          refine jFd.get X fd_X9_12 P0 rfl dX9_platesAreConsistent_31 ?_
          refine jFd.get X fd_X9_358 B0 rfl dX9_platesAreConsistent_34 ?_
          refine j_iload_n X (i := 1) dX9_platesAreConsistent_37 rfl rfl ?_
          refine j_aald X B1 (by decide) rfl (show k < 6 by omega) (by decide) rfl dX9_platesAreConsistent_38 ?_
          refine j_aload_n X (i := 0) dX9_platesAreConsistent_39 rfl rfl ?_
          refine jFd.get X fd_X9_12 P0 rfl dX9_platesAreConsistent_40 ?_
          refine jFd.get X fd_X9_358 B0 rfl dX9_platesAreConsistent_43 ?_
          refine j_iload_n X (i := 2) dX9_platesAreConsistent_46 rfl rfl ?_
          refine j_aald X B1 (by decide) rfl (show j < 6 by omega) (by decide) rfl dX9_platesAreConsistent_47 ?_
          refine j_callV X (s_tryAll hok hst bk.1 bk.2 ck.2.2.2 bj.1 bj.2 cj.2.2.2 P4.1 (by omega) (by omega) f6 f7 fa fb fc fd) i_X1_tryAllShifts tw_2_59 tw_2_60 tw_2_61 P4.1 rfl dX9_platesAreConsistent_48 ?_ 
          refine j_aload_n X (i := 0) dX9_platesAreConsistent_51 rfl rfl ?_
          refine jFd.get X fd_X9_29 P0 rfl dX9_platesAreConsistent_52 ?_
          refine jFd.get X fd_X9_142 P4.1 rfl dX9_platesAreConsistent_55 ?_
          rw [fit3_f]
          have hG2 : RcG (fit3 t1 443 (bst (pl (gV G) k).2.2.2 (pl (gV G) j).2.2.2)) G := hG1.fit _ _
          have hf2 : ∀ c, 454 ≤ c → fit3 t1 443 (bst (pl (gV G) k).2.2.2 (pl (gV G) j).2.2.2) c = t c := fun c hc => (fit3_ne _ _ (by omega)).trans (hf1 c hc)
          generalize fit3 t1 443 (bst (pl (gV G) k).2.2.2 (pl (gV G) j).2.2.2) = t3 at hG2 hf2 ⊢
          have ck := hG2.1.2.2.2.2.1 k (by omega)
          have cj := hG2.1.2.2.2.2.1 j (by omega)
          refine j_aload_n X (i := 0) dX9_platesAreConsistent_58 rfl rfl ?_
          refine jFd.get X fd_X9_29 P0 rfl dX9_platesAreConsistent_59 ?_
          refine j_aload_n X (i := 0) dX9_platesAreConsistent_62 rfl rfl ?_
          refine jFd.get X fd_X9_12 P0 rfl dX9_platesAreConsistent_63 ?_
          refine jFd.get X fd_X9_358 B0 rfl dX9_platesAreConsistent_66 ?_
          refine j_iload_n X (i := 1) dX9_platesAreConsistent_69 rfl rfl ?_
          refine j_aald X B1 (by decide) rfl (show k < 6 by omega) (by decide) rfl dX9_platesAreConsistent_70 ?_
          refine j_aload_n X (i := 0) dX9_platesAreConsistent_71 rfl rfl ?_
          refine jFd.get X fd_X9_12 P0 rfl dX9_platesAreConsistent_72 ?_
          refine jFd.get X fd_X9_358 B0 rfl dX9_platesAreConsistent_75 ?_
          refine j_iload_n X (i := 2) dX9_platesAreConsistent_78 rfl rfl ?_
          refine j_aald X B1 (by decide) rfl (show j < 6 by omega) (by decide) rfl dX9_platesAreConsistent_79 ?_
          refine j_callV_p X (s_countPairs hok hst bk.1 bk.2 ck.2.2.2 bj.1 bj.2 cj.2.2.2 P4.1 P4.2.1 P4.2.2.1 P4.2.2.2.1 P4.2.2.2.2.1 P4.2.2.2.2.2 (by omega) (by omega) (k3 k (by omega)).2.2.2.2.2 (k3 j (by omega)).2.2.2.2.2) i_X1_countPairs tw_2_88 tw_2_89 tw_2_90 P4.1 rfl dX9_platesAreConsistent_80 (fun v2 z2 sk2 t4 hp => ?_) 
          obtain ⟨rfl, rfl, rfl, g1⟩ := hp
          refine j_icmp_eq X (tgt := 88) dX9_platesAreConsistent_83 (by decide) (fun _ => ?_) (fun q9 => absurd (rfl) q9)
          refine j_iinc X (i := 2) (v := (nI (j + 1))) dX9_platesAreConsistent_88 rfl (nI_1 j) (by decide) rfl ?_
          refine j_goto X (tgt := 15) dX9_platesAreConsistent_91 (by decide) ?_
          exact ihj t4 (hG2.out fun c hc => g1 c (by omega)) (fun c hc => (g1 c (by omega)).trans (hf2 c hc))
      exact inner 0 (Nat.zero_le _) t1 hG1 hf1
  refine j_iconst X (v := (nI 0)) dX9_platesAreConsistent_0 (by decide) ?_
  refine j_istore_n X (i := 1) dX9_platesAreConsistent_1 rfl (by decide) rfl ?_
  exact outer 0 (Nat.zero_le _) t hG (fun _ _ => rfl)

theorem f_sheetsCons {l : Launch} {g : jG} (hok : jOk g) (hst : l.stackTraces = false) {z : Option Nat} {sk : jS} {t : jT} {kw : Nat → Nat} (hP : isPr g kw sk) {G : GS} (hG : RcG t G) (hK : okG G) : jMet l g mX9_sheetsAreConsistent 4 0 0 [.ref (jb g + 0)] z sk t (jE (some (.int (nI 1))) z sk t) := by
  refine j_body (lv := [some (.ref (jb g + 0)), none, none]) i_X9_sheetsAreConsistent hok hst (fun p e s m args below meth c X => ?_)
  obtain ⟨P0, P1, P2, P3, P4, P5, P6, P7, P8⟩ := id hP
  obtain ⟨B0, B1, B2, B3, B4, B5⟩ := id P1
  obtain ⟨r1, r2, r3, r4, r5, r6, r7, r8, r9⟩ := id hG
  obtain ⟨v1, v2_, v3, v4, v5, v6⟩ := id r1
  obtain ⟨k1, k2, k3, k4, k5, k6, k7, k8⟩ := id hK.1
  have loop : ∀ k, k ≤ ns (gV G) → J p l e (jR 4 0 0) s m args below meth c (jQm below args s g 0 0 (jE (some (.int (nI 1))) z sk t)) 3 g 0 0 z sk t 2 [some (.ref (jb g + 0)), some (.int (nI k)), none] [] := by
    refine up_loop ?_ ?_
    · refine j_iload_n X (i := 1) dX9_sheetsAreConsistent_2 rfl rfl ?_
      refine j_aload_n X (i := 0) dX9_sheetsAreConsistent_3 rfl rfl ?_
      refine jFd.get X fd_X9_12 P0 rfl dX9_sheetsAreConsistent_4 ?_
      refine jFd.get X fd_X9_172 B0 rfl dX9_sheetsAreConsistent_7 ?_
      rw [v2_]
      refine j_icmp_ge X (tgt := 67) dX9_sheetsAreConsistent_10 (by decide) (fun _ => ?_) (fun q9 => absurd (nI_le (Nat.le_refl _) (by omega)) q9)
      refine j_iconst X (v := (nI 1)) dX9_sheetsAreConsistent_67 (by decide) ?_
      exact j_iret X dX9_sheetsAreConsistent_68 rfl rfl ⟨rfl, rfl, rfl, rfl⟩
    · intro k hk ih
      have bk := B5 k (by omega)
      have ck := v6 k (by omega)
      have oS := k4 k (by omega)
      refine j_iload_n X (i := 1) dX9_sheetsAreConsistent_2 rfl rfl ?_
      refine j_aload_n X (i := 0) dX9_sheetsAreConsistent_3 rfl rfl ?_
      refine jFd.get X fd_X9_12 P0 rfl dX9_sheetsAreConsistent_4 ?_
      refine jFd.get X fd_X9_172 B0 rfl dX9_sheetsAreConsistent_7 ?_
      rw [v2_]
      refine j_icmp_ge X (tgt := 67) dX9_sheetsAreConsistent_10 (by decide) (fun q9 => absurd q9 (nI_ge hk (by omega))) (fun _ => ?_)
      refine j_aload_n X (i := 0) dX9_sheetsAreConsistent_13 rfl rfl ?_
      refine jFd.get X fd_X9_12 P0 rfl dX9_sheetsAreConsistent_14 ?_
      refine jFd.get X fd_X9_199 B0 rfl dX9_sheetsAreConsistent_17 ?_
      refine j_iload_n X (i := 1) dX9_sheetsAreConsistent_20 rfl rfl ?_
      refine j_aald X B2 (by decide) rfl (show k < 8 by omega) (by decide) rfl dX9_sheetsAreConsistent_21 ?_
      refine j_astore_n X (i := 2) dX9_sheetsAreConsistent_22 rfl (by decide) rfl ?_
      refine j_aload_n X (i := 2) dX9_sheetsAreConsistent_23 rfl rfl ?_
      refine j_callV X (s_countMisprints hok hst bk.1 bk.2.1 bk.2.2 ck.2.2.2.1 ck.2.2.2.2) i_X7_countMisprints tw_2_115 tw_2_116 tw_2_117 bk.1 rfl dX9_sheetsAreConsistent_24 ?_ 
      refine j_aload_n X (i := 2) dX9_sheetsAreConsistent_27 rfl rfl ?_
      refine j_callV X (s_misprintsBySets hok hst bk.1 bk.2.1 bk.2.2 ck.2.2.2.1 ck.2.2.2.2) i_X7_countMisprintsBySets tw_2_130 tw_2_131 tw_2_132 bk.1 rfl dX9_sheetsAreConsistent_28 ?_ 
      refine j_icmp_ne X (tgt := 59) dX9_sheetsAreConsistent_31 (by decide) (fun q9 => absurd (rfl) q9) (fun _ => ?_)
      refine j_aload_n X (i := 2) dX9_sheetsAreConsistent_34 rfl rfl ?_
      refine j_aload_n X (i := 0) dX9_sheetsAreConsistent_35 rfl rfl ?_
      refine jFd.get X fd_X9_12 P0 rfl dX9_sheetsAreConsistent_36 ?_
      refine jFd.get X fd_X9_254 B0 rfl dX9_sheetsAreConsistent_39 ?_
      rw [v3]
      refine j_callV X (s_countHours hok hst bk.1 ck.1 (Nat.lt_of_le_of_lt oS.1 (by decide)) ck.2.2.1 oS.2.1 oS.2.2 (hr (gV G))) i_X7_countHoursUntilDry tw_2_135 tw_2_136 tw_2_137 bk.1 rfl dX9_sheetsAreConsistent_42 ?_ 
      refine j_aload_n X (i := 2) dX9_sheetsAreConsistent_45 rfl rfl ?_
      refine j_aload_n X (i := 0) dX9_sheetsAreConsistent_46 rfl rfl ?_
      refine jFd.get X fd_X9_12 P0 rfl dX9_sheetsAreConsistent_47 ?_
      refine jFd.get X fd_X9_254 B0 rfl dX9_sheetsAreConsistent_50 ?_
      rw [v3]
      refine j_callV X (s_computeHours hok hst bk.1 ck.1 (Nat.lt_of_le_of_lt oS.1 (by decide)) ck.2.2.1 oS.2.1 oS.2.2 (hr (gV G))) i_X7_computeHoursUntilDry tw_2_147 tw_2_148 tw_2_149 bk.1 rfl dX9_sheetsAreConsistent_53 ?_ 
      refine j_icmp_eq X (tgt := 61) dX9_sheetsAreConsistent_56 (by decide) (fun _ => ?_) (fun q9 => absurd (rfl) q9)
      refine j_iinc X (i := 1) (v := (nI (k + 1))) dX9_sheetsAreConsistent_61 rfl (nI_1 k) (by decide) rfl ?_
      refine j_goto X (tgt := 2) dX9_sheetsAreConsistent_64 (by decide) ?_
      exact j_drop 2 ih
  refine j_iconst X (v := (nI 0)) dX9_sheetsAreConsistent_0 (by decide) ?_
  refine j_istore_n X (i := 1) dX9_sheetsAreConsistent_1 rfl (by decide) rfl ?_
  exact loop 0 (Nat.zero_le _)

theorem f_isConsistent {l : Launch} {g : jG} (hok : jOk g) (hst : l.stackTraces = false) {z : Option Nat} {sk : jS} {t : jT} {kw : Nat → Nat} (hP : isPr g kw sk) {G : GS} (hG : RcG t G) (hK : okG G) : jMet l g mX9_isConsistent 6 0 0 [.ref (jb g + 0)] z sk t (fP (a_isConsistent G) z sk t) := by
  refine j_body (lv := [some (.ref (jb g + 0))]) i_X9_isConsistent hok hst (fun p e s m args below meth c X => ?_)
  obtain ⟨P0, P1, P2, P3, P4, P5, P6, P7, P8⟩ := id hP
  obtain ⟨B0, B1, B2, B3, B4, B5⟩ := id P1
  obtain ⟨r1, r2, r3, r4, r5, r6, r7, r8, r9⟩ := id hG
  obtain ⟨v1, v2_, v3, v4, v5, v6⟩ := id r1
  obtain ⟨k1, k2, k3, k4, k5, k6, k7, k8⟩ := id hK.1
  refine j_aload_n X (i := 0) dX9_isConsistent_0 rfl rfl ?_
  refine j_callV_p X (f_platesCons hok hst hP hG hK) i_X9_platesAreConsistent tw_2_55 tw_2_57 tp_0 P0 rfl dX9_isConsistent_1 (fun v2 z2 sk2 t1 hp => ?_) 
  obtain ⟨rfl, rfl, rfl, hG1, hf1⟩ := hp
  refine j_if_eq X (tgt := 18) dX9_isConsistent_4 (by decide) (fun q9 => absurd q9 ((show ¬ nI 1 = 0 by decide))) (fun _ => ?_)
  refine j_aload_n X (i := 0) dX9_isConsistent_7 rfl rfl ?_
  refine j_callV X (f_sheetsCons hok hst hP hG1 hK) i_X9_sheetsAreConsistent tw_2_111 tw_2_113 tp_3 P0 rfl dX9_isConsistent_8 ?_ 
  refine j_if_eq X (tgt := 18) dX9_isConsistent_11 (by decide) (fun q9 => absurd q9 ((show ¬ nI 1 = 0 by decide))) (fun _ => ?_)
  refine j_iconst X (v := (nI 1)) dX9_isConsistent_14 (by decide) ?_
  refine j_goto X (tgt := 19) dX9_isConsistent_15 (by decide) ?_
  exact j_iret X dX9_isConsistent_19 rfl rfl (fP_mk rfl hG1 hf1)

theorem f_isFull {l : Launch} {g : jG} (hok : jOk g) (hst : l.stackTraces = false) {z : Option Nat} {sk : jS} {t : jT} {kw : Nat → Nat} (hI : sk 450 = some (jInp g kw) ∧ sk 451 = some (kA .char 60)) {n : Nat} (h1 : t 450 1 = nI n) (hn : n ≤ 60) : jMet l g mX3_isFull 1 0 0 [.ref (jb g + 450)] z sk t (jE (some (.int (nI (decide (n = 60)).toNat))) z sk t) := by
  refine j_body (lv := [some (.ref (jb g + 450))]) i_X3_isFull hok hst (fun p e s m args below meth c X => ?_)
  refine j_aload_n X (i := 0) dX3_isFull_0 rfl rfl ?_
  refine jFd.get X fd_X3_15 hI.1 rfl dX3_isFull_1 ?_
  refine j_bipush X (v := (nI 60)) dX3_isFull_4 (by decide) ?_
  rw [h1]
  by_cases q : n = 60
  · refine j_icmp_lt X (tgt := 13) dX3_isFull_6 (by decide) (fun q9 => absurd q9 ((show ¬ nI n < nI 60 from nI_nlt (by omega) (by omega)))) (fun _ => ?_)
    refine j_iconst X (v := (nI 1)) dX3_isFull_9 (by decide) ?_
    refine j_goto X (tgt := 14) dX3_isFull_10 (by decide) ?_
    exact j_iret X dX3_isFull_14 rfl rfl ⟨by rw [decide_eq_true q]; rfl, rfl, rfl, rfl⟩
  · refine j_icmp_lt X (tgt := 13) dX3_isFull_6 (by decide) (fun _ => ?_) (fun q9 => absurd (nI_lt (by omega) (by decide)) q9)
    refine j_iconst X (v := (nI 0)) dX3_isFull_13 (by decide) ?_
    exact j_iret X dX3_isFull_14 rfl rfl ⟨by rw [decide_eq_false q]; rfl, rfl, rfl, rfl⟩

theorem f_append {l : Launch} {g : jG} (hok : jOk g) (hst : l.stackTraces = false) {z : Option Nat} {sk : jS} {t : jT} {kw : Nat → Nat} (hI : sk 450 = some (jInp g kw) ∧ sk 451 = some (kA .char 60)) {n x : Nat} (h1 : t 450 1 = nI n) (hn : n < 60) (hx : x < 65536) : jMet l g mX3_append 1 0 0 [.ref (jb g + 450), .int (nI x)] z sk t (jE (some (.int (nI (n + 1)))) z sk (jU (jU t 451 n (nI x)) 450 1 (nI (n + 1)))) := by
  refine j_body (lv := [some (.ref (jb g + 450)), some (.int (nI x))]) i_X3_append hok hst (fun p e s m args below meth c X => ?_)
  refine j_aload_n X (i := 0) dX3_append_0 rfl rfl ?_
  refine jFd.get X fd_X3_9 hI.1 rfl dX3_append_1 ?_
  refine j_aload_n X (i := 0) dX3_append_4 rfl rfl ?_
  refine jFd.get X fd_X3_15 hI.1 rfl dX3_append_5 ?_
  rw [h1]
  refine j_iload_n X (i := 1) dX3_append_8 rfl rfl ?_
  refine j_castore X hI.2 rfl hn (by decide) (pk_charN hx).1 dX3_append_9 ?_
  refine j_aload_n X (i := 0) dX3_append_10 rfl rfl ?_
  refine j_dup X dX3_append_11 rfl ?_
  refine jFd.get X fd_X3_15 hI.1 rfl dX3_append_12 ?_
  rw [jU_ne _ _ _ (show (450 : Nat) ≠ 451 by decide), h1]
  refine j_iconst X (v := (nI 1)) dX3_append_15 (by decide) ?_
  refine j_iadd X dX3_append_16 ?_
  rw [nI_add]
  refine jFd.put X fd_X3_15 hI.1 rfl rfl rfl rfl dX3_append_17 ?_
  refine j_aload_n X (i := 0) dX3_append_20 rfl rfl ?_
  refine jFd.get X fd_X3_15 hI.1 rfl dX3_append_21 ?_
  rw [jU_eq, show upd (jU t 451 n (nI x) 450) 1 (nI (n + 1)) 1 = nI (n + 1) from if_pos rfl]
  exact j_iret X dX3_append_24 rfl rfl ⟨rfl, rfl, rfl, rfl⟩

theorem f_inClear {l : Launch} {g : jG} (hok : jOk g) (hst : l.stackTraces = false) {z : Option Nat} {sk : jS} {t : jT} {kw : Nat → Nat} (hI : sk 450 = some (jInp g kw) ∧ sk 451 = some (kA .char 60)) : jMet l g mX3_clear 1 0 0 [.ref (jb g + 450)] z sk t (jE none z sk (jU t 450 1 (nI 0))) := by
  refine j_body (lv := [some (.ref (jb g + 450))]) i_X3_clear hok hst (fun p e s m args below meth c X => ?_)
  refine j_aload_n X (i := 0) dX3_clear_0 rfl rfl ?_
  refine j_iconst X (v := (nI 0)) dX3_clear_1 (by decide) ?_
  refine jFd.put X fd_X3_15 hI.1 rfl rfl rfl rfl dX3_clear_2 ?_
  exact j_vret X dX3_clear_5 rfl ⟨rfl, rfl, rfl, rfl⟩

theorem f_rewind {l : Launch} {g : jG} (hok : jOk g) (hst : l.stackTraces = false) {z : Option Nat} {sk : jS} {t : jT} {kw : Nat → Nat} (hI : sk 450 = some (jInp g kw) ∧ sk 451 = some (kA .char 60)) : jMet l g mX3_rewind 1 0 0 [.ref (jb g + 450)] z sk t (jE none z sk (jU (jU t 450 2 (nI 1)) 450 3 (nI 0))) := by
  refine j_body (lv := [some (.ref (jb g + 450))]) i_X3_rewind hok hst (fun p e s m args below meth c X => ?_)
  refine j_aload_n X (i := 0) dX3_rewind_0 rfl rfl ?_
  refine j_iconst X (v := (nI 1)) dX3_rewind_1 (by decide) ?_
  refine jFd.put X fd_X3_19 hI.1 rfl rfl rfl rfl dX3_rewind_2 ?_
  refine j_aload_n X (i := 0) dX3_rewind_5 rfl rfl ?_
  refine j_iconst X (v := (nI 0)) dX3_rewind_6 (by decide) ?_
  refine jFd.put X fd_X3_23 hI.1 rfl rfl rfl rfl dX3_rewind_7 ?_
  exact j_vret X dX3_rewind_10 rfl ⟨rfl, rfl, rfl, rfl⟩

/-- a change of the input -/
theorem RcG.inp {t u : jT} {G : GS} (h : RcG t G) {x : TXV} (e : ∀ c, c ≠ 450 → c ≠ 451 → u c = t c) (h1 : u 450 1 = nI x.1) (hx : ∀ i, i < x.1 → u 451 i = nI (x.2 i)) : RcG u (setT G x) := by
  obtain ⟨a1, a2, a3, a4, a5, a6, a7, a8, a9⟩ := h
  exact ⟨a1.cong (fun c a b => e c (by omega) (by omega)), a2.cong (e 0 (by decide) (by decide)) (fun c a b => e c (by omega) (by omega)), a3.cong (fun c a b => e c (by omega) (by omega)), a4.cong (e _ (by decide) (by decide)), a5.cong (e _ (by decide) (by decide)), ⟨h1, hx⟩, ⟨by rw [e 0 (by decide) (by decide)]; exact a7.1, fun i hi => by rw [e 452 (by decide) (by decide)]; exact a7.2 i hi⟩, by rw [e 0 (by decide) (by decide)]; exact a8, by rw [e 0 (by decide) (by decide)]; exact a9⟩
theorem f_feed {l : Launch} {g : jG} (hok : jOk g) (hst : l.stackTraces = false) {z : Option Nat} {sk : jS} {t : jT} {kw : Nat → Nat} (hP : isPr g kw sk) {G : GS} (hG : RcG t G) (hK : okG G) {x : Nat} (hx : x < 65536) : jMetX l g mX9_feed 7 1 6 [.ref (jb g + 0), .int (nI x)] z sk t (fP (a_feed G x) z sk t) (fX ["java/lang/IllegalStateException"] (a_feed G x) sk t) := by
  refine j_bodyX (lv := [some (.ref (jb g + 0)), some (.int (nI x))]) i_X9_feed hok hst (fun p e s m args below meth c X => ?_)
  obtain ⟨P0, P1, P2, P3, P4, P5, P6, P7, P8⟩ := id hP
  obtain ⟨B0, B1, B2, B3, B4, B5⟩ := id P1
  obtain ⟨r1, r2, r3, r4, r5, r6, r7, r8, r9⟩ := id hG
  obtain ⟨v1, v2_, v3, v4, v5, v6⟩ := id r1
  obtain ⟨k1, k2, k3, k4, k5, k6, k7, k8⟩ := id hK.1
  have h60 : (gT G).1 ≤ 60 := hK.2.2.2.2.1
  refine j_aload_n X (i := 0) dX9_feed_0 rfl rfl ?_
  refine jFd.get X fd_X9_43 P0 rfl dX9_feed_1 ?_
  refine j_callV X (f_isFull hok hst P6 r6.1 h60) i_X3_isFull tw_5_108 tw_5_109 tw_5_110 P6.1 rfl dX9_feed_4 ?_ 
  by_cases q : (gT G).1 = 60
  · rw [decide_eq_true q]
    refine j_if_eq X (tgt := 21) dX9_feed_7 (by decide) (fun q9 => absurd q9 (by decide)) (fun _ => ?_)
    exact j_throwSW X thr_IS hok.x288 dX9_feed_10 dX9_feed_13 dX9_feed_14 dX9_feed_17 dX9_feed_20 (fX_mk (n := 0) (v := nI 0) (by unfold a_feed; rw [if_pos q]) rfl rfl rfl hG (fun _ _ => rfl))
  · rw [decide_eq_false q]
    refine j_if_eq X (tgt := 21) dX9_feed_7 (by decide) (fun _ => ?_) (fun q9 => absurd (rfl) q9)
    refine j_aload_n X (i := 0) dX9_feed_21 rfl rfl ?_
    refine jFd.get X fd_X9_43 P0 rfl dX9_feed_22 ?_
    refine j_iload_n X (i := 1) dX9_feed_25 rfl rfl ?_
    refine j_callV X (f_append hok hst P6 r6.1 (by omega) hx) i_X3_append tw_5_113 tw_5_114 tw_5_115 P6.1 rfl dX9_feed_26 ?_ 
    refine j_iret_x X dX9_feed_29 rfl rfl (fP_mk (by unfold a_feed; rw [if_neg q]) (hG.inp (fun c h1 h2 => by rw [jU_ne _ _ _ h1, jU_ne _ _ _ h2]) (by rw [jU_eq]; rfl) (fun i hi => ?_)) (fun c hc => by rw [jU_ne _ _ _ (by omega), jU_ne _ _ _ (by omega)]))
    have hi : i < (gT G).1 + 1 := hi
    rw [jU_ne _ _ _ (by decide), jU_eq]
    show upd _ _ _ _ = nI (if i = (gT G).1 then x else (gT G).2 i)
    unfold upd
    by_cases e : i = (gT G).1
    · rw [if_pos e, if_pos e]
    · rw [if_neg e, if_neg e]; exact r6.2 i (by omega)

theorem f_undo {l : Launch} {g : jG} (hok : jOk g) (hst : l.stackTraces = false) {z : Option Nat} {sk : jS} {t : jT} {kw : Nat → Nat} (hP : isPr g kw sk) {G : GS} (hG : RcG t G) (hK : okG G) : jMetX l g mX9_undo 7 1 6 [.ref (jb g + 0)] z sk t (fP (a_undo G) z sk t) (fX ["java/lang/IllegalStateException"] (a_undo G) sk t) := by
  refine j_bodyX (lv := [some (.ref (jb g + 0))]) i_X9_undo hok hst (fun p e s m args below meth c X => ?_)
  obtain ⟨P0, P1, P2, P3, P4, P5, P6, P7, P8⟩ := id hP
  obtain ⟨B0, B1, B2, B3, B4, B5⟩ := id P1
  obtain ⟨r1, r2, r3, r4, r5, r6, r7, r8, r9⟩ := id hG
  obtain ⟨v1, v2_, v3, v4, v5, v6⟩ := id r1
  obtain ⟨k1, k2, k3, k4, k5, k6, k7, k8⟩ := id hK.1
  obtain ⟨o1, hO⟩ := r3
  obtain ⟨h1, h2, h3, h4, h5⟩ := id hO
  refine j_aload_n X (i := 0) dX9_undo_0 rfl rfl ?_
  refine jFd.get X fd_X9_22 P0 rfl dX9_undo_1 ?_
  refine jFd.get X fd_X9_328 P3.1 rfl dX9_undo_4 ?_
  rw [h2]
  by_cases h0 : (gH G).1 = 0
  · refine j_if_ne X (tgt := 21) dX9_undo_7 (by decide) (fun q9 => absurd ((congrArg nI h0)) q9) (fun _ => ?_)
    exact j_throwSW X thr_IS hok.x331 dX9_undo_10 dX9_undo_13 dX9_undo_14 dX9_undo_17 dX9_undo_20 (fX_mk (n := 0) (v := nI 0) (by unfold a_undo; rw [if_pos h0]) rfl rfl rfl hG (fun _ _ => rfl))
  · obtain ⟨n, hn⟩ : ∃ n, (gH G).1 = n + 1 := ⟨(gH G).1 - 1, by omega⟩
    have hs := slH_lt o1 n
    refine j_if_ne X (tgt := 21) dX9_undo_7 (by decide) (fun _ => ?_) (fun q9 => absurd q9 ((fun z9 => h0 ((nI_eq (by omega) (by decide)).mp z9))))
    refine j_aload_n X (i := 0) dX9_undo_21 rfl rfl ?_
    refine jFd.get X fd_X9_12 P0 rfl dX9_undo_22 ?_
    refine j_aload_n X (i := 0) dX9_undo_25 rfl rfl ?_
    refine jFd.get X fd_X9_22 P0 rfl dX9_undo_26 ?_
    refine j_callV X (s_takeLatest hok hst P3 h1 (n := n) (h2.trans (congrArg nI hn)) h3 (by omega)) i_X2_takeLatest tw_6_38 tw_6_39 tw_6_40 P3.1 rfl dX9_undo_29 ?_ 
    have e1 : ∀ c, c ≠ 81 → jU t 81 2 (nI n) c = t c := fun c hc => jU_ne _ _ _ hc
    have hV : RcV (jU t 81 2 (nI n)) (slH o1 n) ((gH G).2 n) := (h5 n (by omega)).cong fun c a b => e1 c (by omega)
    refine j_callV_p X (s_copyShop hok hst P1 (P3.2.2 _ (Nat.mod_lt _ (by decide))) hV (by omega)) i_X8_copyFrom tw_2_163 tw_2_164 tw_2_165 B0 rfl dX9_undo_32 (fun v2 z2 sk2 t2 hp => ?_) 
    obtain ⟨rfl, rfl, rfl, g1, g2⟩ := hp
    have e2 : ∀ c, c ≠ 81 → (c < 1 ∨ 41 ≤ c) → t2 c = t c := fun c a b => (g2 c (by omega)).trans (e1 c a)
    have e81 : t2 81 = upd (t 81) 2 (nI n) := by rw [g2 81 (by omega), jU_eq]
    refine j_aload_n X (i := 0) dX9_undo_35 rfl rfl ?_
    refine jFd.get X fd_X9_22 P0 rfl dX9_undo_36 ?_
    refine jFd.get X fd_X9_328 P3.1 rfl dX9_undo_39 ?_
    rw [e81, show upd (t 81) 2 (nI n) 2 = nI n from if_pos rfl]
    have hr : a_undo G = (0, nI n, ((gH G).2 n, gS G, (n, (gH G).2), G.2.2.2)) := by unfold a_undo; rw [if_neg h0, hn, Nat.add_sub_cancel]
    have hH : RcH t2 (n, (gH G).2) := ⟨o1, by rw [e81]; exact h1, by rw [e81]; rfl, h3, by show n ≤ 8; omega, fun i hi => by
      have hi : i < n := hi
      have := slH_lt o1 i
      exact (h5 i (by omega)).cong fun c a b => e2 c (by omega) (by omega)⟩
    exact j_iret_x X dX9_undo_42 rfl rfl (fP_mk hr ⟨g1, r2.cong (e2 0 (by omega) (by omega)) (fun c a b => e2 c (by omega) (by omega)), hH, r4.cong (e2 _ (by omega) (by omega)), r5.cong (e2 _ (by omega) (by omega)), ⟨by rw [e2 450 (by omega) (by omega)]; exact r6.1, by rw [e2 451 (by omega) (by omega)]; exact r6.2⟩, ⟨by rw [e2 0 (by omega) (by omega)]; exact r7.1, by rw [e2 452 (by omega) (by omega)]; exact r7.2⟩, by rw [e2 0 (by omega) (by omega)]; exact r8, by rw [e2 0 (by omega) (by omega)]; exact r9⟩ (fun c hc => e2 c (by omega) (by omega)))

theorem f_undoCount {l : Launch} {g : jG} (hok : jOk g) (hst : l.stackTraces = false) {z : Option Nat} {sk : jS} {t : jT} {kw : Nat → Nat} (hP : isPr g kw sk) {G : GS} (hG : RcG t G) (hK : okG G) : jMet l g mX9_undoCount 1 0 0 [.ref (jb g + 0)] z sk t (fP (a_undoCount G) z sk t) := by
  refine j_body (lv := [some (.ref (jb g + 0))]) i_X9_undoCount hok hst (fun p e s m args below meth c X => ?_)
  obtain ⟨P0, P1, P2, P3, P4, P5, P6, P7, P8⟩ := id hP
  obtain ⟨B0, B1, B2, B3, B4, B5⟩ := id P1
  obtain ⟨r1, r2, r3, r4, r5, r6, r7, r8, r9⟩ := id hG
  obtain ⟨v1, v2_, v3, v4, v5, v6⟩ := id r1
  obtain ⟨k1, k2, k3, k4, k5, k6, k7, k8⟩ := id hK.1
  obtain ⟨o1, h1, h2, h3, h4, h5⟩ := r3
  refine j_aload_n X (i := 0) dX9_undoCount_0 rfl rfl ?_
  refine jFd.get X fd_X9_22 P0 rfl dX9_undoCount_1 ?_
  refine jFd.get X fd_X9_328 P3.1 rfl dX9_undoCount_4 ?_
  rw [h2]
  exact j_iret X dX9_undoCount_7 rfl rfl (fP_mk rfl hG (fun _ _ => rfl))

theorem f_save {l : Launch} {g : jG} (hok : jOk g) (hst : l.stackTraces = false) {z : Option Nat} {sk : jS} {t : jT} {kw : Nat → Nat} (hP : isPr g kw sk) {G : GS} (hG : RcG t G) (hK : okG G) : jMet l g mX9_save 5 0 0 [.ref (jb g + 0)] z sk t (fP (a_save G) z sk t) := by
  refine j_body (lv := [some (.ref (jb g + 0))]) i_X9_save hok hst (fun p e s m args below meth c X => ?_)
  obtain ⟨P0, P1, P2, P3, P4, P5, P6, P7, P8⟩ := id hP
  obtain ⟨B0, B1, B2, B3, B4, B5⟩ := id P1
  obtain ⟨r1, r2, r3, r4, r5, r6, r7, r8, r9⟩ := id hG
  obtain ⟨v1, v2_, v3, v4, v5, v6⟩ := id r1
  obtain ⟨k1, k2, k3, k4, k5, k6, k7, k8⟩ := id hK.1
  refine j_aload_n X (i := 0) dX9_save_0 rfl rfl ?_
  refine jFd.get X fd_X9_16 P0 rfl dX9_save_1 ?_
  refine j_aload_n X (i := 0) dX9_save_4 rfl rfl ?_
  refine jFd.get X fd_X9_12 P0 rfl dX9_save_5 ?_
  refine j_callV_p X (s_copyShop hok hst P2 P1 r1 (by omega)) i_X8_copyFrom tw_2_163 tw_2_164 tw_2_165 P2.1 rfl dX9_save_8 (fun v2 z2 sk2 t1 hp => ?_) 
  obtain ⟨rfl, rfl, rfl, g1, g2⟩ := hp
  refine j_aload_n X (i := 0) dX9_save_11 rfl rfl ?_
  refine j_iconst X (v := (nI 1)) dX9_save_12 (by decide) ?_
  refine jFd.put X fd_X9_65 P0 rfl rfl rfl rfl dX9_save_13 ?_
  refine j_aload_n X (i := 0) dX9_save_16 rfl rfl ?_
  refine jFd.get X fd_X9_12 P0 rfl dX9_save_17 ?_
  have e1 : ∀ c, c ≠ 0 → (c < 41 ∨ 81 ≤ c) → jU t1 0 11 (nI 1) c = t c := fun c a b => (jU_ne _ _ _ a).trans (g2 c (by omega))
  have e0 : ∀ k, k ≠ 11 → jU t1 0 11 (nI 1) 0 k = t 0 k := fun k hk => by rw [jU_eq, g2 0 (by omega)]; exact if_neg hk
  have e11 : jU t1 0 11 (nI 1) 0 11 = nI 1 := by rw [jU_eq]; rfl
  have g3 : RcV (jU t1 0 11 (nI 1)) 41 (gV G) := g1.cong fun c a b => jU_ne _ _ _ (by omega)
  generalize jU t1 0 11 (nI 1) = t3 at e1 e0 e11 g3 ⊢
  refine jFd.get X fd_X9_172 B0 rfl dX9_save_20 ?_
  rw [e1 1 (by omega) (by omega), v2_]
  exact j_iret X dX9_save_23 rfl rfl (fP_mk rfl ⟨r1.cong (fun c a b => e1 c (by omega) (by omega)), ⟨e11, g3⟩, r3.cong (fun c a b => e1 c (by omega) (by omega)), r4.cong (e1 _ (by omega) (by omega)), r5.cong (e1 _ (by omega) (by omega)), ⟨by rw [e1 450 (by omega) (by omega)]; exact r6.1, by rw [e1 451 (by omega) (by omega)]; exact r6.2⟩, ⟨(e0 8 (by decide)).trans r7.1, by rw [e1 452 (by omega) (by omega)]; exact r7.2⟩, (e0 9 (by decide)).trans r8, (e0 10 (by decide)).trans r9⟩ (fun c hc => e1 c (by omega) (by omega)))

theorem f_restore {l : Launch} {g : jG} (hok : jOk g) (hst : l.stackTraces = false) {z : Option Nat} {sk : jS} {t : jT} {kw : Nat → Nat} (hP : isPr g kw sk) {G : GS} (hG : RcG t G) (hK : okG G) : jMetX l g mX9_restore 7 1 6 [.ref (jb g + 0)] z sk t (fP (a_restore G) z sk t) (fX ["java/lang/IllegalStateException"] (a_restore G) sk t) := by
  refine j_bodyX (lv := [some (.ref (jb g + 0))]) i_X9_restore hok hst (fun p e s m args below meth c X => ?_)
  obtain ⟨P0, P1, P2, P3, P4, P5, P6, P7, P8⟩ := id hP
  obtain ⟨B0, B1, B2, B3, B4, B5⟩ := id P1
  obtain ⟨r1, r2, r3, r4, r5, r6, r7, r8, r9⟩ := id hG
  obtain ⟨v1, v2_, v3, v4, v5, v6⟩ := id r1
  obtain ⟨k1, k2, k3, k4, k5, k6, k7, k8⟩ := id hK.1
  refine j_aload_n X (i := 0) dX9_restore_0 rfl rfl ?_
  refine jFd.get X fd_X9_65 P0 rfl dX9_restore_1 ?_
  cases hS : gS G with
  | none =>
    rw [hS] at r2
    have r2 : t 0 11 = nI 0 := r2
    rw [r2]
    refine j_if_ne X (tgt := 18) dX9_restore_4 (by decide) (fun q9 => absurd (rfl) q9) (fun _ => ?_)
    exact j_throwSW X thr_IS hok.x336 dX9_restore_7 dX9_restore_10 dX9_restore_11 dX9_restore_14 dX9_restore_17 (fX_mk (n := 0) (v := nI 0) (by unfold a_restore; rw [hS]) rfl rfl rfl hG (fun _ _ => rfl))
  | some S =>
    rw [hS] at r2
    obtain ⟨r2, r2v⟩ : t 0 11 = nI 1 ∧ RcV t 41 S := r2
    rw [r2]
    refine j_if_ne X (tgt := 18) dX9_restore_4 (by decide) (fun _ => ?_) (fun q9 => absurd q9 (by decide))
    refine j_aload_n X (i := 0) dX9_restore_18 rfl rfl ?_
    refine jFd.get X fd_X9_12 P0 rfl dX9_restore_19 ?_
    refine j_aload_n X (i := 0) dX9_restore_22 rfl rfl ?_
    refine jFd.get X fd_X9_16 P0 rfl dX9_restore_23 ?_
    refine j_callV_p X (s_copyShop hok hst P1 P2 r2v (by omega)) i_X8_copyFrom tw_2_163 tw_2_164 tw_2_165 B0 rfl dX9_restore_26 (fun v2 z2 sk2 t1 hp => ?_) 
    obtain ⟨rfl, rfl, rfl, g1, g2⟩ := hp
    refine j_aload_n X (i := 0) dX9_restore_29 rfl rfl ?_
    refine jFd.get X fd_X9_22 P0 rfl dX9_restore_30 ?_
    refine j_callV X (s_hclear hok hst P3) i_X2_clear tw_6_50 tw_6_51 tw_6_52 P3.1 rfl dX9_restore_33 ?_ 
    have e1 : ∀ c, c ≠ 81 → (c < 1 ∨ 41 ≤ c) → jU t1 81 2 (nI 0) c = t c := fun c a b => (jU_ne _ _ _ a).trans (g2 c (by omega))
    have e81 : jU t1 81 2 (nI 0) 81 = upd (t 81) 2 (nI 0) := by rw [jU_eq, g2 81 (by omega)]
    have g3 : RcV (jU t1 81 2 (nI 0)) 1 S := g1.cong fun c a b => jU_ne _ _ _ (by omega)
    generalize jU t1 81 2 (nI 0) = t3 at e1 e81 g3 ⊢
    obtain ⟨o1, h1, h2, h3, h4, h5⟩ := r3
    refine j_aload_n X (i := 0) dX9_restore_36 rfl rfl ?_
    refine jFd.get X fd_X9_12 P0 rfl dX9_restore_37 ?_
    refine jFd.get X fd_X9_172 B0 rfl dX9_restore_40 ?_
    rw [g3.2.1]
    have hr : a_restore G = (0, nI (ns S), (S, some S, (0, (gH G).2), G.2.2.2)) := by unfold a_restore; rw [hS]
    exact j_iret_x X dX9_restore_43 rfl rfl (fP_mk hr ⟨g3, ⟨by rw [e1 0 (by omega) (by omega)]; exact r2, r2v.cong (fun c a b => e1 c (by omega) (by omega))⟩, ⟨o1, by rw [e81]; exact h1, by rw [e81]; rfl, h3, Nat.zero_le _, fun i hi => absurd hi (Nat.not_lt_zero i)⟩, r4.cong (e1 _ (by omega) (by omega)), r5.cong (e1 _ (by omega) (by omega)), ⟨by rw [e1 450 (by omega) (by omega)]; exact r6.1, by rw [e1 451 (by omega) (by omega)]; exact r6.2⟩, ⟨by rw [e1 0 (by omega) (by omega)]; exact r7.1, by rw [e1 452 (by omega) (by omega)]; exact r7.2⟩, by rw [e1 0 (by omega) (by omega)]; exact r8, by rw [e1 0 (by omega) (by omega)]; exact r9⟩ (fun c hc => e1 c (by omega) (by omega)))

