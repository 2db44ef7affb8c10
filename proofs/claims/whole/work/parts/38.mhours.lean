theorem par_rem (h : Nat) : (nI h - nI h / nI 2 * nI 2 = 0) ↔ h % 2 = 0 := by
  obtain ⟨d, h1, h2, e⟩ := iN_of (nI h)
  have hd : d = (h : Int).bmod 4294967296 := by
    have e1 : (nI h).toInt = d := by rw [e, iN_toInt h1 h2]
    rw [← e1]
    exact Int32.toInt_ofNat'
  have e2 : iN d / nI 2 = iN (d.tdiv 2) := by
    rw [← iN_nI 2]
    exact (Int32.ofInt_tdiv (show (-2147483648 : Int) ≤ d from h1) (show d ≤ (2147483647 : Int) by omega) (by decide) (by decide)).symm
  have e3 : iN (d.tdiv 2) * nI 2 = iN (d.tdiv 2 * 2) := by rw [← iN_nI 2]; exact (Int32.ofInt_mul _ _).symm
  have e4 : d - d.tdiv 2 * 2 = 0 ∨ d - d.tdiv 2 * 2 = 1 ∨ d - d.tdiv 2 * 2 = -1 := by
    obtain ⟨n, rfl | rfl⟩ := Int.eq_nat_or_neg d
    · rw [Int.natCast_tdiv_eq_ediv]; omega
    · rw [Int.neg_tdiv, Int.natCast_tdiv_eq_ediv]; omega
  have e5 : d % 2 = (h : Int) % 2 := by
    rw [hd, Int.bmod_def]
    split <;> omega
  rw [e, e2, e3, iN_sub, show (0 : Int32) = iN 0 from rfl, iN_eq (by omega) (by omega) (by decide) (by decide)]
  omega
/-- the shop after h hours -/
def hoV (V : SV) (h : Nat) : SV := ((np V, ns V, hr V + h), dr V, pl V, (hrV V h (ns V)).2.2.2)
theorem hoV_sh (V : SV) (h j : Nat) : sh (hoV V h) j = if j < ns V then hrS (sh V j) (hr V) h else sh V j := rfl
theorem dryS_1 (a : Int) (h : Nat) : dryS a h 1 = dryN a h := by
  have := dryS_succ a h 0
  simp only [dryS_0, Nat.zero_add, Nat.add_zero] at this
  exact this
theorem hoV_0 (V : SV) : hoV V 0 = V := by
  unfold hoV
  have e : (hrV V 0 (ns V)).2.2.2 = sh V := funext fun j => by
    show (if j < ns V then hrS (sh V j) (hr V) 0 else sh V j) = sh V j
    split
    · unfold hrS; rw [dryS_0]; rfl
    · rfl
  rw [e]
  rfl
theorem hoV_succ (V : SV) (h : Nat) : hoV (hoV V h) 1 = hoV V (h + 1) := by
  have e : (hrV (hoV V h) 1 (ns (hoV V h))).2.2.2 = (hrV V (h + 1) (ns V)).2.2.2 := funext fun j => by
    show (if j < ns V then hrS (sh (hoV V h) j) (hr V + h) 1 else sh (hoV V h) j) = (if j < ns V then hrS (sh V j) (hr V) (h + 1) else sh V j)
    rw [hoV_sh]
    by_cases q : j < ns V
    · rw [if_pos q, if_pos q, if_pos q]
      unfold hrS
      show ((((sh V j).1.1 - dryS (sh V j).1.2.2 (hr V) h) - dryS (sh V j).1.2.2 (hr V + h) 1, _, _), _) = _
      rw [dryS_1, dryS_succ, Nat.sub_add_eq]
    · rw [if_neg q, if_neg q, if_neg q]
  show ((np V, ns V, hr V + h + 1), dr V, pl V, (hrV (hoV V h) 1 (ns (hoV V h))).2.2.2) = ((np V, ns V, hr V + (h + 1)), dr V, pl V, (hrV V (h + 1) (ns V)).2.2.2)
  rw [e]
  rfl
def goB (V : SV) (k : Nat) : Bool := decide (0 < (sh V k).1.1 ∧ (sh V k).1.1 ≤ dryN (sh V k).1.2.2 (hr V))
theorem drB_succ {V : SV} {h k : Nat} (hk : k < ns V) : drB V (h + 1) k = (drB V h k || goB (hoV V h) k) := by
  unfold drB goB
  rw [hoV_sh, if_pos hk]
  unfold hrS
  rw [dryS_succ, ← Bool.decide_or]
  refine decide_eq_decide.mpr ?_
  show _ ↔ _ ∨ (0 < (sh V k).1.1 - dryS (sh V k).1.2.2 (hr V) h ∧ (sh V k).1.1 - dryS (sh V k).1.2.2 (hr V) h ≤ dryN (sh V k).1.2.2 (hr V + h))
  omega
theorem dr_ct {V : SV} (h : Nat) : fb_ct (drB V (h + 1)) (ns V) = fb_ct (drB V h) (ns V) + fb_ct (goB (hoV V h)) (ns V) := by
  rw [← fb_ct_or]
  · exact fb_ct_cong fun k hk => drB_succ hk
  · intro k hk ⟨h1, h2⟩
    have h1 := of_decide_eq_true h1
    have h2 := of_decide_eq_true h2
    rw [hoV_sh, if_pos hk] at h2
    have h2 : 0 < (sh V k).1.1 - dryS (sh V k).1.2.2 (hr V) h ∧ _ := h2
    omega
theorem dr_ct0 (V : SV) : fb_ct (drB V 0) (ns V) = 0 := by
  rw [fb_ct_zero]
  intro k _
  unfold drB
  rw [dryS_0]
  exact decide_eq_false (by omega)
theorem okS_hr {s : TV} (h : okS s) (a c : Nat) : okS (hrS s a c) := ⟨Nat.le_trans (Nat.sub_le _ _) h.1, h.2⟩
theorem m_addInk {l : Launch} {g : jG} (hok : jOk g) (hst : l.stackTraces = false) {z : Option Nat} {sk : jS} {t : jT} {M : Nat} (hM : isMod g sk M) {w : WB} {G : GS} (hG : RmG t M w G) (hK : okG G) (x y : Int32) : jMet l g mX10_addInk 3 0 0 [.ref (jb g + M), .int x, .int y] z sk t (mP M w (a_addInk w.1 G x y) z sk t) := by
  refine j_body (lv := [some (.ref (jb g + M)), some (.int x), some (.int y)]) i_X10_addInk hok hst (fun p e s m args below meth c X => ?_)
  obtain ⟨M0, M1, M2, M3, M4, M5, M6, M7⟩ := id hM
  obtain ⟨r1, r2, r3, r4, r5, r6, r7, r8, r9, r10, r11⟩ := id hG
  obtain ⟨u1, u2, u3, u4, u5, u6, u7⟩ := id r1
  obtain ⟨k1, k2, k3, k4, k5, k6, k7, k8⟩ := id hK.1
  have no : ∀ (n : Nat) (m2 : Int), 0 < n → n < 4 → m2 < 0 → vRefill (gV G) x y = (m2, gV G) → cod (-2) (-3) (-9) m2 = n → J p l e (jR 3 0 0) s m args below meth c (jQm below args s g 0 0 (mP M w (a_addInk w.1 G x y) z sk t)) 3 g 0 0 z sk t 46 [some (.ref (jb g + M)), some (.int x), some (.int y)] [.int (nI n), .ref (jb g + M)] := fun n m2 h0 h4 hm ev hc => by
    refine j_callV X (m_fails hok hst hM h4) i_X10_fails tw_6_135 tw_6_137 tp_25 M0 rfl dX10_addInk_46 ?_ 
    rw [decide_eq_true h0]
    refine j_if_eq X (tgt := 54) dX10_addInk_49 (by decide) (fun q9 => absurd q9 (by decide)) (fun _ => ?_)
    refine j_iconst X (v := (nI 0)) dX10_addInk_52 (by decide) ?_
    exact j_iret X dX10_addInk_53 rfl rfl (mP_no hG (by rw [a_addInk, ev, ch_no hm, hc]))
  have bad : (isIk x = false ∨ y.toInt < 1 ∨ 99 < y.toInt) → J p l e (jR 3 0 0) s m args below meth c (jQm below args s g 0 0 (mP M w (a_addInk w.1 G x y) z sk t)) 3 g 0 0 z sk t 18 [some (.ref (jb g + M)), some (.int x), some (.int y)] [.ref (jb g + M)] := fun hb => by
    refine j_iconst X (v := (nI 1)) dX10_addInk_18 (by decide) ?_
    refine j_goto X (tgt := 46) dX10_addInk_19 (by decide) ?_
    exact no 1 (-2) (by decide) (by decide) (by decide) (by unfold vRefill; rw [if_pos hb]) (by decide)
  refine j_aload_n X (i := 0) dX10_addInk_0 rfl rfl ?_
  refine j_iload_n X (i := 1) dX10_addInk_1 rfl rfl ?_
  refine j_callS X (m_which hok hst x) i_X10_which tw_6_132 tw_6_133 dX10_addInk_2 ?_ 
  cases hi : isIk x with
  | false =>
    refine j_if_lt X (tgt := 18) dX10_addInk_5 (by decide) (fun _ => ?_) (fun q9 => absurd ((by rw [show whI x = -1 from if_neg (by rw [hi]; decide)]; decide)) q9)
    exact bad (Or.inl hi)
  | true =>
    obtain ⟨m2, hm2, rfl, hxn⟩ := isIk_of hi
    have hw : whI (nI m2) = ((m2 / 2 : Nat) : Int) := by unfold whI; rw [if_pos hi, hxn]
    have h23 : m2 / 2 < 3 := by omega
    rw [hw, iN_nI]
    refine j_if_lt X (tgt := 18) dX10_addInk_5 (by decide) (fun q9 => absurd q9 ((show ¬ nI (m2 / 2) < 0 from nI_pos (by omega)))) (fun _ => ?_)
    refine j_iload_n X (i := 2) dX10_addInk_8 rfl rfl ?_
    refine j_iconst X (v := (nI 1)) dX10_addInk_9 (by decide) ?_
    refine j_bipush X (v := (nI 99)) dX10_addInk_10 (by decide) ?_
    refine j_callS X (m_in hok hst _ _ _) i_X10_in tw_6_154 tw_6_155 dX10_addInk_12 ?_ 
    cases hy : inB y (nI 1) (nI 99) with
    | false =>
      have hy := of_decide_eq_false hy
      rw [show (nI 1).toInt = 1 by decide, show (nI 99).toInt = 99 by decide] at hy
      refine j_if_ne X (tgt := 22) dX10_addInk_15 (by decide) (fun q9 => absurd (rfl) q9) (fun _ => ?_)
      exact bad (Or.inr (by omega))
    | true =>
      have hy := of_decide_eq_true hy
      rw [show (nI 1).toInt = 1 by decide, show (nI 99).toInt = 99 by decide] at hy
      obtain ⟨n, hn, rfl⟩ : ∃ n : Nat, n < 100 ∧ y = nI n := ⟨y.toInt.toNat, by omega, by rw [← Int32.toInt_inj, nI_toInt (by omega)]; omega⟩
      rw [nI_toInt (by omega)] at hy
      have hdr := k5 _ h23
      have ev0 : vRefill (gV G) (nI m2) (nI n) = if 500 < dr (gV G) (m2 / 2) + n then (-3, gV G) else (((dr (gV G) (m2 / 2) + n : Nat) : Int), upD (gV G) (m2 / 2) (dr (gV G) (m2 / 2) + n)) := by
        unfold vRefill
        rw [nI_toInt (by omega), if_neg (by rw [hi]; intro z; rcases z with z | z | z; exact absurd z (by decide); omega; omega), hxn]
        rfl
      refine j_if_ne X (tgt := 22) dX10_addInk_15 (by decide) (fun _ => ?_) (fun q9 => absurd q9 (by decide))
      refine j_aload_n X (i := 0) dX10_addInk_22 rfl rfl ?_
      refine jFd.get X fd_X10_7 M0 rfl dX10_addInk_23 ?_
      refine j_iconst X (v := (nI 3)) dX10_addInk_26 (by decide) ?_
      refine j_iload_n X (i := 1) dX10_addInk_27 rfl rfl ?_
      refine j_callS X (m_which hok hst _) i_X10_which tw_6_132 tw_6_133 dX10_addInk_28 ?_ 
      rw [hw, iN_nI]
      refine j_iadd X dX10_addInk_31 ?_
      rw [nI_add]
      refine j_iald X M1 rfl (by omega) (by decide) dX10_addInk_32 ?_
      rw [u4 _ h23]
      refine j_iload_n X (i := 2) dX10_addInk_33 rfl rfl ?_
      refine j_iadd X dX10_addInk_34 ?_
      rw [nI_add]
      refine j_sipush X (v := (nI 500)) dX10_addInk_35 (by decide) ?_
      by_cases h5 : 500 < dr (gV G) (m2 / 2) + n
      · rw [if_pos h5] at ev0
        refine j_icmp_le X (tgt := 45) dX10_addInk_38 (by decide) (fun q9 => absurd q9 (nI_ge h5 (by omega))) (fun _ => ?_)
        refine j_iconst X (v := (nI 2)) dX10_addInk_41 (by decide) ?_
        refine j_goto X (tgt := 46) dX10_addInk_42 (by decide) ?_
        exact no 2 (-3) (by decide) (by decide) (by decide) ev0 (by decide)
      · rw [if_neg h5] at ev0
        refine j_icmp_le X (tgt := 45) dX10_addInk_38 (by decide) (fun _ => ?_) (fun q9 => absurd (nI_le (Nat.le_of_not_lt h5) (by decide)) q9)
        refine j_iconst X (v := (nI 0)) dX10_addInk_45 (by decide) ?_
        refine j_callV X (m_fails hok hst hM (n := 0) (by decide)) i_X10_fails tw_6_135 tw_6_137 tp_25 M0 rfl dX10_addInk_46 ?_ 
        rw [decide_eq_false (Nat.lt_irrefl 0)]
        refine j_if_eq X (tgt := 54) dX10_addInk_49 (by decide) (fun _ => ?_) (fun q9 => absurd (rfl) q9)
        have hG1 := hG.jcode (nI 0)
        have f1 : ∀ c, c ≠ M → jU t M 7 (nI 0) c = t c := fun c hc => jU_ne _ _ _ hc
        generalize jU t M 7 (nI 0) = t1 at hG1 f1 ⊢
        refine j_aload_n X (i := 0) dX10_addInk_54 rfl rfl ?_
        refine j_aload_n X (i := 0) dX10_addInk_55 rfl rfl ?_
        refine jFd.get X fd_X10_7 M0 rfl dX10_addInk_56 ?_
        refine j_callV_p X (m_keepG hok hst hM hG1 hK) i_X10_keeps tw_6_139 tw_6_141 tp_26 M0 rfl dX10_addInk_59 (fun v2 z2 sk2 t2 hp => ?_) 
        obtain ⟨rfl, rfl, rfl, hG2, c2, f2a⟩ := hp
        have f2 : ∀ c, (c < M ∨ M + 8 ≤ c ∨ c = M + 4 ∨ c = M + 7) → t2 c = t c := fun c hc => (f2a c (by omega) (by omega)).trans (f1 c (by omega))
        have w2 : RmV (t2 (M + 1)) (gV G) := hG2.1
        clear f2a hG1 f1 t1
        obtain ⟨x1, x2, x3, x4, x5, x6, x7⟩ := id w2
        refine j_aload_n X (i := 0) dX10_addInk_62 rfl rfl ?_
        refine jFd.get X fd_X10_7 M0 rfl dX10_addInk_63 ?_
        refine j_iconst X (v := (nI 3)) dX10_addInk_66 (by decide) ?_
        refine j_iload_n X (i := 1) dX10_addInk_67 rfl rfl ?_
        refine j_callS X (m_which hok hst _) i_X10_which tw_6_132 tw_6_133 dX10_addInk_68 ?_ 
        rw [hw, iN_nI]
        refine j_iadd X dX10_addInk_71 ?_
        refine j_dup2 X dX10_addInk_72 rfl rfl ?_
        rw [nI_add]
        refine j_iald X M1 rfl (by omega) (by decide) dX10_addInk_73 ?_
        rw [x4 _ h23]
        refine j_iload_n X (i := 2) dX10_addInk_74 rfl rfl ?_
        refine j_iadd X dX10_addInk_75 ?_
        rw [nI_add]
        refine j_iast X M1 rfl (by omega) (by decide) dX10_addInk_76 ?_
        refine j_aload_n X (i := 0) dX10_addInk_77 rfl rfl ?_
        refine jFd.get X fd_X10_7 M0 rfl dX10_addInk_78 ?_
        refine j_iconst X (v := (nI 3)) dX10_addInk_81 (by decide) ?_
        refine j_iload_n X (i := 1) dX10_addInk_82 rfl rfl ?_
        refine j_callS X (m_which hok hst _) i_X10_which tw_6_132 tw_6_133 dX10_addInk_83 ?_ 
        rw [hw, iN_nI]
        refine j_iadd X dX10_addInk_86 ?_
        rw [nI_add]
        refine j_iald X M1 rfl (by omega) (by decide) dX10_addInk_87 ?_
        rw [show jU t2 (M + 1) (3 + m2 / 2) (nI (dr (gV G) (m2 / 2) + n)) (M + 1) (3 + m2 / 2) = nI (dr (gV G) (m2 / 2) + n) by rw [jU_eq]; exact if_pos rfl]
        have hr2 : a_addInk w.1 G (nI m2) (nI n) = (0, nI (dr (gV G) (m2 / 2) + n), (upD (gV G) (m2 / 2) (dr (gV G) (m2 / 2) + n), (kpG w.1 G).2)) := by
          rw [a_addInk, ev0, ch_yes (by omega) (by decide) (by decide) (by decide), iN_nI]
        refine j_iret X dX10_addInk_88 rfl rfl (mP_mk hr2 ?_ (hG2.g ?_ (fun c hc => jU_ne _ _ _ hc)) ?_)
        · rw [jU_ne _ _ _ (by omega)]; exact c2
        · rw [jU_eq]
          have o : ∀ j, (j < 3 ∨ 6 ≤ j) → upd (t2 (M + 1)) (3 + m2 / 2) (nI (dr (gV G) (m2 / 2) + n)) j = t2 (M + 1) j := fun j hj => if_neg (by omega)
          refine ⟨(o _ (by omega)).trans x1, (o _ (by omega)).trans x2, (o _ (by omega)).trans x3, fun i hi2 => ?_, fun a ha => (o _ (by omega)).trans (x5 a ha), fun j hj => (x6 j hj).cong fun i hi2 => o _ (by omega), fun j hj => (x7 j hj).cong fun i hi2 => o _ (by omega)⟩
          show upd _ _ _ _ = nI (if i = m2 / 2 then _ else _)
          unfold upd
          by_cases e : i = m2 / 2
          · rw [if_pos (by omega), if_pos e]
          · rw [if_neg (by omega), if_neg e]; exact x4 i hi2
        · intro c hc
          rw [jU_ne _ _ _ (by omega)]
          exact f2 c hc

theorem m_drops {l : Launch} {g : jG} (hok : jOk g) (hst : l.stackTraces = false) {z : Option Nat} {sk : jS} {t : jT} {M : Nat} (hM : isMod g sk M) {w : WB} {G : GS} (hG : RmG t M w G) (hK : okG G) (x : Int32) : jMet l g mX10_drops 3 0 0 [.ref (jb g + M), .int x] z sk t (mP M w (a_drops G x) z sk t) := by
  refine j_body (lv := [some (.ref (jb g + M)), some (.int x)]) i_X10_drops hok hst (fun p e s m args below meth c X => ?_)
  obtain ⟨M0, M1, M2, M3, M4, M5, M6, M7⟩ := id hM
  obtain ⟨r1, r2, r3, r4, r5, r6, r7, r8, r9, r10, r11⟩ := id hG
  obtain ⟨u1, u2, u3, u4, u5, u6, u7⟩ := id r1
  obtain ⟨k1, k2, k3, k4, k5, k6, k7, k8⟩ := id hK.1
  refine j_aload_n X (i := 0) dX10_drops_0 rfl rfl ?_
  refine j_iload_n X (i := 1) dX10_drops_1 rfl rfl ?_
  refine j_callS X (m_which hok hst x) i_X10_which tw_6_132 tw_6_133 dX10_drops_2 ?_ 
  cases hi : isIk x with
  | false =>
    refine j_if_ge X (tgt := 12) dX10_drops_5 (by decide) (fun q9 => absurd q9 ((by rw [show whI x = -1 from if_neg (by rw [hi]; decide)]; decide))) (fun _ => ?_)
    refine j_iconst X (v := (nI 1)) dX10_drops_8 (by decide) ?_
    refine j_goto X (tgt := 13) dX10_drops_9 (by decide) ?_
    refine j_callV X (m_fails hok hst hM (n := 1) (by decide)) i_X10_fails tw_6_135 tw_6_137 tp_25 M0 rfl dX10_drops_13 ?_ 
    refine j_if_eq X (tgt := 23) dX10_drops_16 (by decide) (fun q9 => absurd q9 (by decide)) (fun _ => ?_)
    refine j_iconst X (v := (nI 0)) dX10_drops_19 (by decide) ?_
    refine j_goto X (tgt := 34) dX10_drops_20 (by decide) ?_
    exact j_iret X dX10_drops_34 rfl rfl (mP_no hG (by unfold a_drops; rw [qP_f hi]))
  | true =>
    obtain ⟨m2, hm2, rfl, hxn⟩ := isIk_of hi
    have hw : whI (nI m2) = ((m2 / 2 : Nat) : Int) := by unfold whI; rw [if_pos hi, hxn]
    have h23 : m2 / 2 < 3 := by omega
    rw [hw, iN_nI]
    refine j_if_ge X (tgt := 12) dX10_drops_5 (by decide) (fun _ => ?_) (fun q9 => absurd ((show nI 0 ≤ nI (m2 / 2) from nI_le (Nat.zero_le _) (by omega))) q9)
    refine j_iconst X (v := (nI 0)) dX10_drops_12 (by decide) ?_
    refine j_callV X (m_fails hok hst hM (n := 0) (by decide)) i_X10_fails tw_6_135 tw_6_137 tp_25 M0 rfl dX10_drops_13 ?_ 
    refine j_if_eq X (tgt := 23) dX10_drops_16 (by decide) (fun _ => ?_) (fun q9 => absurd (rfl) q9)
    have hG1 := hG.jcode (nI 0)
    have c1 : jU t M 7 (nI 0) M 7 = nI 0 := by rw [jU_eq]; rfl
    have f1 : ∀ c, (c < M ∨ M + 8 ≤ c ∨ c = M + 4 ∨ c = M + 7) → jU t M 7 (nI 0) c = t c := fun c hc => jU_ne _ _ _ (by omega)
    generalize jU t M 7 (nI 0) = t1 at hG1 c1 f1 ⊢
    obtain ⟨w1, w2, w3, w4, w5, w6, w7⟩ := id hG1.1
    refine j_aload_n X (i := 0) dX10_drops_23 rfl rfl ?_
    refine jFd.get X fd_X10_7 M0 rfl dX10_drops_24 ?_
    refine j_iconst X (v := (nI 3)) dX10_drops_27 (by decide) ?_
    refine j_iload_n X (i := 1) dX10_drops_28 rfl rfl ?_
    refine j_callS X (m_which hok hst _) i_X10_which tw_6_132 tw_6_133 dX10_drops_29 ?_ 
    rw [hw, iN_nI]
    refine j_iadd X dX10_drops_32 ?_
    rw [nI_add]
    refine j_iald X M1 rfl (by omega) (by decide) dX10_drops_33 ?_
    rw [w4 _ h23]
    exact j_iret X dX10_drops_34 rfl rfl (mP_mk (by unfold a_drops; rw [qP_t hi, hxn]) c1 hG1 f1)

theorem m_hour {l : Launch} {g : jG} (hok : jOk g) (hst : l.stackTraces = false) {z : Option Nat} {sk : jS} {t : jT} {M : Nat} (hM : isMod g sk M) {w : WB} {G : GS} (hG : RmG t M w G) (hK : okG G) : jMet l g mX10_hour 1 0 0 [.ref (jb g + M)] z sk t (mP M w (a_hour G) z sk t) := by
  refine j_body (lv := [some (.ref (jb g + M))]) i_X10_hour hok hst (fun p e s m args below meth c X => ?_)
  obtain ⟨M0, M1, M2, M3, M4, M5, M6, M7⟩ := id hM
  obtain ⟨r1, r2, r3, r4, r5, r6, r7, r8, r9, r10, r11⟩ := id hG
  obtain ⟨u1, u2, u3, u4, u5, u6, u7⟩ := id r1
  obtain ⟨k1, k2, k3, k4, k5, k6, k7, k8⟩ := id hK.1
  refine j_aload_n X (i := 0) dX10_hour_0 rfl rfl ?_
  refine j_iconst X (v := (nI 0)) dX10_hour_1 (by decide) ?_
  refine jFd.put X fd_X10_39 M0 rfl rfl rfl rfl dX10_hour_2 ?_
  refine j_aload_n X (i := 0) dX10_hour_5 rfl rfl ?_
  refine jFd.get X fd_X10_7 M0 rfl dX10_hour_6 ?_
  refine j_iconst X (v := (nI 2)) dX10_hour_9 (by decide) ?_
  refine j_iald X M1 rfl (by decide) (by decide) dX10_hour_10 ?_
  rw [jU_ne _ _ _ (by omega), u3]
  exact j_iret X dX10_hour_11 rfl rfl (mP_no hG rfl)

theorem m_sheetCount {l : Launch} {g : jG} (hok : jOk g) (hst : l.stackTraces = false) {z : Option Nat} {sk : jS} {t : jT} {M : Nat} (hM : isMod g sk M) {w : WB} {G : GS} (hG : RmG t M w G) (hK : okG G) : jMet l g mX10_sheetCount 1 0 0 [.ref (jb g + M)] z sk t (mP M w (a_sheetCount G) z sk t) := by
  refine j_body (lv := [some (.ref (jb g + M))]) i_X10_sheetCount hok hst (fun p e s m args below meth c X => ?_)
  obtain ⟨M0, M1, M2, M3, M4, M5, M6, M7⟩ := id hM
  obtain ⟨r1, r2, r3, r4, r5, r6, r7, r8, r9, r10, r11⟩ := id hG
  obtain ⟨u1, u2, u3, u4, u5, u6, u7⟩ := id r1
  obtain ⟨k1, k2, k3, k4, k5, k6, k7, k8⟩ := id hK.1
  refine j_aload_n X (i := 0) dX10_sheetCount_0 rfl rfl ?_
  refine j_iconst X (v := (nI 0)) dX10_sheetCount_1 (by decide) ?_
  refine jFd.put X fd_X10_39 M0 rfl rfl rfl rfl dX10_sheetCount_2 ?_
  refine j_aload_n X (i := 0) dX10_sheetCount_5 rfl rfl ?_
  refine jFd.get X fd_X10_7 M0 rfl dX10_sheetCount_6 ?_
  refine j_iconst X (v := (nI 1)) dX10_sheetCount_9 (by decide) ?_
  refine j_iald X M1 rfl (by decide) (by decide) dX10_sheetCount_10 ?_
  rw [jU_ne _ _ _ (by omega), u2]
  exact j_iret X dX10_sheetCount_11 rfl rfl (mP_no hG rfl)

theorem m_dries {l : Launch} {g : jG} (hok : jOk g) (hst : l.stackTraces = false) {z : Option Nat} {sk : jS} {t : jT} {M : Nat} (hM : isMod g sk M) {k : Nat} (hk : k < 8) {pl : Int} (hp : t (M + 1) (51 + 27 * k + 2) = iN pl) (h1 : -1 ≤ pl) (h2 : pl < 3) (h : Nat) : jMet l g mX10_dries 2 0 0 [.ref (jb g + M), .int (nI k), .int (nI h)] z sk t (jE (some (.int (nI (dryN pl h)))) z sk t) := by
  refine j_body (lv := [some (.ref (jb g + M)), some (.int (nI k)), some (.int (nI h))]) i_X10_dries hok hst (fun p e s m args below meth c X => ?_)
  obtain ⟨M0, M1, M2, M3, M4, M5, M6, M7⟩ := id hM
  obtain ⟨i1, i2⟩ := iN_neg1 h1 h2
  refine j_aload_n X (i := 0) dX10_dries_0 rfl rfl ?_
  refine j_iload_n X (i := 1) dX10_dries_1 rfl rfl ?_
  refine j_iconst X (v := (nI 2)) dX10_dries_2 (by decide) ?_
  refine j_callV X (m_on hok hst (k := k) (w := 2) hM (by omega)) i_X10_on tw_7_45 tw_7_47 tp_41 M0 rfl dX10_dries_3 ?_ 
  rw [hp]
  by_cases h0 : 0 ≤ pl
  · refine j_if_lt X (tgt := 13) dX10_dries_6 (by decide) (fun q9 => absurd q9 ((fun z9 => by have := i2.mp z9; omega))) (fun _ => ?_)
    refine j_iconst X (v := (nI 2)) dX10_dries_9 (by decide) ?_
    refine j_goto X (tgt := 24) dX10_dries_10 (by decide) ?_
    exact j_iret X dX10_dries_24 rfl rfl ⟨by unfold dryN; rw [if_pos h0], rfl, rfl, rfl⟩
  · refine j_if_lt X (tgt := 13) dX10_dries_6 (by decide) (fun _ => ?_) (fun q9 => absurd (i2.mpr (by omega)) q9)
    refine j_iload_n X (i := 2) dX10_dries_13 rfl rfl ?_
    refine j_iconst X (v := (nI 2)) dX10_dries_14 (by decide) ?_
    refine j_irem X dX10_dries_15 (by decide) ?_
    by_cases hq : h % 2 = 0
    · refine j_if_ne X (tgt := 23) dX10_dries_16 (by decide) (fun q9 => absurd ((par_rem h).mpr hq) q9) (fun _ => ?_)
      refine j_iconst X (v := (nI 1)) dX10_dries_19 (by decide) ?_
      refine j_goto X (tgt := 24) dX10_dries_20 (by decide) ?_
      exact j_iret X dX10_dries_24 rfl rfl ⟨by unfold dryN; rw [if_neg h0, if_pos hq], rfl, rfl, rfl⟩
    · refine j_if_ne X (tgt := 23) dX10_dries_16 (by decide) (fun _ => ?_) (fun q9 => absurd q9 ((fun z9 => hq ((par_rem h).mp z9))))
      refine j_iconst X (v := (nI 0)) dX10_dries_23 (by decide) ?_
      exact j_iret X dX10_dries_24 rfl rfl ⟨by unfold dryN; rw [if_neg h0, if_neg hq], rfl, rfl, rfl⟩

theorem m_goes {l : Launch} {g : jG} (hok : jOk g) (hst : l.stackTraces = false) {z : Option Nat} {sk : jS} {t : jT} {M : Nat} (hM : isMod g sk M) {V : SV} (hV : RmV (t (M + 1)) V) (h6 : np V ≤ 6) (h8 : ns V ≤ 8) (hs : ∀ k, k < ns V → okS (sh V k)) : jMet l g mX10_goes 3 0 0 [.ref (jb g + M)] z sk t (fun v2 z2 sk2 t2 => v2 = some (.int (nI (fb_ct (goB V) (ns V)))) ∧ z = z2 ∧ sk = sk2 ∧ RmV (t2 (M + 1)) (hoV V 1) ∧ ∀ c, c ≠ M + 1 → t2 c = t c) := by
  refine j_body (lv := [some (.ref (jb g + M)), none, none, none, none]) i_X10_goes hok hst (fun p e s m args below meth c X => ?_)
  obtain ⟨M0, M1, M2, M3, M4, M5, M6, M7⟩ := id hM
  obtain ⟨u1, u2, u3, u4, u5, u6, u7⟩ := id hV
  have key : ∀ k, k ≤ ns V → J p l e (jR 3 0 0) s m args below meth c (jQm below args s g 0 0 (fun v2 z2 sk2 t2 => v2 = some (.int (nI (fb_ct (goB V) (ns V)))) ∧ z = z2 ∧ sk = sk2 ∧ RmV (t2 (M + 1)) (hoV V 1) ∧ ∀ c, c ≠ M + 1 → t2 c = t c)) 5 g 0 0 z sk  (jUf t (M + 1) (fun q => if 51 ≤ q ∧ q < 51 + 27 * k ∧ (q - 51) % 27 = 0 then nI ((sh V ((q - 51) / 27)).1.1 - dryN (sh V ((q - 51) / 27)).1.2.2 (hr V)) else t (M + 1) q)) 4 [some (.ref (jb g + M)), some (.int (nI (fb_ct (goB V) k))), some (.int (nI k)), none, none] [] := by
    refine up_loop ?_ ?_
    · obtain ⟨t1, ht1⟩ : ∃ t1, t1 = jUf t (M + 1) (fun q => if 51 ≤ q ∧ q < 51 + 27 * ns V ∧ (q - 51) % 27 = 0 then nI ((sh V ((q - 51) / 27)).1.1 - dryN (sh V ((q - 51) / 27)).1.2.2 (hr V)) else t (M + 1) q) := ⟨_, rfl⟩
      have o1 : ∀ c, c ≠ M + 1 → t1 c = t c := fun c hc => by rw [ht1]; exact jUf_ne _ _ hc
      have e1 : t1 (M + 1) = fun q => if 51 ≤ q ∧ q < 51 + 27 * ns V ∧ (q - 51) % 27 = 0 then nI ((sh V ((q - 51) / 27)).1.1 - dryN (sh V ((q - 51) / 27)).1.2.2 (hr V)) else t (M + 1) q := by rw [ht1]; exact jUf_eq _ _ _
      have en : ∀ q, (q < 51 ∨ ¬ (q < 51 + 27 * ns V ∧ (q - 51) % 27 = 0)) → t1 (M + 1) q = t (M + 1) q := fun q hq => by rw [e1]; exact if_neg (by omega)
      rw [← ht1]
      clear ht1
      refine j_iload_n X (i := 2) dX10_goes_4 rfl rfl ?_
      refine j_aload_n X (i := 0) dX10_goes_5 rfl rfl ?_
      refine jFd.get X fd_X10_7 M0 rfl dX10_goes_6 ?_
      refine j_iconst X (v := (nI 1)) dX10_goes_9 (by decide) ?_
      refine j_iald X M1 rfl (by decide) (by decide) dX10_goes_10 ?_
      rw [en 1 (by omega), u2]
      refine j_icmp_ge X (tgt := 76) dX10_goes_11 (by decide) (fun _ => ?_) (fun q9 => absurd (nI_le (Nat.le_refl _) (by omega)) q9)
      refine j_aload_n X (i := 0) dX10_goes_76 rfl rfl ?_
      refine jFd.get X fd_X10_7 M0 rfl dX10_goes_77 ?_
      refine j_iconst X (v := (nI 2)) dX10_goes_80 (by decide) ?_
      refine j_dup2 X dX10_goes_81 rfl rfl ?_
      refine j_iald X M1 rfl (by decide) (by decide) dX10_goes_82 ?_
      rw [en 2 (by omega), u3]
      refine j_iconst X (v := (nI 1)) dX10_goes_83 (by decide) ?_
      refine j_iadd X dX10_goes_84 ?_
      rw [nI_add]
      refine j_iast X M1 rfl (by decide) (by decide) dX10_goes_85 ?_
      refine j_iload_n X (i := 1) dX10_goes_86 rfl rfl ?_
      refine j_iret X dX10_goes_87 rfl rfl ⟨rfl, rfl, rfl, ?_, fun c hc => by rw [jU_ne _ _ _ hc]; exact o1 c hc⟩
      rw [jU_eq]
      have o : ∀ q, q ≠ 2 → upd (t1 (M + 1)) 2 (nI (hr V + 1)) q = t1 (M + 1) q := fun q hq => if_neg hq
      refine ⟨(o _ (by omega)).trans ((en _ (by omega)).trans u1), (o _ (by omega)).trans ((en _ (by omega)).trans u2), if_pos rfl, fun i hi => (o _ (by omega)).trans ((en _ (by omega)).trans (u4 i hi)), fun a ha => ?_, fun j hj => (u6 j hj).cong fun i hi => ?_, fun j hj => ?_⟩
      · rw [o _ (by omega), en _ (by omega), u5 a ha]
        refine congrArg iN ((rkG_cong _ _ (fun j _ _ => ?_)).symm)
        show (sh (hoV V 1) j).1.2.2 = _ ↔ _
        rw [hoV_sh]
        split
        · exact Iff.rfl
        · exact Iff.rfl
      · have hj : j < np V := hj
        exact (o _ (by omega)).trans (en _ (by omega))
      · have hj : j < ns V := hj
        rw [hoV_sh, if_pos hj]
        obtain ⟨s1, s2, s3, s4, s5⟩ := u7 j hj
        refine ⟨?_, ?_, ?_, fun i hi => (s4 i hi).cong fun w hw => ?_, fun i hi => (s5 i hi).cong fun w hw => ?_⟩
        · rw [o _ (by omega), e1]
          show (if _ then _ else _) = _
          rw [if_pos (by omega), show (51 + 27 * j - 51) / 27 = j by omega]
          unfold hrS
          rw [dryS_1]
        · exact (o _ (by omega)).trans ((en _ (by omega)).trans s2)
        · exact (o _ (by omega)).trans ((en _ (by omega)).trans s3)
        · exact (o _ (by omega)).trans (en _ (by rcases (show i = 0 ∨ i = 1 ∨ i = 2 by omega) with rfl | rfl | rfl <;> omega))
        · exact (o _ (by omega)).trans (en _ (by rcases (show i = 0 ∨ i = 1 ∨ i = 2 by omega) with rfl | rfl | rfl <;> omega))
    · intro k hk ih
      obtain ⟨F, hF⟩ : ∃ F : Nat → Int32, F = (fun q => if 51 ≤ q ∧ q < 51 + 27 * k ∧ (q - 51) % 27 = 0 then nI ((sh V ((q - 51) / 27)).1.1 - dryN (sh V ((q - 51) / 27)).1.2.2 (hr V)) else t (M + 1) q) := ⟨_, rfl⟩
      have en : ∀ q, (q < 51 ∨ 51 + 27 * k ≤ q ∨ (q - 51) % 27 ≠ 0) → F q = t (M + 1) q := fun q hq => by rw [hF]; exact if_neg (by omega)
      rw [← hF]
      obtain ⟨o1, o2, o3⟩ := hs k hk
      obtain ⟨s1, s2, s3, s4, s5⟩ := u7 k hk
      obtain ⟨w9, hw9⟩ : ∃ w9, w9 = (sh V k).1.1 := ⟨_, rfl⟩
      obtain ⟨a9, ha9⟩ : ∃ a9, a9 = (sh V k).1.2.2 := ⟨_, rfl⟩
      rw [← hw9] at o1 s1
      rw [← ha9] at o2 o3 s3
      have hct : fb_ct (goB V) (k + 1) = fb_ct (goB V) k + (if 0 < w9 ∧ w9 ≤ dryN a9 (hr V) then 1 else 0) := by
        rw [fb_ct_succ]
        unfold goB
        rw [← hw9, ← ha9]
        by_cases z9 : 0 < w9 ∧ w9 ≤ dryN a9 (hr V)
        · rw [decide_eq_true z9, if_pos z9, if_pos rfl]
        · rw [decide_eq_false z9, if_neg z9]; rfl
      have e1 : jUf t (M + 1) F (M + 1) 1 = nI (ns V) := by rw [jUf_eq, en _ (by omega)]; exact u2
      have e2 : jUf t (M + 1) F (M + 1) 2 = nI (hr V) := by rw [jUf_eq, en _ (by omega)]; exact u3
      have e3 : jUf t (M + 1) F (M + 1) (51 + 27 * k + 0) = nI w9 := by rw [jUf_eq, en _ (by omega)]; exact s1
      have e4 : jUf t (M + 1) F (M + 1) (51 + 27 * k + 2) = iN a9 := by rw [jUf_eq, en _ (by omega)]; exact s3
      have hd2 : dryN a9 (hr V) ≤ 2 := by
        unfold dryN
        split
        · omega
        · split <;> omega
      refine j_iload_n X (i := 2) dX10_goes_4 rfl rfl ?_
      refine j_aload_n X (i := 0) dX10_goes_5 rfl rfl ?_
      refine jFd.get X fd_X10_7 M0 rfl dX10_goes_6 ?_
      refine j_iconst X (v := (nI 1)) dX10_goes_9 (by decide) ?_
      refine j_iald X M1 rfl (by decide) (by decide) dX10_goes_10 ?_
      rw [e1]
      refine j_icmp_ge X (tgt := 76) dX10_goes_11 (by decide) (fun q9 => absurd q9 (nI_ge hk (by omega))) (fun _ => ?_)
      refine j_aload_n X (i := 0) dX10_goes_14 rfl rfl ?_
      refine j_iload_n X (i := 2) dX10_goes_15 rfl rfl ?_
      refine j_iconst X (v := (nI 0)) dX10_goes_16 (by decide) ?_
      refine j_callV X (m_on hok hst (k := k) (w := 0) hM (by omega)) i_X10_on tw_7_45 tw_7_47 tp_41 M0 rfl dX10_goes_17 ?_ 
      rw [e3]
      refine j_istore_n X (i := 3) dX10_goes_20 rfl (by decide) rfl ?_
      refine j_iload_n X (i := 3) dX10_goes_21 rfl rfl ?_
      refine j_aload_n X (i := 0) dX10_goes_22 rfl rfl ?_
      refine j_iload_n X (i := 2) dX10_goes_23 rfl rfl ?_
      refine j_aload_n X (i := 0) dX10_goes_24 rfl rfl ?_
      refine jFd.get X fd_X10_7 M0 rfl dX10_goes_25 ?_
      refine j_iconst X (v := (nI 2)) dX10_goes_28 (by decide) ?_
      refine j_iald X M1 rfl (by decide) (by decide) dX10_goes_29 ?_
      rw [e2]
      refine j_callV X (m_dries hok hst (k := k) hM (by omega) e4 o2 o3 _) i_X10_dries tw_7_150 tw_7_152 tp_50 M0 rfl dX10_goes_30 ?_ 
      refine j_isub X dX10_goes_33 ?_
      rw [← iN_nI w9, ← iN_nI (dryN a9 (hr V)), iN_sub, iN_nI w9]
      refine j_istore X (i := 4) dX10_goes_34 (by decide) rfl ?_
      refine j_aload_n X (i := 0) dX10_goes_36 rfl rfl ?_
      refine j_iload_n X (i := 2) dX10_goes_37 rfl rfl ?_
      refine j_iconst X (v := (nI 0)) dX10_goes_38 (by decide) ?_
      refine j_iload X (i := 4) dX10_goes_39 rfl ?_
      have hle := iN_le (a := (w9 : Int) - (dryN a9 (hr V) : Int)) (b := 0) (by omega) (by omega) (by decide) (by decide)
      have fin : J p l e (jR 3 0 0) s m args below meth c (jQm below args s g 0 0 (fun v2 z2 sk2 t2 => v2 = some (.int (nI (fb_ct (goB V) (ns V)))) ∧ z = z2 ∧ sk = sk2 ∧ RmV (t2 (M + 1)) (hoV V 1) ∧ ∀ c, c ≠ M + 1 → t2 c = t c)) 5 g 0 0 z sk  (jUf t (M + 1) F) 50 [some (.ref (jb g + M)), some (.int (nI (fb_ct (goB V) k))), some (.int (nI k)), some (.int (nI w9)), some (.int (iN ((w9 : Int) - (dryN a9 (hr V) : Int))))] [.int (nI (w9 - dryN a9 (hr V))), .int (nI 0), .int (nI k), .ref (jb g + M)] := by
        refine j_callV X (m_lays hok hst (k := k) (w := 0) hM (by omega) _) i_X10_lays tw_7_33 tw_7_35 tp_39 M0 rfl dX10_goes_50 ?_ 
        have e55 : jU (jUf t (M + 1) F) (M + 1) (51 + 27 * k + 0) (nI (w9 - dryN a9 (hr V))) = jUf t (M + 1) (fun q => if 51 ≤ q ∧ q < 51 + 27 * (k + 1) ∧ (q - 51) % 27 = 0 then nI ((sh V ((q - 51) / 27)).1.1 - dryN (sh V ((q - 51) / 27)).1.2.2 (hr V)) else t (M + 1) q) := by
          rw [jU_row, jUf_jUf, jUf_eq]
          congr 1
          funext q
          unfold upd
          by_cases hq : q = 51 + 27 * k + 0
          · rw [if_pos hq, if_pos (by omega), show (q - 51) / 27 = k by omega, ← hw9, ← ha9]
          · rw [if_neg hq, hF]
            show (if _ then _ else _) = _
            by_cases h2 : 51 ≤ q ∧ q < 51 + 27 * k ∧ (q - 51) % 27 = 0
            · rw [if_pos h2, if_pos (by omega)]
            · rw [if_neg h2, if_neg (by omega)]
        rw [e55]
        have last : ∀ n : Nat, n = (if 0 < w9 ∧ w9 ≤ dryN a9 (hr V) then 1 else 0) → J p l e (jR 3 0 0) s m args below meth c (jQm below args s g 0 0 (fun v2 z2 sk2 t2 => v2 = some (.int (nI (fb_ct (goB V) (ns V)))) ∧ z = z2 ∧ sk = sk2 ∧ RmV (t2 (M + 1)) (hoV V 1) ∧ ∀ c, c ≠ M + 1 → t2 c = t c)) 5 g 0 0 z sk  (jUf t (M + 1) (fun q => if 51 ≤ q ∧ q < 51 + 27 * (k + 1) ∧ (q - 51) % 27 = 0 then nI ((sh V ((q - 51) / 27)).1.1 - dryN (sh V ((q - 51) / 27)).1.2.2 (hr V)) else t (M + 1) q)) 68 [some (.ref (jb g + M)), some (.int (nI (fb_ct (goB V) k))), some (.int (nI k)), some (.int (nI w9)), some (.int (iN ((w9 : Int) - (dryN a9 (hr V) : Int))))] [.int (nI n), .int (nI (fb_ct (goB V) k))] := fun n hn => by
          refine j_iadd X dX10_goes_68 ?_
          rw [nI_add, hn, ← hct]
          refine j_istore_n X (i := 1) dX10_goes_69 rfl (by decide) rfl ?_
          refine j_iinc X (i := 2) (v := (nI (k + 1))) dX10_goes_70 rfl (nI_1 k) (by decide) rfl ?_
          refine j_goto X (tgt := 4) dX10_goes_73 (by decide) ?_
          refine j_drop 3 (j_drop 4 ?_)
          exact ih
        refine j_iload_n X (i := 1) dX10_goes_53 rfl rfl ?_
        refine j_iload_n X (i := 3) dX10_goes_54 rfl rfl ?_
        have hgt := iN_lt (a := 0) (b := (w9 : Int) - (dryN a9 (hr V) : Int)) (by decide) (by decide) (by omega) (by omega)
        by_cases c1 : 0 < w9
        · refine j_if_le X (tgt := 67) dX10_goes_55 (by decide) (fun q9 => absurd q9 ((show ¬ nI w9 ≤ nI 0 from nI_ge c1 (by omega)))) (fun _ => ?_)
          refine j_iload X (i := 4) dX10_goes_58 rfl ?_
          by_cases c2 : w9 ≤ dryN a9 (hr V)
          · refine j_if_gt X (tgt := 67) dX10_goes_60 (by decide) (fun q9 => absurd q9 ((fun z9 => by have := hgt.mp z9; omega))) (fun _ => ?_)
            refine j_iconst X (v := (nI 1)) dX10_goes_63 (by decide) ?_
            refine j_goto X (tgt := 68) dX10_goes_64 (by decide) ?_
            exact last 1 (if_pos ⟨c1, c2⟩).symm
          · refine j_if_gt X (tgt := 67) dX10_goes_60 (by decide) (fun _ => ?_) (fun q9 => absurd (hgt.mpr (by omega)) q9)
            refine j_iconst X (v := (nI 0)) dX10_goes_67 (by decide) ?_
            exact last 0 (if_neg (by omega)).symm
        · refine j_if_le X (tgt := 67) dX10_goes_55 (by decide) (fun _ => ?_) (fun q9 => absurd ((show nI w9 ≤ nI 0 from nI_le (by omega) (by decide))) q9)
          refine j_iconst X (v := (nI 0)) dX10_goes_67 (by decide) ?_
          exact last 0 (if_neg (by omega)).symm
      by_cases c2 : w9 ≤ dryN a9 (hr V)
      · rw [show w9 - dryN a9 (hr V) = 0 by omega] at fin
        refine j_if_le X (tgt := 49) dX10_goes_41 (by decide) (fun _ => ?_) (fun q9 => absurd (hle.mpr (by omega)) q9)
        refine j_iconst X (v := (nI 0)) dX10_goes_49 (by decide) ?_
        exact fin
      · rw [show nI (w9 - dryN a9 (hr V)) = iN ((w9 : Int) - (dryN a9 (hr V) : Int)) by rw [← iN_nI]; congr 1; omega] at fin
        refine j_if_le X (tgt := 49) dX10_goes_41 (by decide) (fun q9 => absurd q9 ((fun z9 => by have := hle.mp z9; omega))) (fun _ => ?_)
        refine j_iload X (i := 4) dX10_goes_44 rfl ?_
        refine j_goto X (tgt := 50) dX10_goes_46 (by decide) ?_
        exact fin
  refine j_iconst X (v := (nI 0)) dX10_goes_0 (by decide) ?_
  refine j_istore_n X (i := 1) dX10_goes_1 rfl (by decide) rfl ?_
  refine j_iconst X (v := (nI 0)) dX10_goes_2 (by decide) ?_
  refine j_istore_n X (i := 2) dX10_goes_3 rfl (by decide) rfl ?_
  have k0 := key 0 (Nat.zero_le _)
  rw [show (fun q => if 51 ≤ q ∧ q < 51 + 27 * 0 ∧ (q - 51) % 27 = 0 then nI ((sh V ((q - 51) / 27)).1.1 - dryN (sh V ((q - 51) / 27)).1.2.2 (hr V)) else t (M + 1) q) = t (M + 1) from funext fun q => if_neg (by omega), jUf_self] at k0
  exact k0

theorem m_passHours {l : Launch} {g : jG} (hok : jOk g) (hst : l.stackTraces = false) {z : Option Nat} {sk : jS} {t : jT} {M : Nat} (hM : isMod g sk M) {w : WB} {G : GS} (hG : RmG t M w G) (hK : okG G) (x : Int32) : jMet l g mX10_passHours 4 0 0 [.ref (jb g + M), .int x] z sk t (mP M w (a_passHours w.1 G x) z sk t) := by
  refine j_body (lv := [some (.ref (jb g + M)), some (.int x), none, none]) i_X10_passHours hok hst (fun p e s m args below meth c X => ?_)
  obtain ⟨M0, M1, M2, M3, M4, M5, M6, M7⟩ := id hM
  obtain ⟨r1, r2, r3, r4, r5, r6, r7, r8, r9, r10, r11⟩ := id hG
  obtain ⟨u1, u2, u3, u4, u5, u6, u7⟩ := id r1
  obtain ⟨k1, k2, k3, k4, k5, k6, k7, k8⟩ := id hK.1
  have no : ∀ (n : Nat) (m2 : Int), 0 < n → n < 4 → m2 < 0 → vHours (gV G) x = (m2, gV G) → cod (-2) (-9) (-9) m2 = n → J p l e (jR 4 0 0) s m args below meth c (jQm below args s g 0 0 (mP M w (a_passHours w.1 G x) z sk t)) 4 g 0 0 z sk t 16 [some (.ref (jb g + M)), some (.int x), none, none] [.int (nI n), .ref (jb g + M)] := fun n m2 h0 h4 hm ev hc => by
    refine j_callV X (m_fails hok hst hM h4) i_X10_fails tw_6_135 tw_6_137 tp_25 M0 rfl dX10_passHours_16 ?_ 
    rw [decide_eq_true h0]
    refine j_if_eq X (tgt := 24) dX10_passHours_19 (by decide) (fun q9 => absurd q9 (by decide)) (fun _ => ?_)
    refine j_iconst X (v := (nI 0)) dX10_passHours_22 (by decide) ?_
    exact j_iret X dX10_passHours_23 rfl rfl (mP_no hG (by rw [a_passHours, ev, ch_no hm, hc]))
  refine j_aload_n X (i := 0) dX10_passHours_0 rfl rfl ?_
  refine j_iload_n X (i := 1) dX10_passHours_1 rfl rfl ?_
  refine j_iconst X (v := (nI 1)) dX10_passHours_2 (by decide) ?_
  refine j_bipush X (v := (nI 50)) dX10_passHours_3 (by decide) ?_
  refine j_callS X (m_in hok hst _ _ _) i_X10_in tw_6_154 tw_6_155 dX10_passHours_5 ?_ 
  cases hi : inB x (nI 1) (nI 50) with
  | false =>
    have hi := of_decide_eq_false hi
    rw [show (nI 1).toInt = 1 by decide, show (nI 50).toInt = 50 by decide] at hi
    refine j_if_eq X (tgt := 15) dX10_passHours_8 (by decide) (fun _ => ?_) (fun q9 => absurd (rfl) q9)
    refine j_iconst X (v := (nI 1)) dX10_passHours_15 (by decide) ?_
    exact no 1 (-2) (by decide) (by decide) (by decide) (by unfold vHours; rw [if_pos (by omega)]) (by decide)
  | true =>
    have hi := of_decide_eq_true hi
    rw [show (nI 1).toInt = 1 by decide, show (nI 50).toInt = 50 by decide] at hi
    obtain ⟨h, hh, rfl⟩ : ∃ n : Nat, n < 100 ∧ x = nI n := ⟨x.toInt.toNat, by omega, by rw [← Int32.toInt_inj, nI_toInt (by omega)]; omega⟩
    rw [nI_toInt (by omega)] at hi
    have ev : vHours (gV G) (nI h) = ((fb_ct (drB (gV G) h) (ns (gV G)) : Int), hoV (gV G) h) := by
      unfold vHours
      rw [nI_toInt (by omega), if_neg (by omega)]
      rfl
    have hr2 : a_passHours w.1 G (nI h) = (0, nI (fb_ct (drB (gV G) h) (ns (gV G))), (hoV (gV G) h, (kpG w.1 G).2)) := by
      rw [a_passHours, ev, ch_yes (by omega) (by decide) (by decide) (by decide), iN_nI]
    refine j_if_eq X (tgt := 15) dX10_passHours_8 (by decide) (fun q9 => absurd q9 (by decide)) (fun _ => ?_)
    refine j_iconst X (v := (nI 0)) dX10_passHours_11 (by decide) ?_
    refine j_goto X (tgt := 16) dX10_passHours_12 (by decide) ?_
    refine j_callV X (m_fails hok hst hM (n := 0) (by decide)) i_X10_fails tw_6_135 tw_6_137 tp_25 M0 rfl dX10_passHours_16 ?_ 
    rw [decide_eq_false (Nat.lt_irrefl 0)]
    refine j_if_eq X (tgt := 24) dX10_passHours_19 (by decide) (fun _ => ?_) (fun q9 => absurd (rfl) q9)
    have hG1 := hG.jcode (nI 0)
    have f1 : ∀ c, c ≠ M → jU t M 7 (nI 0) c = t c := fun c hc => jU_ne _ _ _ hc
    generalize jU t M 7 (nI 0) = t1 at hG1 f1 ⊢
    refine j_aload_n X (i := 0) dX10_passHours_24 rfl rfl ?_
    refine j_aload_n X (i := 0) dX10_passHours_25 rfl rfl ?_
    refine jFd.get X fd_X10_7 M0 rfl dX10_passHours_26 ?_
    refine j_callV_p X (m_keepG hok hst hM hG1 hK) i_X10_keeps tw_6_139 tw_6_141 tp_26 M0 rfl dX10_passHours_29 (fun v2 z2 sk2 t2 hp => ?_) 
    obtain ⟨rfl, rfl, rfl, hG2, c2, f2a⟩ := hp
    have f2 : ∀ c, (c < M ∨ M + 8 ≤ c ∨ c = M + 4 ∨ c = M + 7) → t2 c = t c := fun c hc => (f2a c (by omega) (by omega)).trans (f1 c (by omega))
    have w2 : RmV (t2 (M + 1)) (gV G) := hG2.1
    clear f2a hG1 f1 t1
    have loop : ∀ j, j ≤ h → ∀ tj, RmV (tj (M + 1)) (hoV (gV G) j) → (∀ c, c ≠ M + 1 → tj c = t2 c) → J p l e (jR 4 0 0) s m args below meth c (jQm below args s g 0 0 (mP M w (a_passHours w.1 G (nI h)) z sk t)) 4 g (0 + 0 + 0 + 0) (0 + 0 + 0 + 0) z sk  tj 36 [some (.ref (jb g + M)), some (.int (nI h)), some (.int (nI (fb_ct (drB (gV G) j) (ns (gV G))))), some (.int (nI j))] [] := by
      refine up_loop ?_ ?_
      · intro tj hV hf
        refine j_iload_n X (i := 3) dX10_passHours_36 rfl rfl ?_
        refine j_iload_n X (i := 1) dX10_passHours_37 rfl rfl ?_
        refine j_icmp_ge X (tgt := 54) dX10_passHours_38 (by decide) (fun _ => ?_) (fun q9 => absurd (nI_le (Nat.le_refl _) (by omega)) q9)
        refine j_iload_n X (i := 2) dX10_passHours_54 rfl rfl ?_
        refine j_iret X dX10_passHours_55 rfl rfl (mP_mk hr2 ?_ (hG2.g hV hf) ?_)
        · rw [hf _ (by omega)]; exact c2
        · intro c hc
          rw [hf c (by omega)]
          exact f2 c hc
      · intro j hj ih tj hV hf
        refine j_iload_n X (i := 3) dX10_passHours_36 rfl rfl ?_
        refine j_iload_n X (i := 1) dX10_passHours_37 rfl rfl ?_
        refine j_icmp_ge X (tgt := 54) dX10_passHours_38 (by decide) (fun q9 => absurd q9 (nI_ge hj (by omega))) (fun _ => ?_)
        refine j_iload_n X (i := 2) dX10_passHours_41 rfl rfl ?_
        refine j_aload_n X (i := 0) dX10_passHours_42 rfl rfl ?_
        refine j_callV_p X (m_goes hok hst hM hV k1 k2 (fun k hk => by rw [hoV_sh]; split; exact okS_hr (k4 k (Nat.lt_of_lt_of_le hk k2)) _ _; exact k4 k (Nat.lt_of_lt_of_le hk k2))) i_X10_goes tw_7_146 tw_7_148 tp_49 M0 rfl dX10_passHours_43 (fun v2 z2 sk2 t2 hp => ?_) 
        obtain ⟨rfl, rfl, rfl, hV2, hf2⟩ := hp
        rw [hoV_succ] at hV2
        refine j_iadd X dX10_passHours_46 ?_
        rw [nI_add, show ns (hoV (gV G) j) = ns (gV G) from rfl, ← dr_ct]
        refine j_istore_n X (i := 2) dX10_passHours_47 rfl (by decide) rfl ?_
        refine j_iinc X (i := 3) (v := (nI (j + 1))) dX10_passHours_48 rfl (nI_1 j) (by decide) rfl ?_
        refine j_goto X (tgt := 36) dX10_passHours_51 (by decide) ?_
        exact ih t2 hV2 (fun c hc => (hf2 c hc).trans (hf c hc))
    refine j_iconst X (v := (nI 0)) dX10_passHours_32 (by decide) ?_
    refine j_istore_n X (i := 2) dX10_passHours_33 rfl (by decide) rfl ?_
    refine j_iconst X (v := (nI 0)) dX10_passHours_34 (by decide) ?_
    refine j_istore_n X (i := 3) dX10_passHours_35 rfl (by decide) rfl ?_
    have k0 := loop 0 (Nat.zero_le _) t2 (by rw [hoV_0]; exact w2) (fun _ _ => rfl)
    rw [dr_ct0] at k0
    exact k0

theorem m_hoursTo {l : Launch} {g : jG} (hok : jOk g) (hst : l.stackTraces = false) {z : Option Nat} {sk : jS} {t : jT} {M : Nat} (hM : isMod g sk M) {k : Nat} (hk : k < 8) {v : TV} {h : Nat} (hS : RmS (t (M + 1)) (51 + 27 * k) v) (hh : t (M + 1) 2 = nI h) (hv : okS v) : jMet l g mX10_hoursTo 3 0 0 [.ref (jb g + M), .int (nI k)] z sk t (jE (some (.int (nI (dryT v.1.1 v.1.2.2 h)))) z sk t) := by
  refine j_body (lv := [some (.ref (jb g + M)), some (.int (nI k)), none, none]) i_X10_hoursTo hok hst (fun p e s m args below meth c X => ?_)
  obtain ⟨M0, M1, M2, M3, M4, M5, M6, M7⟩ := id hM
  obtain ⟨s1, s2, s3, s4, s5⟩ := id hS
  obtain ⟨o1, o2, o3⟩ := hv
  obtain ⟨w9, hw9⟩ : ∃ w9, w9 = v.1.1 := ⟨_, rfl⟩
  obtain ⟨a9, ha9⟩ : ∃ a9, a9 = v.1.2.2 := ⟨_, rfl⟩
  rw [← hw9] at o1 s1 ⊢
  rw [← ha9] at o2 o3 s3 ⊢
  have hSb : ∀ n, dryS a9 h n ≤ 2 * n + 1 := fun n => by unfold dryS; split <;> omega
  have hle := dryT_le w9 a9 h
  have key : ∀ n9, n9 ≤ dryT w9 a9 h → J p l e (jR 3 0 0) s m args below meth c (jQm below args s g 0 0 (jE (some (.int (nI (dryT w9 a9 h)))) z sk t)) 4 g 0 0 z sk t 9 [some (.ref (jb g + M)), some (.int (nI k)), some (.int (nI n9)), some (.int (iN ((w9 : Int) - (dryS a9 h n9 : Int))))] [] := by
    refine up_loop ?_ ?_
    · have h0 := dryT_at w9 a9 h
      have hb := hSb (dryT w9 a9 h)
      refine j_iload_n X (i := 3) dX10_hoursTo_9 rfl rfl ?_
      refine j_if_le X (tgt := 35) dX10_hoursTo_10 (by decide) (fun _ => ?_) (fun q9 => absurd (((iN_le (b := 0) (by omega) (by omega) (by decide) (by decide)).mpr (by omega))) q9)
      refine j_iload_n X (i := 2) dX10_hoursTo_35 rfl rfl ?_
      exact j_iret X dX10_hoursTo_36 rfl rfl ⟨rfl, rfl, rfl, rfl⟩
    · intro n9 hn ih
      have h0 := dryT_before hn
      refine j_iload_n X (i := 3) dX10_hoursTo_9 rfl rfl ?_
      refine j_if_le X (tgt := 35) dX10_hoursTo_10 (by decide) (fun q9 => absurd q9 ((fun z9 => by have := (iN_le (b := 0) (by omega) (by omega) (by decide) (by decide)).mp z9; omega))) (fun _ => ?_)
      refine j_iload_n X (i := 3) dX10_hoursTo_13 rfl rfl ?_
      refine j_aload_n X (i := 0) dX10_hoursTo_14 rfl rfl ?_
      refine j_iload_n X (i := 1) dX10_hoursTo_15 rfl rfl ?_
      refine j_aload_n X (i := 0) dX10_hoursTo_16 rfl rfl ?_
      refine jFd.get X fd_X10_7 M0 rfl dX10_hoursTo_17 ?_
      refine j_iconst X (v := (nI 2)) dX10_hoursTo_20 (by decide) ?_
      refine j_iald X M1 rfl (by decide) (by decide) dX10_hoursTo_21 ?_
      rw [hh]
      refine j_iload_n X (i := 2) dX10_hoursTo_22 rfl rfl ?_
      refine j_iadd X dX10_hoursTo_23 ?_
      rw [nI_add]
      refine j_callV X (m_dries hok hst (k := k) hM hk s3 o2 o3 _) i_X10_dries tw_7_150 tw_7_152 tp_50 M0 rfl dX10_hoursTo_24 ?_ 
      refine j_isub X dX10_hoursTo_27 ?_
      rw [← iN_nI (dryN a9 (h + n9)), iN_sub, show (w9 : Int) - (dryS a9 h n9 : Int) - (dryN a9 (h + n9) : Int) = (w9 : Int) - ((dryS a9 h (n9 + 1) : Nat) : Int) by rw [dryS_succ]; omega]
      refine j_istore_n X (i := 3) dX10_hoursTo_28 rfl (by decide) rfl ?_
      refine j_iinc X (i := 2) (v := (nI (n9 + 1))) dX10_hoursTo_29 rfl (nI_1 n9) (by decide) rfl ?_
      refine j_goto X (tgt := 9) dX10_hoursTo_32 (by decide) ?_
      exact ih
  refine j_iconst X (v := (nI 0)) dX10_hoursTo_0 (by decide) ?_
  refine j_istore_n X (i := 2) dX10_hoursTo_1 rfl (by decide) rfl ?_
  refine j_aload_n X (i := 0) dX10_hoursTo_2 rfl rfl ?_
  refine j_iload_n X (i := 1) dX10_hoursTo_3 rfl rfl ?_
  refine j_iconst X (v := (nI 0)) dX10_hoursTo_4 (by decide) ?_
  refine j_callV X (m_on hok hst (k := k) (w := 0) hM (by omega)) i_X10_on tw_7_45 tw_7_47 tp_41 M0 rfl dX10_hoursTo_5 ?_ 
  rw [show t (M + 1) (51 + 27 * k + 0) = nI w9 from s1]
  refine j_istore_n X (i := 3) dX10_hoursTo_8 rfl (by decide) rfl ?_
  have k0 := key 0 (Nat.zero_le _)
  rw [dryS_0, show (w9 : Int) - ((0 : Nat) : Int) = (w9 : Int) by omega, iN_nI] at k0
  exact k0

theorem m_untilDry {l : Launch} {g : jG} (hok : jOk g) (hst : l.stackTraces = false) {z : Option Nat} {sk : jS} {t : jT} {M : Nat} (hM : isMod g sk M) {w : WB} {G : GS} (hG : RmG t M w G) (hK : okG G) (o : Int32) : jMet l g mX10_hoursUntilDry 4 0 0 [.ref (jb g + M), .int o] z sk t (mP M w (a_untilDry G o) z sk t) := by
  refine j_body (lv := [some (.ref (jb g + M)), some (.int o)]) i_X10_hoursUntilDry hok hst (fun p e s m args below meth c X => ?_)
  obtain ⟨M0, M1, M2, M3, M4, M5, M6, M7⟩ := id hM
  obtain ⟨r1, r2, r3, r4, r5, r6, r7, r8, r9, r10, r11⟩ := id hG
  obtain ⟨u1, u2, u3, u4, u5, u6, u7⟩ := id r1
  obtain ⟨k1, k2, k3, k4, k5, k6, k7, k8⟩ := id hK.1
  refine j_aload_n X (i := 0) dX10_hoursUntilDry_0 rfl rfl ?_
  refine j_iload_n X (i := 1) dX10_hoursUntilDry_1 rfl rfl ?_
  refine j_callV X (m_isLost hok hst hM u2 (by omega) o) i_X10_isLost tw_7_66 tw_7_68 tp_45 M0 rfl dX10_hoursUntilDry_2 ?_ 
  cases ho : pIx (ns (gV G)) o with
  | false =>
    refine j_if_eq X (tgt := 12) dX10_hoursUntilDry_5 (by decide) (fun q9 => absurd q9 (by decide)) (fun _ => ?_)
    refine j_iconst X (v := (nI 0)) dX10_hoursUntilDry_8 (by decide) ?_
    refine j_goto X (tgt := 17) dX10_hoursUntilDry_9 (by decide) ?_
    exact j_iret X dX10_hoursUntilDry_17 rfl rfl (mP_no hG (by unfold a_untilDry; rw [qP_f (show isSg G o = false from ho)]; rfl))
  | true =>
    obtain ⟨k, hk1, rfl, hkn⟩ := pIx_of (by omega) ho
    refine j_if_eq X (tgt := 12) dX10_hoursUntilDry_5 (by decide) (fun _ => ?_) (fun q9 => absurd (rfl) q9)
    have hG1 := hG.jcode (nI (!true).toNat)
    have c1 : jU t M 7 (nI (!true).toNat) M 7 = nI 0 := by rw [jU_eq]; rfl
    have f1 : ∀ c, (c < M ∨ M + 8 ≤ c ∨ c = M + 4 ∨ c = M + 7) → jU t M 7 (nI (!true).toNat) c = t c := fun c hc => jU_ne _ _ _ (by omega)
    generalize jU t M 7 (nI (!true).toNat) = t1 at hG1 c1 f1 ⊢
    obtain ⟨w1, w2, w3, w4, w5, w6, w7⟩ := id hG1.1
    refine j_aload_n X (i := 0) dX10_hoursUntilDry_12 rfl rfl ?_
    refine j_iload_n X (i := 1) dX10_hoursUntilDry_13 rfl rfl ?_
    refine j_callV X (m_hoursTo hok hst (k := k) hM (by omega) (w7 k hk1) w3 (k4 k (by omega))) i_X10_hoursTo tw_7_162 tw_7_164 tp_51 M0 rfl dX10_hoursUntilDry_14 ?_ 
    exact j_iret X dX10_hoursUntilDry_17 rfl rfl (mP_mk (by unfold a_untilDry dryV; rw [qP_t (show isSg G (nI k) = true from ho), sAt_nI hkn]) c1 hG1 f1)

theorem m_untilDryAtOnce {l : Launch} {g : jG} (hok : jOk g) (hst : l.stackTraces = false) {z : Option Nat} {sk : jS} {t : jT} {M : Nat} (hM : isMod g sk M) {w : WB} {G : GS} (hG : RmG t M w G) (hK : okG G) (o : Int32) : jMet l g mX10_hoursUntilDryAtOnce 4 0 0 [.ref (jb g + M), .int o] z sk t (mP M w (a_untilDry G o) z sk t) := by
  refine j_body (lv := [some (.ref (jb g + M)), some (.int o)]) i_X10_hoursUntilDryAtOnce hok hst (fun p e s m args below meth c X => ?_)
  obtain ⟨M0, M1, M2, M3, M4, M5, M6, M7⟩ := id hM
  obtain ⟨r1, r2, r3, r4, r5, r6, r7, r8, r9, r10, r11⟩ := id hG
  obtain ⟨u1, u2, u3, u4, u5, u6, u7⟩ := id r1
  obtain ⟨k1, k2, k3, k4, k5, k6, k7, k8⟩ := id hK.1
  refine j_aload_n X (i := 0) dX10_hoursUntilDryAtOnce_0 rfl rfl ?_
  refine j_iload_n X (i := 1) dX10_hoursUntilDryAtOnce_1 rfl rfl ?_
  refine j_callV X (m_isLost hok hst hM u2 (by omega) o) i_X10_isLost tw_7_66 tw_7_68 tp_45 M0 rfl dX10_hoursUntilDryAtOnce_2 ?_ 
  cases ho : pIx (ns (gV G)) o with
  | false =>
    refine j_if_eq X (tgt := 12) dX10_hoursUntilDryAtOnce_5 (by decide) (fun q9 => absurd q9 (by decide)) (fun _ => ?_)
    refine j_iconst X (v := (nI 0)) dX10_hoursUntilDryAtOnce_8 (by decide) ?_
    refine j_goto X (tgt := 17) dX10_hoursUntilDryAtOnce_9 (by decide) ?_
    exact j_iret X dX10_hoursUntilDryAtOnce_17 rfl rfl (mP_no hG (by unfold a_untilDry; rw [qP_f (show isSg G o = false from ho)]; rfl))
  | true =>
    obtain ⟨k, hk1, rfl, hkn⟩ := pIx_of (by omega) ho
    refine j_if_eq X (tgt := 12) dX10_hoursUntilDryAtOnce_5 (by decide) (fun _ => ?_) (fun q9 => absurd (rfl) q9)
    have hG1 := hG.jcode (nI (!true).toNat)
    have c1 : jU t M 7 (nI (!true).toNat) M 7 = nI 0 := by rw [jU_eq]; rfl
    have f1 : ∀ c, (c < M ∨ M + 8 ≤ c ∨ c = M + 4 ∨ c = M + 7) → jU t M 7 (nI (!true).toNat) c = t c := fun c hc => jU_ne _ _ _ (by omega)
    generalize jU t M 7 (nI (!true).toNat) = t1 at hG1 c1 f1 ⊢
    obtain ⟨w1, w2, w3, w4, w5, w6, w7⟩ := id hG1.1
    refine j_aload_n X (i := 0) dX10_hoursUntilDryAtOnce_12 rfl rfl ?_
    refine j_iload_n X (i := 1) dX10_hoursUntilDryAtOnce_13 rfl rfl ?_
    refine j_callV X (m_hoursTo hok hst (k := k) hM (by omega) (w7 k hk1) w3 (k4 k (by omega))) i_X10_hoursTo tw_7_162 tw_7_164 tp_51 M0 rfl dX10_hoursUntilDryAtOnce_14 ?_ 
    exact j_iret X dX10_hoursUntilDryAtOnce_17 rfl rfl (mP_mk (by unfold a_untilDry dryV; rw [qP_t (show isSg G (nI k) = true from ho), sAt_nI hkn]) c1 hG1 f1)

