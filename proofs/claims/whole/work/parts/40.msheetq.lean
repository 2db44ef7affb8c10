def bey (b b2 : Bool) : Nat := if b = false then 1 else if b2 = false then 2 else 0
theorem bey_lt (b b2 : Bool) : bey b b2 < 4 := by cases b <;> cases b2 <;> decide
theorem in07 (x : Int32) : inB x (nI 0) (nI 7) = pIx 8 x := by
  unfold inB pIx
  rw [show (nI 0).toInt = 0 by decide, show (nI 7).toInt = 7 by decide]
  exact decide_eq_decide.mpr (by omega)
theorem in02 (x : Int32) : inB x (nI 0) (nI 2) = pIx 3 x := by
  unfold inB pIx
  rw [show (nI 0).toInt = 0 by decide, show (nI 2).toInt = 2 by decide]
  exact decide_eq_decide.mpr (by omega)
theorem m_isBeyond {l : Launch} {g : jG} (hok : jOk g) (hst : l.stackTraces = false) {z : Option Nat} {sk : jS} {t : jT} {M : Nat} (hM : isMod g sk M) {n : Nat} (hn : t (M + 1) 1 = nI n) (hle : n < 100) (o x y : Int32) : jMet l g mX10_isBeyond 3 0 0 [.ref (jb g + M), .int o, .int x, .int y] z sk t (jE (some (.int (nI (decide (0 < bey (pIx n o) (isPl x y))).toNat))) z sk (jU t M 7 (nI (bey (pIx n o) (isPl x y))))) := by
  refine j_body (lv := [some (.ref (jb g + M)), some (.int o), some (.int x), some (.int y)]) i_X10_isBeyond hok hst (fun p e s m args below meth c X => ?_)
  obtain ⟨M0, M1, M2, M3, M4, M5, M6, M7⟩ := id hM
  refine j_aload_n X (i := 0) dX10_isBeyond_0 rfl rfl ?_
  refine j_aload_n X (i := 0) dX10_isBeyond_1 rfl rfl ?_
  refine j_iload_n X (i := 1) dX10_isBeyond_2 rfl rfl ?_
  refine j_callV X (m_isSheet hok hst hM hn hle o) i_X10_isSheet tw_7_41 tw_7_43 tp_40 M0 rfl dX10_isBeyond_3 ?_ 
  cases ho : pIx n o with
  | false =>
    refine j_if_ne X (tgt := 13) dX10_isBeyond_6 (by decide) (fun q9 => absurd (rfl) q9) (fun _ => ?_)
    refine j_iconst X (v := (nI 1)) dX10_isBeyond_9 (by decide) ?_
    refine j_goto X (tgt := 26) dX10_isBeyond_10 (by decide) ?_
    refine j_callV X (m_fails hok hst hM (n := 1) (by decide)) i_X10_fails tw_6_135 tw_6_137 tp_25 M0 rfl dX10_isBeyond_26 ?_ 
    exact j_iret X dX10_isBeyond_29 rfl rfl ⟨rfl, rfl, rfl, rfl⟩
  | true =>
    refine j_if_ne X (tgt := 13) dX10_isBeyond_6 (by decide) (fun _ => ?_) (fun q9 => absurd q9 (by decide))
    refine j_iload_n X (i := 2) dX10_isBeyond_13 rfl rfl ?_
    refine j_iload_n X (i := 3) dX10_isBeyond_14 rfl rfl ?_
    refine j_callS X (m_isOn hok hst _ _) i_X10_isOn tw_6_157 tw_6_158 dX10_isBeyond_15 ?_ 
    cases hp : isPl x y with
    | false =>
      refine j_if_eq X (tgt := 25) dX10_isBeyond_18 (by decide) (fun _ => ?_) (fun q9 => absurd (rfl) q9)
      refine j_iconst X (v := (nI 2)) dX10_isBeyond_25 (by decide) ?_
      refine j_callV X (m_fails hok hst hM (n := 2) (by decide)) i_X10_fails tw_6_135 tw_6_137 tp_25 M0 rfl dX10_isBeyond_26 ?_ 
      exact j_iret X dX10_isBeyond_29 rfl rfl ⟨rfl, rfl, rfl, rfl⟩
    | true =>
      refine j_if_eq X (tgt := 25) dX10_isBeyond_18 (by decide) (fun q9 => absurd q9 (by decide)) (fun _ => ?_)
      refine j_iconst X (v := (nI 0)) dX10_isBeyond_21 (by decide) ?_
      refine j_goto X (tgt := 26) dX10_isBeyond_22 (by decide) ?_
      refine j_callV X (m_fails hok hst hM (n := 0) (by decide)) i_X10_fails tw_6_135 tw_6_137 tp_25 M0 rfl dX10_isBeyond_26 ?_ 
      exact j_iret X dX10_isBeyond_29 rfl rfl ⟨rfl, rfl, rfl, rfl⟩

theorem m_wouldSmear {l : Launch} {g : jG} (hok : jOk g) (hst : l.stackTraces = false) {z : Option Nat} {sk : jS} {t : jT} {M : Nat} (hM : isMod g sk M) {w : WB} {G : GS} (hG : RmG t M w G) (hK : okG G) (o : Int32) : jMet l g mX10_wouldSmear 4 0 0 [.ref (jb g + M), .int o] z sk t (mP M w (a_wouldSmear G o) z sk t) := by
  refine j_body (lv := [some (.ref (jb g + M)), some (.int o)]) i_X10_wouldSmear hok hst (fun p e s m args below meth c X => ?_)
  obtain ⟨M0, M1, M2, M3, M4, M5, M6, M7⟩ := id hM
  obtain ⟨r1, r2, r3, r4, r5, r6, r7, r8, r9, r10, r11⟩ := id hG
  obtain ⟨u1, u2, u3, u4, u5, u6, u7⟩ := id r1
  obtain ⟨k1, k2, k3, k4, k5, k6, k7, k8⟩ := id hK.1
  refine j_aload_n X (i := 0) dX10_wouldSmear_0 rfl rfl ?_
  refine j_iload_n X (i := 1) dX10_wouldSmear_1 rfl rfl ?_
  refine j_callV X (m_isLost hok hst hM u2 (by omega) o) i_X10_isLost tw_7_66 tw_7_68 tp_45 M0 rfl dX10_wouldSmear_2 ?_ 
  cases ho : pIx (ns (gV G)) o with
  | false =>
    refine j_if_ne X (tgt := 21) dX10_wouldSmear_5 (by decide) (fun _ => ?_) (fun q9 => absurd q9 (by decide))
    refine j_iconst X (v := (nI 0)) dX10_wouldSmear_21 (by decide) ?_
    exact j_iret X dX10_wouldSmear_22 rfl rfl (mP_no hG (by unfold a_wouldSmear; rw [qP_f (show isSg G o = false from ho)]; rfl))
  | true =>
    obtain ⟨k, hk1, rfl, hkn⟩ := pIx_of (by omega) ho
    refine j_if_ne X (tgt := 21) dX10_wouldSmear_5 (by decide) (fun q9 => absurd (rfl) q9) (fun _ => ?_)
    have hG1 := hG.jcode (nI (!true).toNat)
    have c1 : jU t M 7 (nI (!true).toNat) M 7 = nI 0 := by rw [jU_eq]; rfl
    have f1 : ∀ c, (c < M ∨ M + 8 ≤ c ∨ c = M + 4 ∨ c = M + 7) → jU t M 7 (nI (!true).toNat) c = t c := fun c hc => jU_ne _ _ _ (by omega)
    generalize jU t M 7 (nI (!true).toNat) = t1 at hG1 c1 f1 ⊢
    obtain ⟨w1, w2, w3, w4, w5, w6, w7⟩ := id hG1.1
    refine j_aload_n X (i := 0) dX10_wouldSmear_8 rfl rfl ?_
    refine j_iload_n X (i := 1) dX10_wouldSmear_9 rfl rfl ?_
    refine j_iconst X (v := (nI 0)) dX10_wouldSmear_10 (by decide) ?_
    refine j_callV X (m_on hok hst (k := k) (w := 0) hM (by omega)) i_X10_on tw_7_45 tw_7_47 tp_41 M0 rfl dX10_wouldSmear_11 ?_ 
    rw [show t1 (M + 1) (51 + 27 * k + 0) = nI (sh (gV G) k).1.1 from (w7 k hk1).1]
    have hb := (k4 k (by omega)).bd
    have hr : a_wouldSmear G (nI k) = (0, nI (decide (0 < (sh (gV G) k).1.1)).toNat, G) := by unfold a_wouldSmear; rw [qP_t (show isSg G (nI k) = true from ho), sAt_nI hkn]
    by_cases hw : 0 < (sh (gV G) k).1.1
    · rw [decide_eq_true hw] at hr
      refine j_if_le X (tgt := 21) dX10_wouldSmear_14 (by decide) (fun q9 => absurd q9 ((show ¬ nI (sh (gV G) k).1.1 ≤ nI 0 from nI_ge hw (by omega)))) (fun _ => ?_)
      refine j_iconst X (v := (nI 1)) dX10_wouldSmear_17 (by decide) ?_
      refine j_goto X (tgt := 22) dX10_wouldSmear_18 (by decide) ?_
      exact j_iret X dX10_wouldSmear_22 rfl rfl (mP_mk hr c1 hG1 f1)
    · rw [decide_eq_false hw] at hr
      refine j_if_le X (tgt := 21) dX10_wouldSmear_14 (by decide) (fun _ => ?_) (fun q9 => absurd ((show nI (sh (gV G) k).1.1 ≤ nI 0 from nI_le (by omega) (by decide))) q9)
      refine j_iconst X (v := (nI 0)) dX10_wouldSmear_21 (by decide) ?_
      exact j_iret X dX10_wouldSmear_22 rfl rfl (mP_mk hr c1 hG1 f1)

theorem m_wetness {l : Launch} {g : jG} (hok : jOk g) (hst : l.stackTraces = false) {z : Option Nat} {sk : jS} {t : jT} {M : Nat} (hM : isMod g sk M) {w : WB} {G : GS} (hG : RmG t M w G) (hK : okG G) (o : Int32) : jMet l g mX10_wetness 4 0 0 [.ref (jb g + M), .int o] z sk t (mP M w (a_wetness G o) z sk t) := by
  refine j_body (lv := [some (.ref (jb g + M)), some (.int o)]) i_X10_wetness hok hst (fun p e s m args below meth c X => ?_)
  obtain ⟨M0, M1, M2, M3, M4, M5, M6, M7⟩ := id hM
  obtain ⟨r1, r2, r3, r4, r5, r6, r7, r8, r9, r10, r11⟩ := id hG
  obtain ⟨u1, u2, u3, u4, u5, u6, u7⟩ := id r1
  obtain ⟨k1, k2, k3, k4, k5, k6, k7, k8⟩ := id hK.1
  refine j_aload_n X (i := 0) dX10_wetness_0 rfl rfl ?_
  refine j_iload_n X (i := 1) dX10_wetness_1 rfl rfl ?_
  refine j_callV X (m_isLost hok hst hM u2 (by omega) o) i_X10_isLost tw_7_66 tw_7_68 tp_45 M0 rfl dX10_wetness_2 ?_ 
  cases ho : pIx (ns (gV G)) o with
  | false =>
    refine j_if_eq X (tgt := 12) dX10_wetness_5 (by decide) (fun q9 => absurd q9 (by decide)) (fun _ => ?_)
    refine j_iconst X (v := (nI 0)) dX10_wetness_8 (by decide) ?_
    refine j_goto X (tgt := 18) dX10_wetness_9 (by decide) ?_
    exact j_iret X dX10_wetness_18 rfl rfl (mP_no hG (by unfold a_wetness; rw [qP_f (show isSg G o = false from ho)]; rfl))
  | true =>
    obtain ⟨k, hk1, rfl, hkn⟩ := pIx_of (by omega) ho
    refine j_if_eq X (tgt := 12) dX10_wetness_5 (by decide) (fun _ => ?_) (fun q9 => absurd (rfl) q9)
    have hG1 := hG.jcode (nI (!true).toNat)
    have c1 : jU t M 7 (nI (!true).toNat) M 7 = nI 0 := by rw [jU_eq]; rfl
    have f1 : ∀ c, (c < M ∨ M + 8 ≤ c ∨ c = M + 4 ∨ c = M + 7) → jU t M 7 (nI (!true).toNat) c = t c := fun c hc => jU_ne _ _ _ (by omega)
    generalize jU t M 7 (nI (!true).toNat) = t1 at hG1 c1 f1 ⊢
    obtain ⟨w1, w2, w3, w4, w5, w6, w7⟩ := id hG1.1
    refine j_aload_n X (i := 0) dX10_wetness_12 rfl rfl ?_
    refine j_iload_n X (i := 1) dX10_wetness_13 rfl rfl ?_
    refine j_iconst X (v := (nI 0)) dX10_wetness_14 (by decide) ?_
    refine j_callV X (m_on hok hst (k := k) (w := 0) hM (by omega)) i_X10_on tw_7_45 tw_7_47 tp_41 M0 rfl dX10_wetness_15 ?_ 
    rw [show t1 (M + 1) (51 + 27 * k + 0) = nI (sh (gV G) k).1.1 from (w7 k hk1).1]
    exact j_iret X dX10_wetness_18 rfl rfl (mP_mk (by unfold a_wetness; rw [qP_t (show isSg G (nI k) = true from ho)]; rw [sAt_nI hkn]) c1 hG1 f1)

theorem m_smears {l : Launch} {g : jG} (hok : jOk g) (hst : l.stackTraces = false) {z : Option Nat} {sk : jS} {t : jT} {M : Nat} (hM : isMod g sk M) {w : WB} {G : GS} (hG : RmG t M w G) (hK : okG G) (o : Int32) : jMet l g mX10_smears 4 0 0 [.ref (jb g + M), .int o] z sk t (mP M w (a_smears G o) z sk t) := by
  refine j_body (lv := [some (.ref (jb g + M)), some (.int o)]) i_X10_smears hok hst (fun p e s m args below meth c X => ?_)
  obtain ⟨M0, M1, M2, M3, M4, M5, M6, M7⟩ := id hM
  obtain ⟨r1, r2, r3, r4, r5, r6, r7, r8, r9, r10, r11⟩ := id hG
  obtain ⟨u1, u2, u3, u4, u5, u6, u7⟩ := id r1
  obtain ⟨k1, k2, k3, k4, k5, k6, k7, k8⟩ := id hK.1
  refine j_aload_n X (i := 0) dX10_smears_0 rfl rfl ?_
  refine j_iload_n X (i := 1) dX10_smears_1 rfl rfl ?_
  refine j_callV X (m_isLost hok hst hM u2 (by omega) o) i_X10_isLost tw_7_66 tw_7_68 tp_45 M0 rfl dX10_smears_2 ?_ 
  cases ho : pIx (ns (gV G)) o with
  | false =>
    refine j_if_eq X (tgt := 12) dX10_smears_5 (by decide) (fun q9 => absurd q9 (by decide)) (fun _ => ?_)
    refine j_iconst X (v := (nI 0)) dX10_smears_8 (by decide) ?_
    refine j_goto X (tgt := 18) dX10_smears_9 (by decide) ?_
    exact j_iret X dX10_smears_18 rfl rfl (mP_no hG (by unfold a_smears; rw [qP_f (show isSg G o = false from ho)]; rfl))
  | true =>
    obtain ⟨k, hk1, rfl, hkn⟩ := pIx_of (by omega) ho
    refine j_if_eq X (tgt := 12) dX10_smears_5 (by decide) (fun _ => ?_) (fun q9 => absurd (rfl) q9)
    have hG1 := hG.jcode (nI (!true).toNat)
    have c1 : jU t M 7 (nI (!true).toNat) M 7 = nI 0 := by rw [jU_eq]; rfl
    have f1 : ∀ c, (c < M ∨ M + 8 ≤ c ∨ c = M + 4 ∨ c = M + 7) → jU t M 7 (nI (!true).toNat) c = t c := fun c hc => jU_ne _ _ _ (by omega)
    generalize jU t M 7 (nI (!true).toNat) = t1 at hG1 c1 f1 ⊢
    obtain ⟨w1, w2, w3, w4, w5, w6, w7⟩ := id hG1.1
    refine j_aload_n X (i := 0) dX10_smears_12 rfl rfl ?_
    refine j_iload_n X (i := 1) dX10_smears_13 rfl rfl ?_
    refine j_iconst X (v := (nI 1)) dX10_smears_14 (by decide) ?_
    refine j_callV X (m_on hok hst (k := k) (w := 1) hM (by omega)) i_X10_on tw_7_45 tw_7_47 tp_41 M0 rfl dX10_smears_15 ?_ 
    rw [show t1 (M + 1) (51 + 27 * k + 1) = nI (sh (gV G) k).1.2.1 from (w7 k hk1).2.1]
    exact j_iret X dX10_smears_18 rfl rfl (mP_mk (by unfold a_smears; rw [qP_t (show isSg G (nI k) = true from ho)]; rw [sAt_nI hkn]) c1 hG1 f1)

theorem m_misprints {l : Launch} {g : jG} (hok : jOk g) (hst : l.stackTraces = false) {z : Option Nat} {sk : jS} {t : jT} {M : Nat} (hM : isMod g sk M) {w : WB} {G : GS} (hG : RmG t M w G) (hK : okG G) (o : Int32) : jMet l g mX10_misprints 4 0 0 [.ref (jb g + M), .int o] z sk t (mP M w (a_misprints G o) z sk t) := by
  refine j_body (lv := [some (.ref (jb g + M)), some (.int o)]) i_X10_misprints hok hst (fun p e s m args below meth c X => ?_)
  obtain ⟨M0, M1, M2, M3, M4, M5, M6, M7⟩ := id hM
  obtain ⟨r1, r2, r3, r4, r5, r6, r7, r8, r9, r10, r11⟩ := id hG
  obtain ⟨u1, u2, u3, u4, u5, u6, u7⟩ := id r1
  obtain ⟨k1, k2, k3, k4, k5, k6, k7, k8⟩ := id hK.1
  refine j_aload_n X (i := 0) dX10_misprints_0 rfl rfl ?_
  refine j_iload_n X (i := 1) dX10_misprints_1 rfl rfl ?_
  refine j_callV X (m_isLost hok hst hM u2 (by omega) o) i_X10_isLost tw_7_66 tw_7_68 tp_45 M0 rfl dX10_misprints_2 ?_ 
  cases ho : pIx (ns (gV G)) o with
  | false =>
    refine j_if_eq X (tgt := 12) dX10_misprints_5 (by decide) (fun q9 => absurd q9 (by decide)) (fun _ => ?_)
    refine j_iconst X (v := (nI 0)) dX10_misprints_8 (by decide) ?_
    refine j_goto X (tgt := 17) dX10_misprints_9 (by decide) ?_
    exact j_iret X dX10_misprints_17 rfl rfl (mP_no hG (by unfold a_misprints; rw [qP_f (show isSg G o = false from ho)]; rfl))
  | true =>
    obtain ⟨k, hk1, rfl, hkn⟩ := pIx_of (by omega) ho
    refine j_if_eq X (tgt := 12) dX10_misprints_5 (by decide) (fun _ => ?_) (fun q9 => absurd (rfl) q9)
    have hG1 := hG.jcode (nI (!true).toNat)
    have c1 : jU t M 7 (nI (!true).toNat) M 7 = nI 0 := by rw [jU_eq]; rfl
    have f1 : ∀ c, (c < M ∨ M + 8 ≤ c ∨ c = M + 4 ∨ c = M + 7) → jU t M 7 (nI (!true).toNat) c = t c := fun c hc => jU_ne _ _ _ (by omega)
    generalize jU t M 7 (nI (!true).toNat) = t1 at hG1 c1 f1 ⊢
    obtain ⟨w1, w2, w3, w4, w5, w6, w7⟩ := id hG1.1
    refine j_aload_n X (i := 0) dX10_misprints_12 rfl rfl ?_
    refine j_iload_n X (i := 1) dX10_misprints_13 rfl rfl ?_
    refine j_callV X (m_wrong hok hst hM (by omega) (w7 k hk1)) i_X10_wrong tw_7_106 tw_7_108 tp_48 M0 rfl dX10_misprints_14 ?_ 

    exact j_iret X dX10_misprints_17 rfl rfl (mP_mk (by unfold a_misprints; rw [qP_t (show isSg G (nI k) = true from ho)]; unfold misV; rw [hkn]) c1 hG1 f1)

theorem m_misBySets {l : Launch} {g : jG} (hok : jOk g) (hst : l.stackTraces = false) {z : Option Nat} {sk : jS} {t : jT} {M : Nat} (hM : isMod g sk M) {w : WB} {G : GS} (hG : RmG t M w G) (hK : okG G) (o : Int32) : jMet l g mX10_misprintsBySets 4 0 0 [.ref (jb g + M), .int o] z sk t (mP M w (a_misprints G o) z sk t) := by
  refine j_body (lv := [some (.ref (jb g + M)), some (.int o)]) i_X10_misprintsBySets hok hst (fun p e s m args below meth c X => ?_)
  obtain ⟨M0, M1, M2, M3, M4, M5, M6, M7⟩ := id hM
  obtain ⟨r1, r2, r3, r4, r5, r6, r7, r8, r9, r10, r11⟩ := id hG
  obtain ⟨u1, u2, u3, u4, u5, u6, u7⟩ := id r1
  obtain ⟨k1, k2, k3, k4, k5, k6, k7, k8⟩ := id hK.1
  refine j_aload_n X (i := 0) dX10_misprintsBySets_0 rfl rfl ?_
  refine j_iload_n X (i := 1) dX10_misprintsBySets_1 rfl rfl ?_
  refine j_callV X (m_isLost hok hst hM u2 (by omega) o) i_X10_isLost tw_7_66 tw_7_68 tp_45 M0 rfl dX10_misprintsBySets_2 ?_ 
  cases ho : pIx (ns (gV G)) o with
  | false =>
    refine j_if_eq X (tgt := 12) dX10_misprintsBySets_5 (by decide) (fun q9 => absurd q9 (by decide)) (fun _ => ?_)
    refine j_iconst X (v := (nI 0)) dX10_misprintsBySets_8 (by decide) ?_
    refine j_goto X (tgt := 17) dX10_misprintsBySets_9 (by decide) ?_
    exact j_iret X dX10_misprintsBySets_17 rfl rfl (mP_no hG (by unfold a_misprints; rw [qP_f (show isSg G o = false from ho)]; rfl))
  | true =>
    obtain ⟨k, hk1, rfl, hkn⟩ := pIx_of (by omega) ho
    refine j_if_eq X (tgt := 12) dX10_misprintsBySets_5 (by decide) (fun _ => ?_) (fun q9 => absurd (rfl) q9)
    have hG1 := hG.jcode (nI (!true).toNat)
    have c1 : jU t M 7 (nI (!true).toNat) M 7 = nI 0 := by rw [jU_eq]; rfl
    have f1 : ∀ c, (c < M ∨ M + 8 ≤ c ∨ c = M + 4 ∨ c = M + 7) → jU t M 7 (nI (!true).toNat) c = t c := fun c hc => jU_ne _ _ _ (by omega)
    generalize jU t M 7 (nI (!true).toNat) = t1 at hG1 c1 f1 ⊢
    obtain ⟨w1, w2, w3, w4, w5, w6, w7⟩ := id hG1.1
    refine j_aload_n X (i := 0) dX10_misprintsBySets_12 rfl rfl ?_
    refine j_iload_n X (i := 1) dX10_misprintsBySets_13 rfl rfl ?_
    refine j_callV X (m_wrong hok hst hM (by omega) (w7 k hk1)) i_X10_wrong tw_7_106 tw_7_108 tp_48 M0 rfl dX10_misprintsBySets_14 ?_ 

    exact j_iret X dX10_misprintsBySets_17 rfl rfl (mP_mk (by unfold a_misprints; rw [qP_t (show isSg G (nI k) = true from ho)]; unfold misV; rw [hkn]) c1 hG1 f1)

theorem m_colour {l : Launch} {g : jG} (hok : jOk g) (hst : l.stackTraces = false) {z : Option Nat} {sk : jS} {t : jT} {M : Nat} (hM : isMod g sk M) {w : WB} {G : GS} (hG : RmG t M w G) (hK : okG G) (o x y : Int32) : jMet l g mX10_colour 4 0 0 [.ref (jb g + M), .int o, .int x, .int y] z sk t (mP M w (a_colour G o x y) z sk t) := by
  refine j_body (lv := [some (.ref (jb g + M)), some (.int o), some (.int x), some (.int y)]) i_X10_colour hok hst (fun p e s m args below meth c X => ?_)
  obtain ⟨M0, M1, M2, M3, M4, M5, M6, M7⟩ := id hM
  obtain ⟨r1, r2, r3, r4, r5, r6, r7, r8, r9, r10, r11⟩ := id hG
  obtain ⟨u1, u2, u3, u4, u5, u6, u7⟩ := id r1
  obtain ⟨k1, k2, k3, k4, k5, k6, k7, k8⟩ := id hK.1
  refine j_aload_n X (i := 0) dX10_colour_0 rfl rfl ?_
  refine j_iload_n X (i := 1) dX10_colour_1 rfl rfl ?_
  refine j_iload_n X (i := 2) dX10_colour_2 rfl rfl ?_
  refine j_iload_n X (i := 3) dX10_colour_3 rfl rfl ?_
  refine j_callV X (m_isBeyond hok hst hM u2 (by omega) o x y) i_X10_isBeyond tw_7_78 tw_7_80 tp_46 M0 rfl dX10_colour_4 ?_ 
  cases ho : pIx (ns (gV G)) o with
  | false =>
    rw [show bey false (isPl x y) = 1 from rfl]
    refine j_if_eq X (tgt := 14) dX10_colour_7 (by decide) (fun q9 => absurd q9 (by decide)) (fun _ => ?_)
    refine j_iconst X (v := (nI 0)) dX10_colour_10 (by decide) ?_
    refine j_goto X (tgt := 22) dX10_colour_11 (by decide) ?_
    exact j_iret X dX10_colour_22 rfl rfl (mP_no hG (by unfold a_colour; rw [qPP_1 (show isSg G o = false from ho)]))
  | true =>
    cases hp : isPl x y with
    | false =>
      refine j_if_eq X (tgt := 14) dX10_colour_7 (by decide) (fun q9 => absurd q9 (by decide)) (fun _ => ?_)
      refine j_iconst X (v := (nI 0)) dX10_colour_10 (by decide) ?_
      refine j_goto X (tgt := 22) dX10_colour_11 (by decide) ?_
      exact j_iret X dX10_colour_22 rfl rfl (mP_no hG (by unfold a_colour; rw [qPP_2 (show isSg G o = true from ho) hp]; rfl))
    | true =>
      obtain ⟨k, hk1, rfl, hkn⟩ := pIx_of (by omega) ho
      obtain ⟨a, d, ha, hd, rfl, rfl, han, hdn⟩ := isPl_of hp
      refine j_if_eq X (tgt := 14) dX10_colour_7 (by decide) (fun _ => ?_) (fun q9 => absurd (rfl) q9)
      have hG1 := hG.jcode (nI (bey true true))
      have c1 : jU t M 7 (nI (bey true true)) M 7 = nI 0 := by rw [jU_eq]; rfl
      have f1 : ∀ c, (c < M ∨ M + 8 ≤ c ∨ c = M + 4 ∨ c = M + 7) → jU t M 7 (nI (bey true true)) c = t c := fun c hc => jU_ne _ _ _ (by omega)
      generalize jU t M 7 (nI (bey true true)) = t1 at hG1 c1 f1 ⊢
      obtain ⟨w1, w2, w3, w4, w5, w6, w7⟩ := id hG1.1
      refine j_aload_n X (i := 0) dX10_colour_14 rfl rfl ?_
      refine j_iload_n X (i := 1) dX10_colour_15 rfl rfl ?_
      refine j_iconst X (v := (nI 3)) dX10_colour_16 (by decide) ?_
      refine j_iload_n X (i := 2) dX10_colour_17 rfl rfl ?_
      refine j_iload_n X (i := 3) dX10_colour_18 rfl rfl ?_
      refine j_callV X (m_coloured hok hst (k := k) (wt := 3) (x := a) (y := d) hM (by omega) (by decide) (w7 k hk1).2.2.2.1 ha hd) i_X10_coloured tw_7_82 tw_7_84 tp_47 M0 rfl dX10_colour_19 ?_ 
      exact j_iret X dX10_colour_22 rfl rfl (mP_mk (by unfold a_colour; rw [qPP_0 (show isSg G (nI k) = true from ho) hp, sAt_nI hkn, cAt_nI han hdn]) c1 hG1 f1)

theorem m_intended {l : Launch} {g : jG} (hok : jOk g) (hst : l.stackTraces = false) {z : Option Nat} {sk : jS} {t : jT} {M : Nat} (hM : isMod g sk M) {w : WB} {G : GS} (hG : RmG t M w G) (hK : okG G) (o x y : Int32) : jMet l g mX10_intended 4 0 0 [.ref (jb g + M), .int o, .int x, .int y] z sk t (mP M w (a_intended G o x y) z sk t) := by
  refine j_body (lv := [some (.ref (jb g + M)), some (.int o), some (.int x), some (.int y)]) i_X10_intended hok hst (fun p e s m args below meth c X => ?_)
  obtain ⟨M0, M1, M2, M3, M4, M5, M6, M7⟩ := id hM
  obtain ⟨r1, r2, r3, r4, r5, r6, r7, r8, r9, r10, r11⟩ := id hG
  obtain ⟨u1, u2, u3, u4, u5, u6, u7⟩ := id r1
  obtain ⟨k1, k2, k3, k4, k5, k6, k7, k8⟩ := id hK.1
  refine j_aload_n X (i := 0) dX10_intended_0 rfl rfl ?_
  refine j_iload_n X (i := 1) dX10_intended_1 rfl rfl ?_
  refine j_iload_n X (i := 2) dX10_intended_2 rfl rfl ?_
  refine j_iload_n X (i := 3) dX10_intended_3 rfl rfl ?_
  refine j_callV X (m_isBeyond hok hst hM u2 (by omega) o x y) i_X10_isBeyond tw_7_78 tw_7_80 tp_46 M0 rfl dX10_intended_4 ?_ 
  cases ho : pIx (ns (gV G)) o with
  | false =>
    rw [show bey false (isPl x y) = 1 from rfl]
    refine j_if_eq X (tgt := 14) dX10_intended_7 (by decide) (fun q9 => absurd q9 (by decide)) (fun _ => ?_)
    refine j_iconst X (v := (nI 0)) dX10_intended_10 (by decide) ?_
    refine j_goto X (tgt := 23) dX10_intended_11 (by decide) ?_
    exact j_iret X dX10_intended_23 rfl rfl (mP_no hG (by unfold a_intended; rw [qPP_1 (show isSg G o = false from ho)]))
  | true =>
    cases hp : isPl x y with
    | false =>
      refine j_if_eq X (tgt := 14) dX10_intended_7 (by decide) (fun q9 => absurd q9 (by decide)) (fun _ => ?_)
      refine j_iconst X (v := (nI 0)) dX10_intended_10 (by decide) ?_
      refine j_goto X (tgt := 23) dX10_intended_11 (by decide) ?_
      exact j_iret X dX10_intended_23 rfl rfl (mP_no hG (by unfold a_intended; rw [qPP_2 (show isSg G o = true from ho) hp]; rfl))
    | true =>
      obtain ⟨k, hk1, rfl, hkn⟩ := pIx_of (by omega) ho
      obtain ⟨a, d, ha, hd, rfl, rfl, han, hdn⟩ := isPl_of hp
      refine j_if_eq X (tgt := 14) dX10_intended_7 (by decide) (fun _ => ?_) (fun q9 => absurd (rfl) q9)
      have hG1 := hG.jcode (nI (bey true true))
      have c1 : jU t M 7 (nI (bey true true)) M 7 = nI 0 := by rw [jU_eq]; rfl
      have f1 : ∀ c, (c < M ∨ M + 8 ≤ c ∨ c = M + 4 ∨ c = M + 7) → jU t M 7 (nI (bey true true)) c = t c := fun c hc => jU_ne _ _ _ (by omega)
      generalize jU t M 7 (nI (bey true true)) = t1 at hG1 c1 f1 ⊢
      obtain ⟨w1, w2, w3, w4, w5, w6, w7⟩ := id hG1.1
      refine j_aload_n X (i := 0) dX10_intended_14 rfl rfl ?_
      refine j_iload_n X (i := 1) dX10_intended_15 rfl rfl ?_
      refine j_bipush X (v := (nI 15)) dX10_intended_16 (by decide) ?_
      refine j_iload_n X (i := 2) dX10_intended_18 rfl rfl ?_
      refine j_iload_n X (i := 3) dX10_intended_19 rfl rfl ?_
      refine j_callV X (m_coloured hok hst (k := k) (wt := 15) (x := a) (y := d) hM (by omega) (by decide) (w7 k hk1).2.2.2.2 ha hd) i_X10_coloured tw_7_82 tw_7_84 tp_47 M0 rfl dX10_intended_20 ?_ 
      exact j_iret X dX10_intended_23 rfl rfl (mP_mk (by unfold a_intended; rw [qPP_0 (show isSg G (nI k) = true from ho) hp, sAt_nI hkn, cAt_nI han hdn]) c1 hG1 f1)

theorem m_placesOf {l : Launch} {g : jG} (hok : jOk g) (hst : l.stackTraces = false) {z : Option Nat} {sk : jS} {t : jT} {M : Nat} (hM : isMod g sk M) {w : WB} {G : GS} (hG : RmG t M w G) (hK : okG G) (o x : Int32) : jMet l g mX10_placesOf 4 0 0 [.ref (jb g + M), .int o, .int x] z sk t (mP M w (a_placesOf G o x) z sk t) := by
  refine j_body (lv := [some (.ref (jb g + M)), some (.int o), some (.int x), none, none]) i_X10_placesOf hok hst (fun p e s m args below meth c X => ?_)
  obtain ⟨M0, M1, M2, M3, M4, M5, M6, M7⟩ := id hM
  obtain ⟨r1, r2, r3, r4, r5, r6, r7, r8, r9, r10, r11⟩ := id hG
  obtain ⟨u1, u2, u3, u4, u5, u6, u7⟩ := id r1
  obtain ⟨k1, k2, k3, k4, k5, k6, k7, k8⟩ := id hK.1
  have no : ∀ n : Nat, 0 < n → n < 4 → a_placesOf G o x = (n, nI 0, G) → J p l e (jR 4 0 0) s m args below meth c (jQm below args s g 0 0 (mP M w (a_placesOf G o x) z sk t)) 5 g 0 0 z sk  t 28 [some (.ref (jb g + M)), some (.int o), some (.int x), none, none] [.int (nI n), .ref (jb g + M)] := fun n h0 h4 hr => by
    refine j_callV X (m_fails hok hst hM h4) i_X10_fails tw_6_135 tw_6_137 tp_25 M0 rfl dX10_placesOf_28 ?_ 
    rw [decide_eq_true h0]
    refine j_if_eq X (tgt := 36) dX10_placesOf_31 (by decide) (fun q9 => absurd q9 (by decide)) (fun _ => ?_)
    refine j_iconst X (v := (nI 0)) dX10_placesOf_34 (by decide) ?_
    exact j_iret X dX10_placesOf_35 rfl rfl (mP_no hG hr)
  refine j_aload_n X (i := 0) dX10_placesOf_0 rfl rfl ?_
  refine j_aload_n X (i := 0) dX10_placesOf_1 rfl rfl ?_
  refine j_iload_n X (i := 1) dX10_placesOf_2 rfl rfl ?_
  refine j_callV X (m_isSheet hok hst hM u2 (by omega) o) i_X10_isSheet tw_7_41 tw_7_43 tp_40 M0 rfl dX10_placesOf_3 ?_ 
  cases ho : pIx (ns (gV G)) o with
  | false =>
    refine j_if_ne X (tgt := 13) dX10_placesOf_6 (by decide) (fun q9 => absurd (rfl) q9) (fun _ => ?_)
    refine j_iconst X (v := (nI 1)) dX10_placesOf_9 (by decide) ?_
    refine j_goto X (tgt := 28) dX10_placesOf_10 (by decide) ?_
    exact no 1 (by decide) (by decide) (by unfold a_placesOf; rw [qPP_1 (show isSg G o = false from ho)])
  | true =>
    refine j_if_ne X (tgt := 13) dX10_placesOf_6 (by decide) (fun _ => ?_) (fun q9 => absurd q9 (by decide))
    refine j_iload_n X (i := 2) dX10_placesOf_13 rfl rfl ?_
    refine j_iconst X (v := (nI 0)) dX10_placesOf_14 (by decide) ?_
    refine j_bipush X (v := (nI 7)) dX10_placesOf_15 (by decide) ?_
    refine j_callS X (m_in hok hst _ _ _) i_X10_in tw_6_154 tw_6_155 dX10_placesOf_17 ?_ 
    rw [in07]
    cases hp : pIx 8 x with
    | false =>
      refine j_if_eq X (tgt := 27) dX10_placesOf_20 (by decide) (fun _ => ?_) (fun q9 => absurd (rfl) q9)
      refine j_iconst X (v := (nI 2)) dX10_placesOf_27 (by decide) ?_
      exact no 2 (by decide) (by decide) (by unfold a_placesOf; rw [qPP_2 (show isSg G o = true from ho) hp])
    | true =>
      clear no
      obtain ⟨k, hk1, rfl, hkn⟩ := pIx_of (by omega) ho
      obtain ⟨cl, hcl, rfl, hcn⟩ := pIx_of (by decide) hp
      refine j_if_eq X (tgt := 27) dX10_placesOf_20 (by decide) (fun q9 => absurd q9 (by decide)) (fun _ => ?_)
      refine j_iconst X (v := (nI 0)) dX10_placesOf_23 (by decide) ?_
      refine j_goto X (tgt := 28) dX10_placesOf_24 (by decide) ?_
      refine j_callV X (m_fails hok hst hM (n := 0) (by decide)) i_X10_fails tw_6_135 tw_6_137 tp_25 M0 rfl dX10_placesOf_28 ?_ 
      refine j_if_eq X (tgt := 36) dX10_placesOf_31 (by decide) (fun _ => ?_) (fun q9 => absurd (rfl) q9)
      have hG1 := hG.jcode (nI 0)
      have c1 : jU t M 7 (nI 0) M 7 = nI 0 := by rw [jU_eq]; rfl
      have f1 : ∀ c, (c < M ∨ M + 8 ≤ c ∨ c = M + 4 ∨ c = M + 7) → jU t M 7 (nI 0) c = t c := fun c hc => jU_ne _ _ _ (by omega)
      generalize jU t M 7 (nI 0) = t1 at hG1 c1 f1 ⊢
      obtain ⟨w1, w2, w3, w4, w5, w6, w7⟩ := id hG1.1
      have hr : a_placesOf G (nI k) (nI cl) = (0, nI (plaB (sh (gV G) k).2.1 cl), G) := by unfold a_placesOf; rw [qPP_0 (show isSg G (nI k) = true from ho) hp, sAt_nI hkn, hcn]
      have loop : ∀ j, j ≤ 128 → J p l e (jR 4 0 0) s m args below meth c (jQm below args s g 0 0 (mP M w (a_placesOf G (nI k) (nI cl)) z sk t)) 5 g 0 0 z sk  t1 41 [some (.ref (jb g + M)), some (.int (nI k)), some (.int (nI cl)), some (.int (nI (fb_ct (fun k9 => decide (colN (sh (gV G) k).2.1 k9 = cl)) j))), some (.int (nI j))] [] := by
        refine up_loop ?_ ?_
        · refine j_iload X (i := 4) dX10_placesOf_41 rfl ?_
          refine j_sipush X (v := (nI 128)) dX10_placesOf_43 (by decide) ?_
          refine j_icmp_ge X (tgt := 83) dX10_placesOf_46 (by decide) (fun _ => ?_) (fun q9 => absurd (nI_le (Nat.le_refl _) (by decide)) q9)
          refine j_iload_n X (i := 3) dX10_placesOf_83 rfl rfl ?_
          exact j_iret X dX10_placesOf_84 rfl rfl (mP_mk hr c1 hG1 f1)
        · intro j hj ih
          have hs := fb_ct_succ (fun k9 => decide (colN (sh (gV G) k).2.1 k9 = cl)) j
          refine j_iload X (i := 4) dX10_placesOf_41 rfl ?_
          refine j_sipush X (v := (nI 128)) dX10_placesOf_43 (by decide) ?_
          refine j_icmp_ge X (tgt := 83) dX10_placesOf_46 (by decide) (fun q9 => absurd q9 (nI_ge hj (by decide))) (fun _ => ?_)
          refine j_iload_n X (i := 3) dX10_placesOf_49 rfl rfl ?_
          refine j_aload_n X (i := 0) dX10_placesOf_50 rfl rfl ?_
          refine j_iload_n X (i := 1) dX10_placesOf_51 rfl rfl ?_
          refine j_iconst X (v := (nI 3)) dX10_placesOf_52 (by decide) ?_
          refine j_iload X (i := 4) dX10_placesOf_53 rfl ?_
          refine j_bipush X (v := (nI 16)) dX10_placesOf_55 (by decide) ?_
          refine j_irem X dX10_placesOf_57 (by decide) ?_
          rw [pk_rem2 (a := j) (d := 16) (by omega) (by decide) (by decide)]
          refine j_iload X (i := 4) dX10_placesOf_58 rfl ?_
          refine j_bipush X (v := (nI 16)) dX10_placesOf_60 (by decide) ?_
          refine j_idiv X dX10_placesOf_62 (by decide) ?_
          rw [pk_div (a := j) (d := 16) (by omega) (by decide) (by decide)]
          refine j_callV X (m_coloured hok hst (k := k) (wt := 3) (x := j % 16) (y := j / 16) hM (by omega) (by decide) (w7 k hk1).2.2.2.1 (by omega) (by omega)) i_X10_coloured tw_7_82 tw_7_84 tp_47 M0 rfl dX10_placesOf_63 ?_ 
          refine j_iload_n X (i := 2) dX10_placesOf_66 rfl rfl ?_
          rw [show 16 * (j / 16) + j % 16 = j by omega]
          have hlt : colN (sh (gV G) k).2.1 j < 8 := colN_lt _ _
          by_cases e : colN (sh (gV G) k).2.1 j = cl
          · rw [show decide (colN (sh (gV G) k).2.1 j = cl) = true from decide_eq_true e, if_pos rfl] at hs
            refine j_icmp_ne X (tgt := 74) dX10_placesOf_67 (by decide) (fun q9 => absurd ((congrArg nI e)) q9) (fun _ => ?_)
            refine j_iconst X (v := (nI 1)) dX10_placesOf_70 (by decide) ?_
            refine j_goto X (tgt := 75) dX10_placesOf_71 (by decide) ?_
            refine j_iadd X dX10_placesOf_75 ?_
            rw [nI_add, ← hs]
            refine j_istore_n X (i := 3) dX10_placesOf_76 rfl (by decide) rfl ?_
            refine j_iinc X (i := 4) (v := (nI (j + 1))) dX10_placesOf_77 rfl (nI_1 j) (by decide) rfl ?_
            refine j_goto X (tgt := 41) dX10_placesOf_80 (by decide) ?_
            exact ih
          · rw [show decide (colN (sh (gV G) k).2.1 j = cl) = false from decide_eq_false e, if_neg (by decide)] at hs
            refine j_icmp_ne X (tgt := 74) dX10_placesOf_67 (by decide) (fun _ => ?_) (fun q9 => absurd q9 ((fun z9 => e ((nI_eq (by omega) (by omega)).mp z9))))
            refine j_iconst X (v := (nI 0)) dX10_placesOf_74 (by decide) ?_
            refine j_iadd X dX10_placesOf_75 ?_
            rw [nI_add, ← hs]
            refine j_istore_n X (i := 3) dX10_placesOf_76 rfl (by decide) rfl ?_
            refine j_iinc X (i := 4) (v := (nI (j + 1))) dX10_placesOf_77 rfl (nI_1 j) (by decide) rfl ?_
            refine j_goto X (tgt := 41) dX10_placesOf_80 (by decide) ?_
            exact ih
      refine j_iconst X (v := (nI 0)) dX10_placesOf_36 (by decide) ?_
      refine j_istore_n X (i := 3) dX10_placesOf_37 rfl (by decide) rfl ?_
      refine j_iconst X (v := (nI 0)) dX10_placesOf_38 (by decide) ?_
      refine j_istore X (i := 4) dX10_placesOf_39 (by decide) rfl ?_
      exact loop 0 (Nat.zero_le _)

theorem m_byMis {l : Launch} {g : jG} (hok : jOk g) (hst : l.stackTraces = false) {z : Option Nat} {sk : jS} {t : jT} {M : Nat} (hM : isMod g sk M) {w : WB} {G : GS} (hG : RmG t M w G) (hK : okG G) (r : Int32) : jMet l g mX10_sheetByMisprints 3 0 0 [.ref (jb g + M), .int r] z sk t (mP M w (a_byMis G r) z sk t) := by
  refine j_body (lv := [some (.ref (jb g + M)), some (.int r), none, none, none]) i_X10_sheetByMisprints hok hst (fun p e s m args below meth c X => ?_)
  obtain ⟨M0, M1, M2, M3, M4, M5, M6, M7⟩ := id hM
  obtain ⟨r1, r2, r3, r4, r5, r6, r7, r8, r9, r10, r11⟩ := id hG
  obtain ⟨u1, u2, u3, u4, u5, u6, u7⟩ := id r1
  obtain ⟨k1, k2, k3, k4, k5, k6, k7, k8⟩ := id hK.1
  obtain ⟨V, hV⟩ : ∃ V, V = gV G := ⟨_, rfl⟩
  rw [← hV] at u2 u7 k2
  have hmis : ∀ k, misV V k ≤ 128 := fun k => fb_ct_le _ _
  have hrn : ∀ k, rnkV V k ≤ 8 := fun k => Nat.le_trans (fb_ct_le _ _) k2
  have outer : ∀ k, k ≤ ns V → (∀ j, j < k → ¬ nI (rnkV V j) = r) → J p l e (jR 3 0 0) s m args below meth c (jQm below args s g 0 0 (mP M w (a_byMis G r) z sk t)) 5 g 0 0 z sk t 2 [some (.ref (jb g + M)), some (.int r), some (.int (nI k)), none, none] [] := by
    refine up_loop ?_ ?_
    · intro hno
      have hf : ¬ fstV V r < ns V := fun hlt => hno _ hlt (of_decide_eq_true (fa_first_yes _ _ hlt))
      refine j_iload_n X (i := 2) dX10_sheetByMisprints_2 rfl rfl ?_
      refine j_aload_n X (i := 0) dX10_sheetByMisprints_3 rfl rfl ?_
      refine jFd.get X fd_X10_7 M0 rfl dX10_sheetByMisprints_4 ?_
      refine j_iconst X (v := (nI 1)) dX10_sheetByMisprints_7 (by decide) ?_
      refine j_iald X M1 rfl (by decide) (by decide) dX10_sheetByMisprints_8 ?_
      rw [u2]
      refine j_icmp_ge X (tgt := 97) dX10_sheetByMisprints_9 (by decide) (fun _ => ?_) (fun q9 => absurd (nI_le (Nat.le_refl _) (by omega)) q9)
      refine j_aload_n X (i := 0) dX10_sheetByMisprints_97 rfl rfl ?_
      refine j_iconst X (v := (nI 1)) dX10_sheetByMisprints_98 (by decide) ?_
      refine jFd.put X fd_X10_39 M0 rfl rfl rfl rfl dX10_sheetByMisprints_99 ?_
      refine j_iconst X (v := (nI 0)) dX10_sheetByMisprints_102 (by decide) ?_
      exact j_iret X dX10_sheetByMisprints_103 rfl rfl (mP_no hG (by unfold a_byMis; rw [if_neg (by rw [← hV]; exact hf)]))
    · intro k hk ih hno
      refine j_iload_n X (i := 2) dX10_sheetByMisprints_2 rfl rfl ?_
      refine j_aload_n X (i := 0) dX10_sheetByMisprints_3 rfl rfl ?_
      refine jFd.get X fd_X10_7 M0 rfl dX10_sheetByMisprints_4 ?_
      refine j_iconst X (v := (nI 1)) dX10_sheetByMisprints_7 (by decide) ?_
      refine j_iald X M1 rfl (by decide) (by decide) dX10_sheetByMisprints_8 ?_
      rw [u2]
      refine j_icmp_ge X (tgt := 97) dX10_sheetByMisprints_9 (by decide) (fun q9 => absurd q9 (nI_ge hk (by omega))) (fun _ => ?_)
      refine j_iconst X (v := (nI 0)) dX10_sheetByMisprints_12 (by decide) ?_
      refine j_istore_n X (i := 3) dX10_sheetByMisprints_13 rfl (by decide) rfl ?_
      refine j_iconst X (v := (nI 0)) dX10_sheetByMisprints_14 (by decide) ?_
      refine j_istore X (i := 4) dX10_sheetByMisprints_15 (by decide) rfl ?_
      have inner : ∀ o, o ≤ ns V → J p l e (jR 3 0 0) s m args below meth c (jQm below args s g 0 0 (mP M w (a_byMis G r) z sk t)) 5 g 0 0 z sk t 17 [some (.ref (jb g + M)), some (.int r), some (.int (nI k)), some (.int (nI (fb_ct (befV V k) o))), some (.int (nI o))] [] := by
        refine up_loop ?_ ?_
        · refine j_iload X (i := 4) dX10_sheetByMisprints_17 rfl ?_
          refine j_aload_n X (i := 0) dX10_sheetByMisprints_19 rfl rfl ?_
          refine jFd.get X fd_X10_7 M0 rfl dX10_sheetByMisprints_20 ?_
          refine j_iconst X (v := (nI 1)) dX10_sheetByMisprints_23 (by decide) ?_
          refine j_iald X M1 rfl (by decide) (by decide) dX10_sheetByMisprints_24 ?_
          rw [u2]
          refine j_icmp_ge X (tgt := 76) dX10_sheetByMisprints_25 (by decide) (fun _ => ?_) (fun q9 => absurd (nI_le (Nat.le_refl _) (by omega)) q9)
          refine j_iload_n X (i := 3) dX10_sheetByMisprints_76 rfl rfl ?_
          refine j_iload_n X (i := 1) dX10_sheetByMisprints_77 rfl rfl ?_
          by_cases e : nI (fb_ct (befV V k) (ns V)) = r
          · have hf : fstV V r = k := by
              have h1 := fa_first_le (fun k => decide (nI (rnkV V k) = r)) (ns V)
              have h2 : ¬ k < fstV V r := fun q => by
                have := fa_first_no (fun k => decide (nI (rnkV V k) = r)) (ns V) k q
                exact absurd e (of_decide_eq_false this)
              have h3 : ¬ fstV V r < k := fun q => hno _ q (of_decide_eq_true (fa_first_yes (fun k => decide (nI (rnkV V k) = r)) (ns V) (by unfold fstV at q; omega)))
              omega
            refine j_icmp_eq X (tgt := 84) dX10_sheetByMisprints_78 (by decide) (fun _ => ?_) (fun q9 => absurd (e) q9)
            refine j_aload_n X (i := 0) dX10_sheetByMisprints_84 rfl rfl ?_
            refine j_iconst X (v := (nI 0)) dX10_sheetByMisprints_85 (by decide) ?_
            refine jFd.put X fd_X10_39 M0 rfl rfl rfl rfl dX10_sheetByMisprints_86 ?_
            refine j_iload_n X (i := 2) dX10_sheetByMisprints_89 rfl rfl ?_
            exact j_iret X dX10_sheetByMisprints_90 rfl rfl (mP_no hG (by unfold a_byMis; rw [← hV, hf, if_pos hk]))
          · refine j_icmp_eq X (tgt := 84) dX10_sheetByMisprints_78 (by decide) (fun q9 => absurd q9 (e)) (fun _ => ?_)
            refine j_goto X (tgt := 91) dX10_sheetByMisprints_81 (by decide) ?_
            refine j_iinc X (i := 2) (v := (nI (k + 1))) dX10_sheetByMisprints_91 rfl (nI_1 k) (by decide) rfl ?_
            refine j_goto X (tgt := 2) dX10_sheetByMisprints_94 (by decide) ?_
            refine j_drop 3 (j_drop 4 ?_)
            exact ih (fun j hj => by
              by_cases q : j = k
              · rw [q]; exact e
              · exact hno j (by omega))
        · intro o ho2 ih2
          have hs := fb_ct_succ (befV V k) o
          have mo := hmis o
          have mk := hmis k
          refine j_iload X (i := 4) dX10_sheetByMisprints_17 rfl ?_
          refine j_aload_n X (i := 0) dX10_sheetByMisprints_19 rfl rfl ?_
          refine jFd.get X fd_X10_7 M0 rfl dX10_sheetByMisprints_20 ?_
          refine j_iconst X (v := (nI 1)) dX10_sheetByMisprints_23 (by decide) ?_
          refine j_iald X M1 rfl (by decide) (by decide) dX10_sheetByMisprints_24 ?_
          rw [u2]
          refine j_icmp_ge X (tgt := 76) dX10_sheetByMisprints_25 (by decide) (fun q9 => absurd q9 (nI_ge ho2 (by omega))) (fun _ => ?_)
          have Wo := m_wrong hok hst (z := z) (t := t) hM (show o < 8 by omega) (u7 o ho2)
          have Wk := m_wrong hok hst (z := z) (t := t) hM (show k < 8 by omega) (u7 k hk)
          rw [show misB (sh V o).2.1 (sh V o).2.2 = misV V o from rfl] at Wo
          rw [show misB (sh V k).2.1 (sh V k).2.2 = misV V k from rfl] at Wk
          have yes : befV V k o = true → J p l e (jR 3 0 0) s m args below meth c (jQm below args s g 0 0 (mP M w (a_byMis G r) z sk t)) 5 g 0 0 z sk t 63 [some (.ref (jb g + M)), some (.int r), some (.int (nI k)), some (.int (nI (fb_ct (befV V k) o))), some (.int (nI o))] [.int (nI (fb_ct (befV V k) o))] := fun h => by
            rw [h, if_pos rfl] at hs
            refine j_iconst X (v := (nI 1)) dX10_sheetByMisprints_63 (by decide) ?_
            refine j_goto X (tgt := 68) dX10_sheetByMisprints_64 (by decide) ?_
            refine j_iadd X dX10_sheetByMisprints_68 ?_
            rw [nI_add, ← hs]
            refine j_istore_n X (i := 3) dX10_sheetByMisprints_69 rfl (by decide) rfl ?_
            refine j_iinc X (i := 4) (v := (nI (o + 1))) dX10_sheetByMisprints_70 rfl (nI_1 o) (by decide) rfl ?_
            refine j_goto X (tgt := 17) dX10_sheetByMisprints_73 (by decide) ?_
            exact ih2
          have nay : befV V k o = false → J p l e (jR 3 0 0) s m args below meth c (jQm below args s g 0 0 (mP M w (a_byMis G r) z sk t)) 5 g 0 0 z sk t 67 [some (.ref (jb g + M)), some (.int r), some (.int (nI k)), some (.int (nI (fb_ct (befV V k) o))), some (.int (nI o))] [.int (nI (fb_ct (befV V k) o))] := fun h => by
            rw [h, if_neg (by decide)] at hs
            refine j_iconst X (v := (nI 0)) dX10_sheetByMisprints_67 (by decide) ?_
            refine j_iadd X dX10_sheetByMisprints_68 ?_
            rw [nI_add, ← hs]
            refine j_istore_n X (i := 3) dX10_sheetByMisprints_69 rfl (by decide) rfl ?_
            refine j_iinc X (i := 4) (v := (nI (o + 1))) dX10_sheetByMisprints_70 rfl (nI_1 o) (by decide) rfl ?_
            refine j_goto X (tgt := 17) dX10_sheetByMisprints_73 (by decide) ?_
            exact ih2
          refine j_iload_n X (i := 3) dX10_sheetByMisprints_28 rfl rfl ?_
          refine j_aload_n X (i := 0) dX10_sheetByMisprints_29 rfl rfl ?_
          refine j_iload X (i := 4) dX10_sheetByMisprints_30 rfl ?_
          refine j_callV X (Wo) i_X10_wrong tw_7_106 tw_7_108 tp_48 M0 rfl dX10_sheetByMisprints_32 ?_ 
          refine j_aload_n X (i := 0) dX10_sheetByMisprints_35 rfl rfl ?_
          refine j_iload_n X (i := 2) dX10_sheetByMisprints_36 rfl rfl ?_
          refine j_callV X (Wk) i_X10_wrong tw_7_106 tw_7_108 tp_48 M0 rfl dX10_sheetByMisprints_37 ?_ 
          by_cases c1 : misV V o < misV V k
          · refine j_icmp_lt X (tgt := 63) dX10_sheetByMisprints_40 (by decide) (fun _ => ?_) (fun q9 => absurd (nI_lt c1 (by omega)) q9)
            exact yes (decide_eq_true (Or.inl c1))
          · refine j_icmp_lt X (tgt := 63) dX10_sheetByMisprints_40 (by decide) (fun q9 => absurd q9 (nI_nlt (Nat.le_of_not_lt c1) (by omega))) (fun _ => ?_)
            refine j_aload_n X (i := 0) dX10_sheetByMisprints_43 rfl rfl ?_
            refine j_iload X (i := 4) dX10_sheetByMisprints_44 rfl ?_
            refine j_callV X (Wo) i_X10_wrong tw_7_106 tw_7_108 tp_48 M0 rfl dX10_sheetByMisprints_46 ?_ 
            refine j_aload_n X (i := 0) dX10_sheetByMisprints_49 rfl rfl ?_
            refine j_iload_n X (i := 2) dX10_sheetByMisprints_50 rfl rfl ?_
            refine j_callV X (Wk) i_X10_wrong tw_7_106 tw_7_108 tp_48 M0 rfl dX10_sheetByMisprints_51 ?_ 
            by_cases c2 : misV V o = misV V k
            · refine j_icmp_ne X (tgt := 67) dX10_sheetByMisprints_54 (by decide) (fun q9 => absurd ((congrArg nI c2)) q9) (fun _ => ?_)
              refine j_iload X (i := 4) dX10_sheetByMisprints_57 rfl ?_
              refine j_iload_n X (i := 2) dX10_sheetByMisprints_59 rfl rfl ?_
              by_cases c3 : o < k
              · refine j_icmp_ge X (tgt := 67) dX10_sheetByMisprints_60 (by decide) (fun q9 => absurd q9 (nI_ge c3 (by omega))) (fun _ => ?_)
                exact yes (decide_eq_true (Or.inr ⟨c2, c3⟩))
              · refine j_icmp_ge X (tgt := 67) dX10_sheetByMisprints_60 (by decide) (fun _ => ?_) (fun q9 => absurd (nI_le (Nat.le_of_not_lt c3) (by omega)) q9)
                exact nay (decide_eq_false (fun q => q.elim c1 (fun q => c3 q.2)))
            · refine j_icmp_ne X (tgt := 67) dX10_sheetByMisprints_54 (by decide) (fun _ => ?_) (fun q9 => absurd q9 ((fun z9 => c2 ((nI_eq (by omega) (by omega)).mp z9))))
              exact nay (decide_eq_false (fun q => q.elim c1 (fun q => c2 q.1)))
      exact inner 0 (Nat.zero_le _)
  refine j_iconst X (v := (nI 0)) dX10_sheetByMisprints_0 (by decide) ?_
  refine j_istore_n X (i := 2) dX10_sheetByMisprints_1 rfl (by decide) rfl ?_
  exact outer 0 (Nat.zero_le _) (fun j hj => absurd hj (Nat.not_lt_zero j))

theorem m_rackPlace {l : Launch} {g : jG} (hok : jOk g) (hst : l.stackTraces = false) {z : Option Nat} {sk : jS} {t : jT} {M : Nat} (hM : isMod g sk M) {w : WB} {G : GS} (hG : RmG t M w G) (hK : okG G) (o : Int32) : jMet l g mX10_rackPlace 3 0 0 [.ref (jb g + M), .int o] z sk t (mP M w (a_rackPlace G o) z sk t) := by
  refine j_body (lv := [some (.ref (jb g + M)), some (.int o)]) i_X10_rackPlace hok hst (fun p e s m args below meth c X => ?_)
  obtain ⟨M0, M1, M2, M3, M4, M5, M6, M7⟩ := id hM
  obtain ⟨r1, r2, r3, r4, r5, r6, r7, r8, r9, r10, r11⟩ := id hG
  obtain ⟨u1, u2, u3, u4, u5, u6, u7⟩ := id r1
  obtain ⟨k1, k2, k3, k4, k5, k6, k7, k8⟩ := id hK.1
  have no : ∀ n : Nat, 0 < n → n < 4 → a_rackPlace G o = (n, nI 0, G) → J p l e (jR 3 0 0) s m args below meth c (jQm below args s g 0 0 (mP M w (a_rackPlace G o) z sk t)) 2 g 0 0 z sk  t 27 [some (.ref (jb g + M)), some (.int o)] [.int (nI n), .ref (jb g + M)] := fun n h0 h4 hr => by
    refine j_callV X (m_fails hok hst hM h4) i_X10_fails tw_6_135 tw_6_137 tp_25 M0 rfl dX10_rackPlace_27 ?_ 
    rw [decide_eq_true h0]
    refine j_if_eq X (tgt := 37) dX10_rackPlace_30 (by decide) (fun q9 => absurd q9 (by decide)) (fun _ => ?_)
    refine j_iconst X (v := (nI 0)) dX10_rackPlace_33 (by decide) ?_
    refine j_goto X (tgt := 43) dX10_rackPlace_34 (by decide) ?_
    exact j_iret X dX10_rackPlace_43 rfl rfl (mP_no hG hr)
  refine j_aload_n X (i := 0) dX10_rackPlace_0 rfl rfl ?_
  refine j_aload_n X (i := 0) dX10_rackPlace_1 rfl rfl ?_
  refine j_iload_n X (i := 1) dX10_rackPlace_2 rfl rfl ?_
  refine j_callV X (m_isSheet hok hst hM u2 (by omega) o) i_X10_isSheet tw_7_41 tw_7_43 tp_40 M0 rfl dX10_rackPlace_3 ?_ 
  cases ho : pIx (ns (gV G)) o with
  | false =>
    refine j_if_ne X (tgt := 13) dX10_rackPlace_6 (by decide) (fun q9 => absurd (rfl) q9) (fun _ => ?_)
    refine j_iconst X (v := (nI 1)) dX10_rackPlace_9 (by decide) ?_
    refine j_goto X (tgt := 27) dX10_rackPlace_10 (by decide) ?_
    exact no 1 (by decide) (by decide) (by unfold a_rackPlace; rw [qPP_1 (show isSg G o = false from ho)])
  | true =>
    obtain ⟨k, hk1, rfl, hkn⟩ := pIx_of (by omega) ho
    have oS := k4 k (by omega)
    obtain ⟨i1, i2⟩ := iN_neg1 oS.2.1 oS.2.2
    refine j_if_ne X (tgt := 13) dX10_rackPlace_6 (by decide) (fun _ => ?_) (fun q9 => absurd q9 (by decide))
    refine j_aload_n X (i := 0) dX10_rackPlace_13 rfl rfl ?_
    refine j_iload_n X (i := 1) dX10_rackPlace_14 rfl rfl ?_
    refine j_iconst X (v := (nI 2)) dX10_rackPlace_15 (by decide) ?_
    refine j_callV X (m_on hok hst (k := k) (w := 2) hM (by omega)) i_X10_on tw_7_45 tw_7_47 tp_41 M0 rfl dX10_rackPlace_16 ?_ 
    rw [show t (M + 1) (51 + 27 * k + 2) = _ from (u7 k hk1).2.2.1]
    by_cases h0 : 0 ≤ (sh (gV G) k).1.2.2
    · refine j_if_ge X (tgt := 26) dX10_rackPlace_19 (by decide) (fun _ => ?_) (fun q9 => absurd (i1.mpr h0) q9)
      refine j_iconst X (v := (nI 0)) dX10_rackPlace_26 (by decide) ?_
      refine j_callV X (m_fails hok hst hM (n := 0) (by decide)) i_X10_fails tw_6_135 tw_6_137 tp_25 M0 rfl dX10_rackPlace_27 ?_ 
      refine j_if_eq X (tgt := 37) dX10_rackPlace_30 (by decide) (fun _ => ?_) (fun q9 => absurd (rfl) q9)
      have hG1 := hG.jcode (nI 0)
      have c1 : jU t M 7 (nI 0) M 7 = nI 0 := by rw [jU_eq]; rfl
      have f1 : ∀ c, (c < M ∨ M + 8 ≤ c ∨ c = M + 4 ∨ c = M + 7) → jU t M 7 (nI 0) c = t c := fun c hc => jU_ne _ _ _ (by omega)
      generalize jU t M 7 (nI 0) = t1 at hG1 c1 f1 ⊢
      obtain ⟨w1, w2, w3, w4, w5, w6, w7⟩ := id hG1.1
      refine j_aload_n X (i := 0) dX10_rackPlace_37 rfl rfl ?_
      refine j_iload_n X (i := 1) dX10_rackPlace_38 rfl rfl ?_
      refine j_iconst X (v := (nI 2)) dX10_rackPlace_39 (by decide) ?_
      refine j_callV X (m_on hok hst (k := k) (w := 2) hM (by omega)) i_X10_on tw_7_45 tw_7_47 tp_41 M0 rfl dX10_rackPlace_40 ?_ 
      rw [show t1 (M + 1) (51 + 27 * k + 2) = _ from (w7 k hk1).2.2.1]
      exact j_iret X dX10_rackPlace_43 rfl rfl (mP_mk (by unfold a_rackPlace; rw [sAt_nI hkn, qPP_0 (show isSg G (nI k) = true from ho) (decide_eq_true h0)]) c1 hG1 f1)
    · refine j_if_ge X (tgt := 26) dX10_rackPlace_19 (by decide) (fun q9 => absurd q9 ((fun z9 => h0 (i1.mp z9)))) (fun _ => ?_)
      refine j_iconst X (v := (nI 2)) dX10_rackPlace_22 (by decide) ?_
      refine j_goto X (tgt := 27) dX10_rackPlace_23 (by decide) ?_
      exact no 2 (by decide) (by decide) (by unfold a_rackPlace; rw [sAt_nI hkn, qPP_2 (show isSg G (nI k) = true from ho) (decide_eq_false h0)])

theorem m_sheetInRack {l : Launch} {g : jG} (hok : jOk g) (hst : l.stackTraces = false) {z : Option Nat} {sk : jS} {t : jT} {M : Nat} (hM : isMod g sk M) {w : WB} {G : GS} (hG : RmG t M w G) (hK : okG G) (x : Int32) : jMet l g mX10_sheetInRack 3 0 0 [.ref (jb g + M), .int x] z sk t (mP M w (a_sheetInRack G x) z sk t) := by
  refine j_body (lv := [some (.ref (jb g + M)), some (.int x)]) i_X10_sheetInRack hok hst (fun p e s m args below meth c X => ?_)
  obtain ⟨M0, M1, M2, M3, M4, M5, M6, M7⟩ := id hM
  obtain ⟨r1, r2, r3, r4, r5, r6, r7, r8, r9, r10, r11⟩ := id hG
  obtain ⟨u1, u2, u3, u4, u5, u6, u7⟩ := id r1
  obtain ⟨k1, k2, k3, k4, k5, k6, k7, k8⟩ := id hK.1
  have no : ∀ n : Nat, 0 < n → n < 4 → a_sheetInRack G x = (n, nI 0, G) → J p l e (jR 3 0 0) s m args below meth c (jQm below args s g 0 0 (mP M w (a_sheetInRack G x) z sk t)) 2 g 0 0 z sk  t 31 [some (.ref (jb g + M)), some (.int x)] [.int (nI n), .ref (jb g + M)] := fun n h0 h4 hr => by
    refine j_callV X (m_fails hok hst hM h4) i_X10_fails tw_6_135 tw_6_137 tp_25 M0 rfl dX10_sheetInRack_31 ?_ 
    rw [decide_eq_true h0]
    refine j_if_eq X (tgt := 41) dX10_sheetInRack_34 (by decide) (fun q9 => absurd q9 (by decide)) (fun _ => ?_)
    refine j_iconst X (v := (nI 0)) dX10_sheetInRack_37 (by decide) ?_
    refine j_goto X (tgt := 50) dX10_sheetInRack_38 (by decide) ?_
    exact j_iret X dX10_sheetInRack_50 rfl rfl (mP_no hG hr)
  refine j_aload_n X (i := 0) dX10_sheetInRack_0 rfl rfl ?_
  refine j_iload_n X (i := 1) dX10_sheetInRack_1 rfl rfl ?_
  refine j_iconst X (v := (nI 0)) dX10_sheetInRack_2 (by decide) ?_
  refine j_iconst X (v := (nI 2)) dX10_sheetInRack_3 (by decide) ?_
  refine j_callS X (m_in hok hst _ _ _) i_X10_in tw_6_154 tw_6_155 dX10_sheetInRack_4 ?_ 
  rw [in02]
  cases hp : pIx 3 x with
  | false =>
    refine j_if_ne X (tgt := 14) dX10_sheetInRack_7 (by decide) (fun q9 => absurd (rfl) q9) (fun _ => ?_)
    refine j_iconst X (v := (nI 1)) dX10_sheetInRack_10 (by decide) ?_
    refine j_goto X (tgt := 31) dX10_sheetInRack_11 (by decide) ?_
    exact no 1 (by decide) (by decide) (by unfold a_sheetInRack; rw [qPP_1 hp])
  | true =>
    obtain ⟨a, ha, rfl, han⟩ := pIx_of (by decide) hp
    have hx : (nI a).toInt = (a : Int) := nI_toInt (by omega)
    have hge := rkG_ge (sh (gV G)) (a : Int) (ns (gV G)) 0
    have hle := iN_le (a := 0) (b := rkV (gV G) (a : Int)) (by decide) (by decide) (by unfold rkV; omega) (by unfold rkV; omega)
    refine j_if_ne X (tgt := 14) dX10_sheetInRack_7 (by decide) (fun _ => ?_) (fun q9 => absurd q9 (by decide))
    refine j_aload_n X (i := 0) dX10_sheetInRack_14 rfl rfl ?_
    refine jFd.get X fd_X10_7 M0 rfl dX10_sheetInRack_15 ?_
    refine j_bipush X (v := (nI 6)) dX10_sheetInRack_18 (by decide) ?_
    refine j_iload_n X (i := 1) dX10_sheetInRack_20 rfl rfl ?_
    refine j_iadd X dX10_sheetInRack_21 ?_
    rw [nI_add]
    refine j_iald X M1 rfl (by omega) (by decide) dX10_sheetInRack_22 ?_
    rw [u5 a ha]
    by_cases h : rkV (gV G) (a : Int) = -1
    · refine j_if_ge X (tgt := 30) dX10_sheetInRack_23 (by decide) (fun q9 => absurd q9 ((fun z9 => by have := hle.mp z9; omega))) (fun _ => ?_)
      refine j_iconst X (v := (nI 2)) dX10_sheetInRack_26 (by decide) ?_
      refine j_goto X (tgt := 31) dX10_sheetInRack_27 (by decide) ?_
      exact no 2 (by decide) (by decide) (by unfold a_sheetInRack; rw [hx, qPP_2 hp (decide_eq_false (fun z9 => z9 h))])
    · refine j_if_ge X (tgt := 30) dX10_sheetInRack_23 (by decide) (fun _ => ?_) (fun q9 => absurd (hle.mpr (by unfold rkV at h ⊢; omega)) q9)
      refine j_iconst X (v := (nI 0)) dX10_sheetInRack_30 (by decide) ?_
      refine j_callV X (m_fails hok hst hM (n := 0) (by decide)) i_X10_fails tw_6_135 tw_6_137 tp_25 M0 rfl dX10_sheetInRack_31 ?_ 
      refine j_if_eq X (tgt := 41) dX10_sheetInRack_34 (by decide) (fun _ => ?_) (fun q9 => absurd (rfl) q9)
      have hG1 := hG.jcode (nI 0)
      have c1 : jU t M 7 (nI 0) M 7 = nI 0 := by rw [jU_eq]; rfl
      have f1 : ∀ c, (c < M ∨ M + 8 ≤ c ∨ c = M + 4 ∨ c = M + 7) → jU t M 7 (nI 0) c = t c := fun c hc => jU_ne _ _ _ (by omega)
      generalize jU t M 7 (nI 0) = t1 at hG1 c1 f1 ⊢
      obtain ⟨w1, w2, w3, w4, w5, w6, w7⟩ := id hG1.1
      refine j_aload_n X (i := 0) dX10_sheetInRack_41 rfl rfl ?_
      refine jFd.get X fd_X10_7 M0 rfl dX10_sheetInRack_42 ?_
      refine j_bipush X (v := (nI 6)) dX10_sheetInRack_45 (by decide) ?_
      refine j_iload_n X (i := 1) dX10_sheetInRack_47 rfl rfl ?_
      refine j_iadd X dX10_sheetInRack_48 ?_
      rw [nI_add]
      refine j_iald X M1 rfl (by omega) (by decide) dX10_sheetInRack_49 ?_
      rw [w5 a ha]
      exact j_iret X dX10_sheetInRack_50 rfl rfl (mP_mk (by unfold a_sheetInRack; rw [hx, qPP_0 hp (decide_eq_true h)]) c1 hG1 f1)

