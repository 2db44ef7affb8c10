theorem qP_t {G : GS} {b : Bool} {v : Int32} (h : b = true) : qP G b v = (0, v, G) := if_pos h
theorem qP_f {G : GS} {b : Bool} {v : Int32} (h : b = false) : qP G b v = (1, nI 0, G) := if_neg (by rw [h]; decide)
theorem qPP_1 {G : GS} {b b2 : Bool} {v : Int32} (h : b = false) : qPP G b b2 v = (1, nI 0, G) := if_pos h
theorem qPP_2 {G : GS} {b b2 : Bool} {v : Int32} (h : b = true) (h2 : b2 = false) : qPP G b b2 v = (2, nI 0, G) := by unfold qPP; rw [if_neg (by rw [h]; decide), if_pos h2]
theorem qPP_0 {G : GS} {b b2 : Bool} {v : Int32} (h : b = true) (h2 : b2 = true) : qPP G b b2 v = (0, v, G) := by unfold qPP; rw [if_neg (by rw [h]; decide), if_neg (by rw [h2]; decide)]
theorem m_plateCount {l : Launch} {g : jG} (hok : jOk g) (hst : l.stackTraces = false) {z : Option Nat} {sk : jS} {t : jT} {M : Nat} (hM : isMod g sk M) {w : WB} {G : GS} (hG : RmG t M w G) (hK : okG G) : jMet l g mX10_plateCount 1 0 0 [.ref (jb g + M)] z sk t (mP M w (a_plateCount G) z sk t) := by
  refine j_body (lv := [some (.ref (jb g + M))]) i_X10_plateCount hok hst (fun p e s m args below meth c X => ?_)
  obtain ⟨M0, M1, M2, M3, M4, M5, M6, M7⟩ := id hM
  obtain ⟨r1, r2, r3, r4, r5, r6, r7, r8, r9, r10, r11⟩ := id hG
  obtain ⟨u1, u2, u3, u4, u5, u6, u7⟩ := id r1
  obtain ⟨k1, k2, k3, k4, k5, k6, k7, k8⟩ := id hK.1
  refine j_aload_n X (i := 0) dX10_plateCount_0 rfl rfl ?_
  refine j_iconst X (v := (nI 0)) dX10_plateCount_1 (by decide) ?_
  refine jFd.put X fd_X10_39 M0 rfl rfl rfl rfl dX10_plateCount_2 ?_
  refine j_aload_n X (i := 0) dX10_plateCount_5 rfl rfl ?_
  refine jFd.get X fd_X10_7 M0 rfl dX10_plateCount_6 ?_
  refine j_iconst X (v := (nI 0)) dX10_plateCount_9 (by decide) ?_
  refine j_iald X M1 rfl (by decide) (by decide) dX10_plateCount_10 ?_
  rw [jU_ne _ _ _ (by omega), u1]
  exact j_iret X dX10_plateCount_11 rfl rfl (mP_no hG rfl)

theorem m_inkOf {l : Launch} {g : jG} (hok : jOk g) (hst : l.stackTraces = false) {z : Option Nat} {sk : jS} {t : jT} {M : Nat} (hM : isMod g sk M) {w : WB} {G : GS} (hG : RmG t M w G) (hK : okG G) (q : Int32) : jMet l g mX10_inkOf 4 0 0 [.ref (jb g + M), .int q] z sk t (mP M w (a_inkOf G q) z sk t) := by
  refine j_body (lv := [some (.ref (jb g + M)), some (.int q)]) i_X10_inkOf hok hst (fun p e s m args below meth c X => ?_)
  obtain ⟨M0, M1, M2, M3, M4, M5, M6, M7⟩ := id hM
  obtain ⟨r1, r2, r3, r4, r5, r6, r7, r8, r9, r10, r11⟩ := id hG
  obtain ⟨u1, u2, u3, u4, u5, u6, u7⟩ := id r1
  obtain ⟨k1, k2, k3, k4, k5, k6, k7, k8⟩ := id hK.1
  refine j_aload_n X (i := 0) dX10_inkOf_0 rfl rfl ?_
  refine j_iload_n X (i := 1) dX10_inkOf_1 rfl rfl ?_
  refine j_callV X (m_isNone hok hst hM u1 (by omega) q) i_X10_isNone tw_6_229 tw_6_231 tp_38 M0 rfl dX10_inkOf_2 ?_ 
  cases hq : pIx (np (gV G)) q with
  | false =>
    refine j_if_eq X (tgt := 12) dX10_inkOf_5 (by decide) (fun q9 => absurd q9 (by decide)) (fun _ => ?_)
    refine j_iconst X (v := (nI 0)) dX10_inkOf_8 (by decide) ?_
    refine j_goto X (tgt := 18) dX10_inkOf_9 (by decide) ?_
    exact j_iret X dX10_inkOf_18 rfl rfl (mP_no hG (by unfold a_inkOf; rw [qP_f (show isPg G q = false from hq)]; rfl))
  | true =>
    obtain ⟨k, hk1, rfl, hkn⟩ := pIx_of (by omega) hq
    refine j_if_eq X (tgt := 12) dX10_inkOf_5 (by decide) (fun _ => ?_) (fun q9 => absurd (rfl) q9)
    have hG1 := hG.jcode (nI (!true).toNat)
    have c1 : jU t M 7 (nI (!true).toNat) M 7 = nI 0 := by rw [jU_eq]; rfl
    have f1 : ∀ c, (c < M ∨ M + 8 ≤ c ∨ c = M + 4 ∨ c = M + 7) → jU t M 7 (nI (!true).toNat) c = t c := fun c hc => jU_ne _ _ _ (by omega)
    generalize jU t M 7 (nI (!true).toNat) = t1 at hG1 c1 f1 ⊢
    obtain ⟨w1, w2, w3, w4, w5, w6, w7⟩ := id hG1.1
    refine j_aload_n X (i := 0) dX10_inkOf_12 rfl rfl ?_
    refine j_iload_n X (i := 1) dX10_inkOf_13 rfl rfl ?_
    refine j_iconst X (v := (nI 0)) dX10_inkOf_14 (by decide) ?_
    refine j_callV X (m_of hok hst (k := k) (w := 0) hM (by omega)) i_X10_of tw_6_198 tw_6_200 tp_34 M0 rfl dX10_inkOf_15 ?_ 
    rw [(show t1 (M + 1) (9 + 7 * k + 0) = _ from (w6 k hk1).1)]
    exact j_iret X dX10_inkOf_18 rfl rfl (mP_mk (by unfold a_inkOf; rw [qP_t (show isPg G (nI k) = true from hq), pAt_nI hkn]) c1 hG1 f1)

theorem m_shiftX {l : Launch} {g : jG} (hok : jOk g) (hst : l.stackTraces = false) {z : Option Nat} {sk : jS} {t : jT} {M : Nat} (hM : isMod g sk M) {w : WB} {G : GS} (hG : RmG t M w G) (hK : okG G) (q : Int32) : jMet l g mX10_shiftX 4 0 0 [.ref (jb g + M), .int q] z sk t (mP M w (a_shiftX G q) z sk t) := by
  refine j_body (lv := [some (.ref (jb g + M)), some (.int q)]) i_X10_shiftX hok hst (fun p e s m args below meth c X => ?_)
  obtain ⟨M0, M1, M2, M3, M4, M5, M6, M7⟩ := id hM
  obtain ⟨r1, r2, r3, r4, r5, r6, r7, r8, r9, r10, r11⟩ := id hG
  obtain ⟨u1, u2, u3, u4, u5, u6, u7⟩ := id r1
  obtain ⟨k1, k2, k3, k4, k5, k6, k7, k8⟩ := id hK.1
  refine j_aload_n X (i := 0) dX10_shiftX_0 rfl rfl ?_
  refine j_iload_n X (i := 1) dX10_shiftX_1 rfl rfl ?_
  refine j_callV X (m_isNone hok hst hM u1 (by omega) q) i_X10_isNone tw_6_229 tw_6_231 tp_38 M0 rfl dX10_shiftX_2 ?_ 
  cases hq : pIx (np (gV G)) q with
  | false =>
    refine j_if_eq X (tgt := 12) dX10_shiftX_5 (by decide) (fun q9 => absurd q9 (by decide)) (fun _ => ?_)
    refine j_iconst X (v := (nI 0)) dX10_shiftX_8 (by decide) ?_
    refine j_goto X (tgt := 18) dX10_shiftX_9 (by decide) ?_
    exact j_iret X dX10_shiftX_18 rfl rfl (mP_no hG (by unfold a_shiftX; rw [qP_f (show isPg G q = false from hq)]; rfl))
  | true =>
    obtain ⟨k, hk1, rfl, hkn⟩ := pIx_of (by omega) hq
    refine j_if_eq X (tgt := 12) dX10_shiftX_5 (by decide) (fun _ => ?_) (fun q9 => absurd (rfl) q9)
    have hG1 := hG.jcode (nI (!true).toNat)
    have c1 : jU t M 7 (nI (!true).toNat) M 7 = nI 0 := by rw [jU_eq]; rfl
    have f1 : ∀ c, (c < M ∨ M + 8 ≤ c ∨ c = M + 4 ∨ c = M + 7) → jU t M 7 (nI (!true).toNat) c = t c := fun c hc => jU_ne _ _ _ (by omega)
    generalize jU t M 7 (nI (!true).toNat) = t1 at hG1 c1 f1 ⊢
    obtain ⟨w1, w2, w3, w4, w5, w6, w7⟩ := id hG1.1
    refine j_aload_n X (i := 0) dX10_shiftX_12 rfl rfl ?_
    refine j_iload_n X (i := 1) dX10_shiftX_13 rfl rfl ?_
    refine j_iconst X (v := (nI 1)) dX10_shiftX_14 (by decide) ?_
    refine j_callV X (m_of hok hst (k := k) (w := 1) hM (by omega)) i_X10_of tw_6_198 tw_6_200 tp_34 M0 rfl dX10_shiftX_15 ?_ 
    rw [(w6 k hk1).2.1]
    exact j_iret X dX10_shiftX_18 rfl rfl (mP_mk (by unfold a_shiftX; rw [qP_t (show isPg G (nI k) = true from hq), pAt_nI hkn]) c1 hG1 f1)

theorem m_shiftY {l : Launch} {g : jG} (hok : jOk g) (hst : l.stackTraces = false) {z : Option Nat} {sk : jS} {t : jT} {M : Nat} (hM : isMod g sk M) {w : WB} {G : GS} (hG : RmG t M w G) (hK : okG G) (q : Int32) : jMet l g mX10_shiftY 4 0 0 [.ref (jb g + M), .int q] z sk t (mP M w (a_shiftY G q) z sk t) := by
  refine j_body (lv := [some (.ref (jb g + M)), some (.int q)]) i_X10_shiftY hok hst (fun p e s m args below meth c X => ?_)
  obtain ⟨M0, M1, M2, M3, M4, M5, M6, M7⟩ := id hM
  obtain ⟨r1, r2, r3, r4, r5, r6, r7, r8, r9, r10, r11⟩ := id hG
  obtain ⟨u1, u2, u3, u4, u5, u6, u7⟩ := id r1
  obtain ⟨k1, k2, k3, k4, k5, k6, k7, k8⟩ := id hK.1
  refine j_aload_n X (i := 0) dX10_shiftY_0 rfl rfl ?_
  refine j_iload_n X (i := 1) dX10_shiftY_1 rfl rfl ?_
  refine j_callV X (m_isNone hok hst hM u1 (by omega) q) i_X10_isNone tw_6_229 tw_6_231 tp_38 M0 rfl dX10_shiftY_2 ?_ 
  cases hq : pIx (np (gV G)) q with
  | false =>
    refine j_if_eq X (tgt := 12) dX10_shiftY_5 (by decide) (fun q9 => absurd q9 (by decide)) (fun _ => ?_)
    refine j_iconst X (v := (nI 0)) dX10_shiftY_8 (by decide) ?_
    refine j_goto X (tgt := 18) dX10_shiftY_9 (by decide) ?_
    exact j_iret X dX10_shiftY_18 rfl rfl (mP_no hG (by unfold a_shiftY; rw [qP_f (show isPg G q = false from hq)]; rfl))
  | true =>
    obtain ⟨k, hk1, rfl, hkn⟩ := pIx_of (by omega) hq
    refine j_if_eq X (tgt := 12) dX10_shiftY_5 (by decide) (fun _ => ?_) (fun q9 => absurd (rfl) q9)
    have hG1 := hG.jcode (nI (!true).toNat)
    have c1 : jU t M 7 (nI (!true).toNat) M 7 = nI 0 := by rw [jU_eq]; rfl
    have f1 : ∀ c, (c < M ∨ M + 8 ≤ c ∨ c = M + 4 ∨ c = M + 7) → jU t M 7 (nI (!true).toNat) c = t c := fun c hc => jU_ne _ _ _ (by omega)
    generalize jU t M 7 (nI (!true).toNat) = t1 at hG1 c1 f1 ⊢
    obtain ⟨w1, w2, w3, w4, w5, w6, w7⟩ := id hG1.1
    refine j_aload_n X (i := 0) dX10_shiftY_12 rfl rfl ?_
    refine j_iload_n X (i := 1) dX10_shiftY_13 rfl rfl ?_
    refine j_iconst X (v := (nI 2)) dX10_shiftY_14 (by decide) ?_
    refine j_callV X (m_of hok hst (k := k) (w := 2) hM (by omega)) i_X10_of tw_6_198 tw_6_200 tp_34 M0 rfl dX10_shiftY_15 ?_ 
    rw [(w6 k hk1).2.2.1]
    exact j_iret X dX10_shiftY_18 rfl rfl (mP_mk (by unfold a_shiftY; rw [qP_t (show isPg G (nI k) = true from hq), pAt_nI hkn]) c1 hG1 f1)

theorem m_starCount {l : Launch} {g : jG} (hok : jOk g) (hst : l.stackTraces = false) {z : Option Nat} {sk : jS} {t : jT} {M : Nat} (hM : isMod g sk M) {w : WB} {G : GS} (hG : RmG t M w G) (hK : okG G) (q : Int32) : jMet l g mX10_starCount 4 0 0 [.ref (jb g + M), .int q] z sk t (mP M w (a_starCount G q) z sk t) := by
  refine j_body (lv := [some (.ref (jb g + M)), some (.int q)]) i_X10_starCount hok hst (fun p e s m args below meth c X => ?_)
  obtain ⟨M0, M1, M2, M3, M4, M5, M6, M7⟩ := id hM
  obtain ⟨r1, r2, r3, r4, r5, r6, r7, r8, r9, r10, r11⟩ := id hG
  obtain ⟨u1, u2, u3, u4, u5, u6, u7⟩ := id r1
  obtain ⟨k1, k2, k3, k4, k5, k6, k7, k8⟩ := id hK.1
  refine j_aload_n X (i := 0) dX10_starCount_0 rfl rfl ?_
  refine j_iload_n X (i := 1) dX10_starCount_1 rfl rfl ?_
  refine j_callV X (m_isNone hok hst hM u1 (by omega) q) i_X10_isNone tw_6_229 tw_6_231 tp_38 M0 rfl dX10_starCount_2 ?_ 
  cases hq : pIx (np (gV G)) q with
  | false =>
    refine j_if_eq X (tgt := 12) dX10_starCount_5 (by decide) (fun q9 => absurd q9 (by decide)) (fun _ => ?_)
    refine j_iconst X (v := (nI 0)) dX10_starCount_8 (by decide) ?_
    refine j_goto X (tgt := 17) dX10_starCount_9 (by decide) ?_
    exact j_iret X dX10_starCount_17 rfl rfl (mP_no hG (by unfold a_starCount; rw [qP_f (show isPg G q = false from hq)]; rfl))
  | true =>
    obtain ⟨k, hk1, rfl, hkn⟩ := pIx_of (by omega) hq
    refine j_if_eq X (tgt := 12) dX10_starCount_5 (by decide) (fun _ => ?_) (fun q9 => absurd (rfl) q9)
    have hG1 := hG.jcode (nI (!true).toNat)
    have c1 : jU t M 7 (nI (!true).toNat) M 7 = nI 0 := by rw [jU_eq]; rfl
    have f1 : ∀ c, (c < M ∨ M + 8 ≤ c ∨ c = M + 4 ∨ c = M + 7) → jU t M 7 (nI (!true).toNat) c = t c := fun c hc => jU_ne _ _ _ (by omega)
    generalize jU t M 7 (nI (!true).toNat) = t1 at hG1 c1 f1 ⊢
    obtain ⟨w1, w2, w3, w4, w5, w6, w7⟩ := id hG1.1
    refine j_aload_n X (i := 0) dX10_starCount_12 rfl rfl ?_
    refine j_iload_n X (i := 1) dX10_starCount_13 rfl rfl ?_
    refine j_callV X (m_starred hok hst hM (by omega) (w6 k hk1).2.2.2) i_X10_starred tw_6_168 tw_6_170 tp_30 M0 rfl dX10_starCount_14 ?_ 
    exact j_iret X dX10_starCount_17 rfl rfl (mP_mk (by unfold a_starCount; rw [qP_t (show isPg G (nI k) = true from hq), pAt_nI hkn]) c1 hG1 f1)

theorem m_hasStar {l : Launch} {g : jG} (hok : jOk g) (hst : l.stackTraces = false) {z : Option Nat} {sk : jS} {t : jT} {M : Nat} (hM : isMod g sk M) {w : WB} {G : GS} (hG : RmG t M w G) (hK : okG G) (q x y : Int32) : jMet l g mX10_hasStar 4 0 0 [.ref (jb g + M), .int q, .int x, .int y] z sk t (mP M w (a_hasStar G q x y) z sk t) := by
  refine j_body (lv := [some (.ref (jb g + M)), some (.int q), some (.int x), some (.int y)]) i_X10_hasStar hok hst (fun p e s m args below meth c X => ?_)
  obtain ⟨M0, M1, M2, M3, M4, M5, M6, M7⟩ := id hM
  obtain ⟨r1, r2, r3, r4, r5, r6, r7, r8, r9, r10, r11⟩ := id hG
  obtain ⟨u1, u2, u3, u4, u5, u6, u7⟩ := id r1
  obtain ⟨k1, k2, k3, k4, k5, k6, k7, k8⟩ := id hK.1
  have no : ∀ n : Nat, 0 < n → n < 4 → a_hasStar G q x y = (n, nI 0, G) → J p l e (jR 4 0 0) s m args below meth c (jQm below args s g 0 0 (mP M w (a_hasStar G q x y) z sk t)) 4 g 0 0 z sk t 26 [some (.ref (jb g + M)), some (.int q), some (.int x), some (.int y)] [.int (nI n), .ref (jb g + M)] := fun n h0 h4 hr => by
    refine j_callV X (m_fails hok hst hM h4) i_X10_fails tw_6_135 tw_6_137 tp_25 M0 rfl dX10_hasStar_26 ?_ 
    rw [decide_eq_true h0]
    refine j_if_ne X (tgt := 50) dX10_hasStar_29 (by decide) (fun _ => ?_) (fun q9 => absurd q9 (by decide))
    refine j_iconst X (v := (nI 0)) dX10_hasStar_50 (by decide) ?_
    exact j_iret X dX10_hasStar_51 rfl rfl (mP_no hG hr)
  refine j_aload_n X (i := 0) dX10_hasStar_0 rfl rfl ?_
  refine j_aload_n X (i := 0) dX10_hasStar_1 rfl rfl ?_
  refine j_iload_n X (i := 1) dX10_hasStar_2 rfl rfl ?_
  refine j_callV X (m_isPlate hok hst hM u1 (by omega) q) i_X10_isPlate tw_6_150 tw_6_152 tp_27 M0 rfl dX10_hasStar_3 ?_ 
  cases hq : pIx (np (gV G)) q with
  | false =>
    refine j_if_ne X (tgt := 13) dX10_hasStar_6 (by decide) (fun q9 => absurd (rfl) q9) (fun _ => ?_)
    refine j_iconst X (v := (nI 1)) dX10_hasStar_9 (by decide) ?_
    refine j_goto X (tgt := 26) dX10_hasStar_10 (by decide) ?_
    exact no 1 (by decide) (by decide) (by unfold a_hasStar; rw [qPP_1 (show isPg G q = false from hq)])
  | true =>
    refine j_if_ne X (tgt := 13) dX10_hasStar_6 (by decide) (fun _ => ?_) (fun q9 => absurd q9 (by decide))
    refine j_iload_n X (i := 2) dX10_hasStar_13 rfl rfl ?_
    refine j_iload_n X (i := 3) dX10_hasStar_14 rfl rfl ?_
    refine j_callS X (m_isOn hok hst _ _) i_X10_isOn tw_6_157 tw_6_158 dX10_hasStar_15 ?_ 
    cases hp : isPl x y with
    | false =>
      refine j_if_eq X (tgt := 25) dX10_hasStar_18 (by decide) (fun _ => ?_) (fun q9 => absurd (rfl) q9)
      refine j_iconst X (v := (nI 2)) dX10_hasStar_25 (by decide) ?_
      exact no 2 (by decide) (by decide) (by unfold a_hasStar; rw [qPP_2 (show isPg G q = true from hq) hp])
    | true =>
      obtain ⟨k, hk1, rfl, hkn⟩ := pIx_of (by omega) hq
      obtain ⟨a, d, ha, hd, rfl, rfl, han, hdn⟩ := isPl_of hp
      refine j_if_eq X (tgt := 25) dX10_hasStar_18 (by decide) (fun q9 => absurd q9 (by decide)) (fun _ => ?_)
      refine j_iconst X (v := (nI 0)) dX10_hasStar_21 (by decide) ?_
      refine j_goto X (tgt := 26) dX10_hasStar_22 (by decide) ?_
      refine j_callV X (m_fails hok hst hM (n := 0) (by decide)) i_X10_fails tw_6_135 tw_6_137 tp_25 M0 rfl dX10_hasStar_26 ?_ 
      refine j_if_ne X (tgt := 50) dX10_hasStar_29 (by decide) (fun q9 => absurd (rfl) q9) (fun _ => ?_)
      have hG1 := hG.jcode (nI 0)
      have c1 : jU t M 7 (nI 0) M 7 = nI 0 := by rw [jU_eq]; rfl
      have f1 : ∀ c, (c < M ∨ M + 8 ≤ c ∨ c = M + 4 ∨ c = M + 7) → jU t M 7 (nI 0) c = t c := fun c hc => jU_ne _ _ _ (by omega)
      generalize jU t M 7 (nI 0) = t1 at hG1 c1 f1 ⊢
      obtain ⟨w1, w2, w3, w4, w5, w6, w7⟩ := id hG1.1
      refine j_aload_n X (i := 0) dX10_hasStar_32 rfl rfl ?_
      refine j_aload_n X (i := 0) dX10_hasStar_33 rfl rfl ?_
      refine j_iload_n X (i := 1) dX10_hasStar_34 rfl rfl ?_
      refine j_callV X (m_stars hok hst (M := M)) i_X10_stars tw_6_160 tw_6_162 tp_28 M0 rfl dX10_hasStar_35 ?_ 
      refine j_iload_n X (i := 2) dX10_hasStar_38 rfl rfl ?_
      refine j_iload_n X (i := 3) dX10_hasStar_39 rfl rfl ?_
      refine j_callV X (m_has hok hst (x := a) (y := d) hM (w6 k hk1).2.2.2 (by omega) ha hd) i_X10_has tw_6_164 tw_6_166 tp_29 M0 rfl dX10_hasStar_40 ?_ 
      have hr : a_hasStar G (nI k) (nI a) (nI d) = (0, nI ((pl (gV G) k).2.2.2 (16 * d + a)).toNat, G) := by unfold a_hasStar; rw [qPP_0 (show isPg G (nI k) = true from hq) hp, pAt_nI hkn, cAt_nI han hdn]
      cases hs : (pl (gV G) k).2.2.2 (16 * d + a) with
      | false =>
        rw [hs] at hr
        refine j_if_eq X (tgt := 50) dX10_hasStar_43 (by decide) (fun _ => ?_) (fun q9 => absurd (rfl) q9)
        refine j_iconst X (v := (nI 0)) dX10_hasStar_50 (by decide) ?_
        exact j_iret X dX10_hasStar_51 rfl rfl (mP_mk hr c1 hG1 f1)
      | true =>
        rw [hs] at hr
        refine j_if_eq X (tgt := 50) dX10_hasStar_43 (by decide) (fun q9 => absurd q9 (by decide)) (fun _ => ?_)
        refine j_iconst X (v := (nI 1)) dX10_hasStar_46 (by decide) ?_
        refine j_goto X (tgt := 51) dX10_hasStar_47 (by decide) ?_
        exact j_iret X dX10_hasStar_51 rfl rfl (mP_mk hr c1 hG1 f1)

theorem m_matches {l : Launch} {g : jG} (hok : jOk g) (hst : l.stackTraces = false) {z : Option Nat} {sk : jS} {t : jT} {M : Nat} (hM : isMod g sk M) {w : WB} {G : GS} (hG : RmG t M w G) (hK : okG G) (q o x y : Int32) : jMet l g mX10_matches 4 0 0 [.ref (jb g + M), .int q, .int o, .int x, .int y] z sk t (mP M w (a_matches G q o x y) z sk t) := by
  refine j_body (lv := [some (.ref (jb g + M)), some (.int q), some (.int o), some (.int x), some (.int y)]) i_X10_matches hok hst (fun p e s m args below meth c X => ?_)
  obtain ⟨M0, M1, M2, M3, M4, M5, M6, M7⟩ := id hM
  obtain ⟨r1, r2, r3, r4, r5, r6, r7, r8, r9, r10, r11⟩ := id hG
  obtain ⟨u1, u2, u3, u4, u5, u6, u7⟩ := id r1
  obtain ⟨k1, k2, k3, k4, k5, k6, k7, k8⟩ := id hK.1
  refine j_aload_n X (i := 0) dX10_matches_0 rfl rfl ?_
  refine j_iload_n X (i := 1) dX10_matches_1 rfl rfl ?_
  refine j_iload_n X (i := 2) dX10_matches_2 rfl rfl ?_
  refine j_callV X (m_areNone hok hst hM u1 (by omega) q o) i_X10_areNone tw_6_206 tw_6_208 tp_35 M0 rfl dX10_matches_3 ?_ 
  cases hqo : (pIx (np (gV G)) q && pIx (np (gV G)) o) with
  | false =>
    refine j_if_ne X (tgt := 30) dX10_matches_6 (by decide) (fun _ => ?_) (fun q9 => absurd q9 (by decide))
    refine j_iconst X (v := (nI 0)) dX10_matches_30 (by decide) ?_
    refine j_goto X (tgt := 43) dX10_matches_31 (by decide) ?_
    exact j_iret X dX10_matches_43 rfl rfl (mP_no hG (by unfold a_matches; rw [qPP_1 (show (isPg G q && isPg G o) = false from hqo)]; rfl))
  | true =>
    refine j_if_ne X (tgt := 30) dX10_matches_6 (by decide) (fun q9 => absurd (rfl) q9) (fun _ => ?_)
    have hG1 := hG.jcode (nI (!true).toNat)
    have c1 : jU t M 7 (nI (!true).toNat) M 7 = nI 0 := by rw [jU_eq]; rfl
    have f1 : ∀ c, (c < M ∨ M + 8 ≤ c ∨ c = M + 4 ∨ c = M + 7) → jU t M 7 (nI (!true).toNat) c = t c := fun c hc => jU_ne _ _ _ (by omega)
    generalize jU t M 7 (nI (!true).toNat) = t1 at hG1 c1 f1 ⊢
    obtain ⟨w1, w2, w3, w4, w5, w6, w7⟩ := id hG1.1
    refine j_aload_n X (i := 0) dX10_matches_9 rfl rfl ?_
    refine j_iload_n X (i := 3) dX10_matches_10 rfl rfl ?_
    refine j_iload X (i := 4) dX10_matches_11 rfl ?_
    refine j_callS X (m_areNear hok hst _ _) i_X10_areNear tw_6_187 tw_6_188 dX10_matches_13 ?_ 
    cases hp : isSh x y with
    | false =>
      refine j_if_eq X (tgt := 23) dX10_matches_16 (by decide) (fun _ => ?_) (fun q9 => absurd (rfl) q9)
      refine j_iconst X (v := (nI 2)) dX10_matches_23 (by decide) ?_
      refine j_callV X (m_fails hok hst hM (n := 2) (by decide)) i_X10_fails tw_6_135 tw_6_137 tp_25 M0 rfl dX10_matches_24 ?_ 
      rw [decide_eq_true (by decide)]
      refine j_if_eq X (tgt := 34) dX10_matches_27 (by decide) (fun q9 => absurd q9 (by decide)) (fun _ => ?_)
      refine j_iconst X (v := (nI 0)) dX10_matches_30 (by decide) ?_
      refine j_goto X (tgt := 43) dX10_matches_31 (by decide) ?_
      exact j_iret X dX10_matches_43 rfl rfl (mP_mk (by unfold a_matches; rw [qPP_2 (show (isPg G q && isPg G o) = true from hqo) hp]) (by rw [jU_eq]; rfl) (hG1.jcode _) (fun c hc => (jU_ne _ _ _ (by omega)).trans (f1 c hc)))
    | true =>
      have hq : pIx (np (gV G)) q = true := by cases hq : pIx (np (gV G)) q with | true => rfl | false => rw [hq] at hqo; exact absurd (show false = true from hqo) (by decide)
      have ho : pIx (np (gV G)) o = true := by rw [hq] at hqo; exact hqo
      obtain ⟨k, hk1, rfl, hkn⟩ := pIx_of (by omega) hq
      obtain ⟨j, hj1, rfl, hjn⟩ := pIx_of (by omega) ho
      obtain ⟨d1, d2, d3, d4⟩ := isSh_of hp
      refine j_if_eq X (tgt := 23) dX10_matches_16 (by decide) (fun q9 => absurd q9 (by decide)) (fun _ => ?_)
      refine j_iconst X (v := (nI 0)) dX10_matches_19 (by decide) ?_
      refine j_goto X (tgt := 24) dX10_matches_20 (by decide) ?_
      refine j_callV X (m_fails hok hst hM (n := 0) (by decide)) i_X10_fails tw_6_135 tw_6_137 tp_25 M0 rfl dX10_matches_24 ?_ 
      refine j_if_eq X (tgt := 34) dX10_matches_27 (by decide) (fun _ => ?_) (fun q9 => absurd (rfl) q9)
      have hG2 := hG1.jcode (nI 0)
      have e1 : jU t1 M 7 (nI 0) (M + 1) = t1 (M + 1) := jU_ne _ _ _ (by omega)
      refine j_aload_n X (i := 0) dX10_matches_34 rfl rfl ?_
      refine j_iload_n X (i := 1) dX10_matches_35 rfl rfl ?_
      refine j_iload_n X (i := 2) dX10_matches_36 rfl rfl ?_
      refine j_iload_n X (i := 3) dX10_matches_37 rfl rfl ?_
      refine j_iload X (i := 4) dX10_matches_38 rfl ?_
      rw [← iN_toInt_self x, ← iN_toInt_self y]
      refine j_callV X (m_matching hok hst (k0 := k) (k1 := j) hM (by omega) (by rw [e1]; exact (w6 k hk1).2.2.2) (by omega) (by rw [e1]; exact (w6 j hj1).2.2.2) d1 d2 d3 d4) i_X10_matching tw_6_214 tw_6_216 tp_37 M0 rfl dX10_matches_40 ?_ 
      exact j_iret X dX10_matches_43 rfl rfl (mP_mk (by rw [iN_toInt_self, iN_toInt_self]; unfold a_matches; rw [qPP_0 (show (isPg G (nI k) && isPg G (nI j)) = true from hqo) hp, pAt_nI hkn, pAt_nI hjn]) (by rw [jU_eq]; rfl) hG2 (fun c hc => (jU_ne _ _ _ (by omega)).trans (f1 c hc)))

theorem m_mostMatches {l : Launch} {g : jG} (hok : jOk g) (hst : l.stackTraces = false) {z : Option Nat} {sk : jS} {t : jT} {M : Nat} (hM : isMod g sk M) {w : WB} {G : GS} (hG : RmG t M w G) (hK : okG G) (q o : Int32) : jMet l g mX10_mostMatches 5 0 0 [.ref (jb g + M), .int q, .int o] z sk t (mP M w (a_most G q o) z sk t) := by
  refine j_body (lv := [some (.ref (jb g + M)), some (.int q), some (.int o)]) i_X10_mostMatches hok hst (fun p e s m args below meth c X => ?_)
  obtain ⟨M0, M1, M2, M3, M4, M5, M6, M7⟩ := id hM
  obtain ⟨r1, r2, r3, r4, r5, r6, r7, r8, r9, r10, r11⟩ := id hG
  obtain ⟨u1, u2, u3, u4, u5, u6, u7⟩ := id r1
  obtain ⟨k1, k2, k3, k4, k5, k6, k7, k8⟩ := id hK.1
  refine j_aload_n X (i := 0) dX10_mostMatches_0 rfl rfl ?_
  refine j_iload_n X (i := 1) dX10_mostMatches_1 rfl rfl ?_
  refine j_iload_n X (i := 2) dX10_mostMatches_2 rfl rfl ?_
  refine j_callV X (m_areNone hok hst hM u1 (by omega) q o) i_X10_areNone tw_6_206 tw_6_208 tp_35 M0 rfl dX10_mostMatches_3 ?_ 
  cases hqo : (pIx (np (gV G)) q && pIx (np (gV G)) o) with
  | false =>
    refine j_if_eq X (tgt := 13) dX10_mostMatches_6 (by decide) (fun q9 => absurd q9 (by decide)) (fun _ => ?_)
    refine j_iconst X (v := (nI 0)) dX10_mostMatches_9 (by decide) ?_
    refine j_goto X (tgt := 19) dX10_mostMatches_10 (by decide) ?_
    exact j_iret X dX10_mostMatches_19 rfl rfl (mP_no hG (by unfold a_most; rw [qP_f (show (isPg G q && isPg G o) = false from hqo)]; rfl))
  | true =>
    refine j_if_eq X (tgt := 13) dX10_mostMatches_6 (by decide) (fun _ => ?_) (fun q9 => absurd (rfl) q9)
    have hG1 := hG.jcode (nI (!true).toNat)
    have c1 : jU t M 7 (nI (!true).toNat) M 7 = nI 0 := by rw [jU_eq]; rfl
    have f1 : ∀ c, (c < M ∨ M + 8 ≤ c ∨ c = M + 4 ∨ c = M + 7) → jU t M 7 (nI (!true).toNat) c = t c := fun c hc => jU_ne _ _ _ (by omega)
    generalize jU t M 7 (nI (!true).toNat) = t1 at hG1 c1 f1 ⊢
    obtain ⟨w1, w2, w3, w4, w5, w6, w7⟩ := id hG1.1
    have hq : pIx (np (gV G)) q = true := by cases hq : pIx (np (gV G)) q with | true => rfl | false => rw [hq] at hqo; exact absurd (show false = true from hqo) (by decide)
    have ho : pIx (np (gV G)) o = true := by rw [hq] at hqo; exact hqo
    obtain ⟨k, hk1, rfl, hkn⟩ := pIx_of (by omega) hq
    obtain ⟨j, hj1, rfl, hjn⟩ := pIx_of (by omega) ho
    refine j_aload_n X (i := 0) dX10_mostMatches_13 rfl rfl ?_
    refine j_iload_n X (i := 1) dX10_mostMatches_14 rfl rfl ?_
    refine j_iload_n X (i := 2) dX10_mostMatches_15 rfl rfl ?_
    refine j_callV X (m_best hok hst hM (by omega) (w6 k hk1).2.2.2 (by omega) (w6 j hj1).2.2.2 hG1.2.2.2.2.2.2.2.2.2.2) i_X10_best tw_6_210 tw_6_212 tp_36 M0 rfl dX10_mostMatches_16 ?_ 
    exact j_iret X dX10_mostMatches_19 rfl rfl (mP_mk (by unfold a_most bstV; rw [qP_t (show (isPg G (nI k) && isPg G (nI j)) = true from hqo), pAt_nI hkn, pAt_nI hjn]) (by rw [bm_k _ _ _ (by decide) (by decide)]; exact c1) (hG1.best (bst_ok _ _)) (fun c hc => (bm_o _ _ _ (by omega)).trans (f1 c hc)))

theorem m_mostByPairs {l : Launch} {g : jG} (hok : jOk g) (hst : l.stackTraces = false) {z : Option Nat} {sk : jS} {t : jT} {M : Nat} (hM : isMod g sk M) {w : WB} {G : GS} (hG : RmG t M w G) (hK : okG G) (q o : Int32) : jMet l g mX10_mostMatchesByPairs 5 0 0 [.ref (jb g + M), .int q, .int o] z sk t (mP M w (a_most G q o) z sk t) := by
  refine j_body (lv := [some (.ref (jb g + M)), some (.int q), some (.int o)]) i_X10_mostMatchesByPairs hok hst (fun p e s m args below meth c X => ?_)
  obtain ⟨M0, M1, M2, M3, M4, M5, M6, M7⟩ := id hM
  obtain ⟨r1, r2, r3, r4, r5, r6, r7, r8, r9, r10, r11⟩ := id hG
  obtain ⟨u1, u2, u3, u4, u5, u6, u7⟩ := id r1
  obtain ⟨k1, k2, k3, k4, k5, k6, k7, k8⟩ := id hK.1
  refine j_aload_n X (i := 0) dX10_mostMatchesByPairs_0 rfl rfl ?_
  refine j_iload_n X (i := 1) dX10_mostMatchesByPairs_1 rfl rfl ?_
  refine j_iload_n X (i := 2) dX10_mostMatchesByPairs_2 rfl rfl ?_
  refine j_callV X (m_areNone hok hst hM u1 (by omega) q o) i_X10_areNone tw_6_206 tw_6_208 tp_35 M0 rfl dX10_mostMatchesByPairs_3 ?_ 
  cases hqo : (pIx (np (gV G)) q && pIx (np (gV G)) o) with
  | false =>
    refine j_if_eq X (tgt := 13) dX10_mostMatchesByPairs_6 (by decide) (fun q9 => absurd q9 (by decide)) (fun _ => ?_)
    refine j_iconst X (v := (nI 0)) dX10_mostMatchesByPairs_9 (by decide) ?_
    refine j_goto X (tgt := 19) dX10_mostMatchesByPairs_10 (by decide) ?_
    exact j_iret X dX10_mostMatchesByPairs_19 rfl rfl (mP_no hG (by unfold a_most; rw [qP_f (show (isPg G q && isPg G o) = false from hqo)]; rfl))
  | true =>
    refine j_if_eq X (tgt := 13) dX10_mostMatchesByPairs_6 (by decide) (fun _ => ?_) (fun q9 => absurd (rfl) q9)
    have hG1 := hG.jcode (nI (!true).toNat)
    have c1 : jU t M 7 (nI (!true).toNat) M 7 = nI 0 := by rw [jU_eq]; rfl
    have f1 : ∀ c, (c < M ∨ M + 8 ≤ c ∨ c = M + 4 ∨ c = M + 7) → jU t M 7 (nI (!true).toNat) c = t c := fun c hc => jU_ne _ _ _ (by omega)
    generalize jU t M 7 (nI (!true).toNat) = t1 at hG1 c1 f1 ⊢
    obtain ⟨w1, w2, w3, w4, w5, w6, w7⟩ := id hG1.1
    have hq : pIx (np (gV G)) q = true := by cases hq : pIx (np (gV G)) q with | true => rfl | false => rw [hq] at hqo; exact absurd (show false = true from hqo) (by decide)
    have ho : pIx (np (gV G)) o = true := by rw [hq] at hqo; exact hqo
    obtain ⟨k, hk1, rfl, hkn⟩ := pIx_of (by omega) hq
    obtain ⟨j, hj1, rfl, hjn⟩ := pIx_of (by omega) ho
    refine j_aload_n X (i := 0) dX10_mostMatchesByPairs_13 rfl rfl ?_
    refine j_iload_n X (i := 1) dX10_mostMatchesByPairs_14 rfl rfl ?_
    refine j_iload_n X (i := 2) dX10_mostMatchesByPairs_15 rfl rfl ?_
    refine j_callV X (m_best hok hst hM (by omega) (w6 k hk1).2.2.2 (by omega) (w6 j hj1).2.2.2 hG1.2.2.2.2.2.2.2.2.2.2) i_X10_best tw_6_210 tw_6_212 tp_36 M0 rfl dX10_mostMatchesByPairs_16 ?_ 
    exact j_iret X dX10_mostMatchesByPairs_19 rfl rfl (mP_mk (by unfold a_most bstV; rw [qP_t (show (isPg G (nI k) && isPg G (nI j)) = true from hqo), pAt_nI hkn, pAt_nI hjn]) (by rw [bm_k _ _ _ (by decide) (by decide)]; exact c1) (hG1.best (bst_ok _ _)) (fun c hc => (bm_o _ _ _ (by omega)).trans (f1 c hc)))

theorem m_bestShiftX {l : Launch} {g : jG} (hok : jOk g) (hst : l.stackTraces = false) {z : Option Nat} {sk : jS} {t : jT} {M : Nat} (hM : isMod g sk M) {w : WB} {G : GS} (hG : RmG t M w G) (hK : okG G) (q o : Int32) : jMet l g mX10_bestShiftX 5 0 0 [.ref (jb g + M), .int q, .int o] z sk t (mP M w (a_bestX G q o) z sk t) := by
  refine j_body (lv := [some (.ref (jb g + M)), some (.int q), some (.int o)]) i_X10_bestShiftX hok hst (fun p e s m args below meth c X => ?_)
  obtain ⟨M0, M1, M2, M3, M4, M5, M6, M7⟩ := id hM
  obtain ⟨r1, r2, r3, r4, r5, r6, r7, r8, r9, r10, r11⟩ := id hG
  obtain ⟨u1, u2, u3, u4, u5, u6, u7⟩ := id r1
  obtain ⟨k1, k2, k3, k4, k5, k6, k7, k8⟩ := id hK.1
  refine j_aload_n X (i := 0) dX10_bestShiftX_0 rfl rfl ?_
  refine j_iload_n X (i := 1) dX10_bestShiftX_1 rfl rfl ?_
  refine j_iload_n X (i := 2) dX10_bestShiftX_2 rfl rfl ?_
  refine j_callV X (m_areNone hok hst hM u1 (by omega) q o) i_X10_areNone tw_6_206 tw_6_208 tp_35 M0 rfl dX10_bestShiftX_3 ?_ 
  cases hqo : (pIx (np (gV G)) q && pIx (np (gV G)) o) with
  | false =>
    refine j_if_eq X (tgt := 11) dX10_bestShiftX_6 (by decide) (fun q9 => absurd q9 (by decide)) (fun _ => ?_)
    refine j_iconst X (v := (nI 0)) dX10_bestShiftX_9 (by decide) ?_
    exact j_iret X dX10_bestShiftX_10 rfl rfl (mP_no hG (by unfold a_bestX; rw [qP_f (show (isPg G q && isPg G o) = false from hqo)]; rfl))
  | true =>
    refine j_if_eq X (tgt := 11) dX10_bestShiftX_6 (by decide) (fun _ => ?_) (fun q9 => absurd (rfl) q9)
    have hG1 := hG.jcode (nI (!true).toNat)
    have c1 : jU t M 7 (nI (!true).toNat) M 7 = nI 0 := by rw [jU_eq]; rfl
    have f1 : ∀ c, (c < M ∨ M + 8 ≤ c ∨ c = M + 4 ∨ c = M + 7) → jU t M 7 (nI (!true).toNat) c = t c := fun c hc => jU_ne _ _ _ (by omega)
    generalize jU t M 7 (nI (!true).toNat) = t1 at hG1 c1 f1 ⊢
    obtain ⟨w1, w2, w3, w4, w5, w6, w7⟩ := id hG1.1
    have hq : pIx (np (gV G)) q = true := by cases hq : pIx (np (gV G)) q with | true => rfl | false => rw [hq] at hqo; exact absurd (show false = true from hqo) (by decide)
    have ho : pIx (np (gV G)) o = true := by rw [hq] at hqo; exact hqo
    obtain ⟨k, hk1, rfl, hkn⟩ := pIx_of (by omega) hq
    obtain ⟨j, hj1, rfl, hjn⟩ := pIx_of (by omega) ho
    refine j_aload_n X (i := 0) dX10_bestShiftX_11 rfl rfl ?_
    refine j_iload_n X (i := 1) dX10_bestShiftX_12 rfl rfl ?_
    refine j_iload_n X (i := 2) dX10_bestShiftX_13 rfl rfl ?_
    refine j_callV X (m_best hok hst hM (by omega) (w6 k hk1).2.2.2 (by omega) (w6 j hj1).2.2.2 hG1.2.2.2.2.2.2.2.2.2.2) i_X10_best tw_6_210 tw_6_212 tp_36 M0 rfl dX10_bestShiftX_14 ?_ 
    refine j_pop X dX10_bestShiftX_17 rfl ?_
    refine j_aload_n X (i := 0) dX10_bestShiftX_18 rfl rfl ?_
    refine jFd.get X fd_X10_118 M0 rfl dX10_bestShiftX_19 ?_
    rw [bm_16]
    exact j_iret X dX10_bestShiftX_22 rfl rfl (mP_mk (by unfold a_bestX bstV; rw [qP_t (show (isPg G (nI k) && isPg G (nI j)) = true from hqo), pAt_nI hkn, pAt_nI hjn]) (by rw [bm_k _ _ _ (by decide) (by decide)]; exact c1) (hG1.best (bst_ok _ _)) (fun c hc => (bm_o _ _ _ (by omega)).trans (f1 c hc)))

theorem m_bestShiftY {l : Launch} {g : jG} (hok : jOk g) (hst : l.stackTraces = false) {z : Option Nat} {sk : jS} {t : jT} {M : Nat} (hM : isMod g sk M) {w : WB} {G : GS} (hG : RmG t M w G) (hK : okG G) (q o : Int32) : jMet l g mX10_bestShiftY 5 0 0 [.ref (jb g + M), .int q, .int o] z sk t (mP M w (a_bestY G q o) z sk t) := by
  refine j_body (lv := [some (.ref (jb g + M)), some (.int q), some (.int o)]) i_X10_bestShiftY hok hst (fun p e s m args below meth c X => ?_)
  obtain ⟨M0, M1, M2, M3, M4, M5, M6, M7⟩ := id hM
  obtain ⟨r1, r2, r3, r4, r5, r6, r7, r8, r9, r10, r11⟩ := id hG
  obtain ⟨u1, u2, u3, u4, u5, u6, u7⟩ := id r1
  obtain ⟨k1, k2, k3, k4, k5, k6, k7, k8⟩ := id hK.1
  refine j_aload_n X (i := 0) dX10_bestShiftY_0 rfl rfl ?_
  refine j_iload_n X (i := 1) dX10_bestShiftY_1 rfl rfl ?_
  refine j_iload_n X (i := 2) dX10_bestShiftY_2 rfl rfl ?_
  refine j_callV X (m_areNone hok hst hM u1 (by omega) q o) i_X10_areNone tw_6_206 tw_6_208 tp_35 M0 rfl dX10_bestShiftY_3 ?_ 
  cases hqo : (pIx (np (gV G)) q && pIx (np (gV G)) o) with
  | false =>
    refine j_if_eq X (tgt := 11) dX10_bestShiftY_6 (by decide) (fun q9 => absurd q9 (by decide)) (fun _ => ?_)
    refine j_iconst X (v := (nI 0)) dX10_bestShiftY_9 (by decide) ?_
    exact j_iret X dX10_bestShiftY_10 rfl rfl (mP_no hG (by unfold a_bestY; rw [qP_f (show (isPg G q && isPg G o) = false from hqo)]; rfl))
  | true =>
    refine j_if_eq X (tgt := 11) dX10_bestShiftY_6 (by decide) (fun _ => ?_) (fun q9 => absurd (rfl) q9)
    have hG1 := hG.jcode (nI (!true).toNat)
    have c1 : jU t M 7 (nI (!true).toNat) M 7 = nI 0 := by rw [jU_eq]; rfl
    have f1 : ∀ c, (c < M ∨ M + 8 ≤ c ∨ c = M + 4 ∨ c = M + 7) → jU t M 7 (nI (!true).toNat) c = t c := fun c hc => jU_ne _ _ _ (by omega)
    generalize jU t M 7 (nI (!true).toNat) = t1 at hG1 c1 f1 ⊢
    obtain ⟨w1, w2, w3, w4, w5, w6, w7⟩ := id hG1.1
    have hq : pIx (np (gV G)) q = true := by cases hq : pIx (np (gV G)) q with | true => rfl | false => rw [hq] at hqo; exact absurd (show false = true from hqo) (by decide)
    have ho : pIx (np (gV G)) o = true := by rw [hq] at hqo; exact hqo
    obtain ⟨k, hk1, rfl, hkn⟩ := pIx_of (by omega) hq
    obtain ⟨j, hj1, rfl, hjn⟩ := pIx_of (by omega) ho
    refine j_aload_n X (i := 0) dX10_bestShiftY_11 rfl rfl ?_
    refine j_iload_n X (i := 1) dX10_bestShiftY_12 rfl rfl ?_
    refine j_iload_n X (i := 2) dX10_bestShiftY_13 rfl rfl ?_
    refine j_callV X (m_best hok hst hM (by omega) (w6 k hk1).2.2.2 (by omega) (w6 j hj1).2.2.2 hG1.2.2.2.2.2.2.2.2.2.2) i_X10_best tw_6_210 tw_6_212 tp_36 M0 rfl dX10_bestShiftY_14 ?_ 
    refine j_pop X dX10_bestShiftY_17 rfl ?_
    refine j_aload_n X (i := 0) dX10_bestShiftY_18 rfl rfl ?_
    refine jFd.get X fd_X10_121 M0 rfl dX10_bestShiftY_19 ?_
    rw [bm_17]
    exact j_iret X dX10_bestShiftY_22 rfl rfl (mP_mk (by unfold a_bestY bstV; rw [qP_t (show (isPg G (nI k) && isPg G (nI j)) = true from hqo), pAt_nI hkn, pAt_nI hjn]) (by rw [bm_k _ _ _ (by decide) (by decide)]; exact c1) (hG1.best (bst_ok _ _)) (fun c hc => (bm_o _ _ _ (by omega)).trans (f1 c hc)))

