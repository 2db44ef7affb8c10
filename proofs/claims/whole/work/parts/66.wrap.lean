/-- what a wrapper leaves: the place of what was thrown, the answer in its row -/
def wP (cv : Int32 → Int64) (r : AN) (sk : jS) (t : jT) : Option Value → Option Nat → jS → jT → Prop := fun v2 _ sk2 t2 => v2 = some (.int (nI r.1)) ∧ (∃ a, sk2 462 = some (kL 1 a) ∧ (nI r.1 = 0 → a 0 = cv r.2.1)) ∧ (∀ c, c ≠ 462 → sk2 c = sk c) ∧ RcG t2 r.2.2 ∧ ∀ c, 454 ≤ c → t2 c = t c
def wD (n : Nat) (val : UInt64) (G : GS) (sk : jS) (t : jT) : Option Value → Option Nat → jS → jT → Prop := fun v2 _ sk2 t2 => v2 = some (.int (nI n)) ∧ (∃ a, sk2 463 = some (kD 1 a) ∧ (nI n = 0 → a 0 = val)) ∧ (∀ c, c ≠ 463 → sk2 c = sk c) ∧ RcG t2 G ∧ ∀ c, 454 ≤ c → t2 c = t c
def cvB (v : Int32) : Int64 := if v = 0 then 0 else 1
theorem fp_fd : ∀ a, a < 9 → ∀ b, b < 9 → 0 < b → vf_n64 (FP.f2d (FP.fdiv (FP.i2f (nI a)) (FP.i2f (nI b)))) := by
  unfold vf_n64
  decide +kernel
theorem frac_n {G : GS} (hK : okG G) (h : a_meanN G = 0) : vf_n64 (FP.f2d (a_frac G)) := by
  have h0 : ¬ ns (gV G) = 0 := fun q => by unfold a_meanN at h; rw [if_pos q] at h; cases h
  have h8 := hK.1.2.1
  have h1 : smC (gV G) ≤ ns (gV G) := fb_ct_le _ _
  unfold a_frac
  rw [if_neg h0]
  exact fp_fd _ (by omega) _ (by omega) (by omega)
theorem iw_addPlate : jCaW mL_addPlate [(0, 9, 12, 13), (0, 9, 15, 15)] 3 := ⟨tw_2_182, tw_1_0, ⟨by decide, by decide⟩, by decide +kernel, by decide +kernel⟩
theorem w_addPlate {l : Launch} {g : jG} (hok : jOk g) (hst : l.stackTraces = false) {z : Option Nat} {sk : jS} {t : jT} {kw : Nat → Nat} (hP : isPr g kw sk) {G : GS} (hG : RcG t G) (hK : okG G) {a0 : Nat → Int64} (hO : sk 462 = some (kL 1 a0)) (x : Int32) : jMetW l g mL_addPlate [(0, 9, 12, 13), (0, 9, 15, 15)] 10 3 18 [.ref (jb g + 0), .int x, .ref (jb g + 462)] z sk t (wP Int32.toInt64 (a_addPlate false G x) sk t) := by
  obtain ⟨P0, P1, P2, P3, P4, P5, P6, P7, P8⟩ := id hP
  refine j_bodyW (lv := [some (.ref (jb g + 0)), some (.int x), some (.ref (jb g + 462)), none]) iw_addPlate hok hst (fun p e s m args below meth c X => ?_)
  refine j_aload_n X (i := 2) dL_addPlate_0 rfl rfl ?_
  refine j_iconst X (v := (nI 0)) dL_addPlate_1 (by decide) ?_
  refine j_aload_n X (i := 0) dL_addPlate_2 rfl rfl ?_
  refine j_iload_n X (i := 1) dL_addPlate_3 rfl rfl ?_
  refine j_callVX_p X (f_addPlate hok hst hP hG hK x) i_X9_addPlate tw_2_185 tw_2_186 tw_2_187 P0 rfl dL_addPlate_4 (fun v2 z2 sk2 t2 hp => ?_) (fun E z2 sk2 t2 hp => ?_)
  · obtain ⟨h0, rfl, rfl, rfl, hG2, hf⟩ := hp
    refine j_i2l X dL_addPlate_7 rfl ?_
    refine j_lastore X hO rfl ⟨by decide, by decide⟩ dL_addPlate_8 ?_
    refine j_goto X (tgt := 18) dL_addPlate_9 (by decide) ?_
    refine j_iconst X (v := (nI 0)) dL_addPlate_18 (by decide) ?_
    exact j_iret_x X dL_addPlate_19 rfl rfl ⟨by rw [h0], ⟨_, jN_eq _ _ _, fun _ => if_pos rfl⟩, fun c hc => jN_ne _ _ hc, hG2, hf⟩
  · obtain ⟨h0, hE, rfl, rfl, hG2, hf⟩ := hp
    obtain ⟨i, hi⟩ : ∃ i, (a_addPlate false G x).1 = i + 1 := ⟨_, (Nat.succ_pred_eq_of_pos h0).symm⟩
    rw [hi] at hE
    match i, hE, hi with
    | 0, hE, hi =>
      cases hE
      refine j_catch X [] ⟨0, 9, 12, 13⟩ [⟨0, 9, 15, 15⟩] rfl (fun z9 h9 => nomatch h9) (by decide) (by decide) tw_2_183 tw_3_46 (pc2 := 12) rfl (fun q9 => ?_)
      refine j_astore_n X (i := 3) dL_addPlate_12 rfl (by decide) rfl ?_
      refine j_iconst X (v := (nI 1)) dL_addPlate_13 (by decide) ?_
      exact j_iret_x X dL_addPlate_14 rfl rfl ⟨by rw [hi], ⟨_, hO, fun h9 => absurd ((congrArg nI hi).symm.trans h9) (by decide)⟩, fun _ _ => rfl, hG2, hf⟩
    | 1, hE, hi =>
      cases hE
      refine j_catch X [⟨0, 9, 12, 13⟩] ⟨0, 9, 15, 15⟩ [] rfl (List.forall_mem_cons.mpr ⟨ps_IS_IA _ _ _, fun z9 h9 => nomatch h9⟩) (by decide) (by decide) tw_2_184 tw_3_62 (pc2 := 15) rfl (fun q9 => ?_)
      refine j_astore_n X (i := 3) dL_addPlate_15 rfl (by decide) rfl ?_
      refine j_iconst X (v := (nI 2)) dL_addPlate_16 (by decide) ?_
      exact j_iret_x X dL_addPlate_17 rfl rfl ⟨by rw [hi], ⟨_, hO, fun h9 => absurd ((congrArg nI hi).symm.trans h9) (by decide)⟩, fun _ _ => rfl, hG2, hf⟩
    | i9 + 2, hE, hi => cases hE
theorem iw_addStar : jCaW mL_addStar [(0, 12, 15, 21), (0, 12, 19, 13), (0, 12, 23, 15)] 5 := ⟨tw_3_114, tw_1_0, ⟨by decide, by decide⟩, by decide +kernel, by decide +kernel⟩
theorem w_addStar {l : Launch} {g : jG} (hok : jOk g) (hst : l.stackTraces = false) {z : Option Nat} {sk : jS} {t : jT} {kw : Nat → Nat} (hP : isPr g kw sk) {G : GS} (hG : RcG t G) (hK : okG G) {a0 : Nat → Int64} (hO : sk 462 = some (kL 1 a0)) (q x y : Int32) : jMetW l g mL_addStar [(0, 12, 15, 21), (0, 12, 19, 13), (0, 12, 23, 15)] 10 3 18 [.ref (jb g + 0), .int q, .int x, .int y, .ref (jb g + 462)] z sk t (wP Int32.toInt64 (a_addStar false G q x y) sk t) := by
  obtain ⟨P0, P1, P2, P3, P4, P5, P6, P7, P8⟩ := id hP
  refine j_bodyW (lv := [some (.ref (jb g + 0)), some (.int q), some (.int x), some (.int y), some (.ref (jb g + 462)), none]) iw_addStar hok hst (fun p e s m args below meth c X => ?_)
  refine j_aload X (i := 4) dL_addStar_0 rfl ?_
  refine j_iconst X (v := (nI 0)) dL_addStar_2 (by decide) ?_
  refine j_aload_n X (i := 0) dL_addStar_3 rfl rfl ?_
  refine j_iload_n X (i := 1) dL_addStar_4 rfl rfl ?_
  refine j_iload_n X (i := 2) dL_addStar_5 rfl rfl ?_
  refine j_iload_n X (i := 3) dL_addStar_6 rfl rfl ?_
  refine j_callVX_p X (f_addStar hok hst hP hG hK q x y) i_X9_addStar tw_3_136 tw_3_137 tw_3_138 P0 rfl dL_addStar_7 (fun v2 z2 sk2 t2 hp => ?_) (fun E z2 sk2 t2 hp => ?_)
  · obtain ⟨h0, rfl, rfl, rfl, hG2, hf⟩ := hp
    refine j_i2l X dL_addStar_10 rfl ?_
    refine j_lastore X hO rfl ⟨by decide, by decide⟩ dL_addStar_11 ?_
    refine j_goto X (tgt := 27) dL_addStar_12 (by decide) ?_
    refine j_iconst X (v := (nI 0)) dL_addStar_27 (by decide) ?_
    exact j_iret_x X dL_addStar_28 rfl rfl ⟨by rw [h0], ⟨_, jN_eq _ _ _, fun _ => if_pos rfl⟩, fun c hc => jN_ne _ _ hc, hG2, hf⟩
  · obtain ⟨h0, hE, rfl, rfl, hG2, hf⟩ := hp
    obtain ⟨i, hi⟩ : ∃ i, (a_addStar false G q x y).1 = i + 1 := ⟨_, (Nat.succ_pred_eq_of_pos h0).symm⟩
    rw [hi] at hE
    match i, hE, hi with
    | 0, hE, hi =>
      cases hE
      refine j_catch X [] ⟨0, 12, 15, 21⟩ [⟨0, 12, 19, 13⟩, ⟨0, 12, 23, 15⟩] rfl (fun z9 h9 => nomatch h9) (by decide) (by decide) tw_3_115 tw_2_214 (pc2 := 15) rfl (fun q9 => ?_)
      refine j_astore X (i := 5) dL_addStar_15 (by decide) rfl ?_
      refine j_iconst X (v := (nI 1)) dL_addStar_17 (by decide) ?_
      exact j_iret_x X dL_addStar_18 rfl rfl ⟨by rw [hi], ⟨_, hO, fun h9 => absurd ((congrArg nI hi).symm.trans h9) (by decide)⟩, fun _ _ => rfl, hG2, hf⟩
    | 1, hE, hi =>
      cases hE
      refine j_catch X [⟨0, 12, 15, 21⟩] ⟨0, 12, 19, 13⟩ [⟨0, 12, 23, 15⟩] rfl (List.forall_mem_cons.mpr ⟨ps_IA_IO _ _ _, fun z9 h9 => nomatch h9⟩) (by decide) (by decide) tw_2_183 tw_3_46 (pc2 := 19) rfl (fun q9 => ?_)
      refine j_astore X (i := 5) dL_addStar_19 (by decide) rfl ?_
      refine j_iconst X (v := (nI 2)) dL_addStar_21 (by decide) ?_
      exact j_iret_x X dL_addStar_22 rfl rfl ⟨by rw [hi], ⟨_, hO, fun h9 => absurd ((congrArg nI hi).symm.trans h9) (by decide)⟩, fun _ _ => rfl, hG2, hf⟩
    | 2, hE, hi =>
      cases hE
      refine j_catch X [⟨0, 12, 15, 21⟩, ⟨0, 12, 19, 13⟩] ⟨0, 12, 23, 15⟩ [] rfl (List.forall_mem_cons.mpr ⟨ps_IS_IO _ _ _, List.forall_mem_cons.mpr ⟨ps_IS_IA _ _ _, fun z9 h9 => nomatch h9⟩⟩) (by decide) (by decide) tw_2_184 tw_3_62 (pc2 := 23) rfl (fun q9 => ?_)
      refine j_astore X (i := 5) dL_addStar_23 (by decide) rfl ?_
      refine j_iconst X (v := (nI 3)) dL_addStar_25 (by decide) ?_
      exact j_iret_x X dL_addStar_26 rfl rfl ⟨by rw [hi], ⟨_, hO, fun h9 => absurd ((congrArg nI hi).symm.trans h9) (by decide)⟩, fun _ _ => rfl, hG2, hf⟩
    | i9 + 3, hE, hi => cases hE
theorem iw_removeStar : jCaW mL_removeStar [(0, 12, 15, 21), (0, 12, 19, 13), (0, 12, 23, 26)] 5 := ⟨tw_3_160, tw_1_0, ⟨by decide, by decide⟩, by decide +kernel, by decide +kernel⟩
theorem w_removeStar {l : Launch} {g : jG} (hok : jOk g) (hst : l.stackTraces = false) {z : Option Nat} {sk : jS} {t : jT} {kw : Nat → Nat} (hP : isPr g kw sk) {G : GS} (hG : RcG t G) (hK : okG G) {a0 : Nat → Int64} (hO : sk 462 = some (kL 1 a0)) (q x y : Int32) : jMetW l g mL_removeStar [(0, 12, 15, 21), (0, 12, 19, 13), (0, 12, 23, 26)] 10 3 18 [.ref (jb g + 0), .int q, .int x, .int y, .ref (jb g + 462)] z sk t (wP Int32.toInt64 (a_removeStar false G q x y) sk t) := by
  obtain ⟨P0, P1, P2, P3, P4, P5, P6, P7, P8⟩ := id hP
  refine j_bodyW (lv := [some (.ref (jb g + 0)), some (.int q), some (.int x), some (.int y), some (.ref (jb g + 462)), none]) iw_removeStar hok hst (fun p e s m args below meth c X => ?_)
  refine j_aload X (i := 4) dL_removeStar_0 rfl ?_
  refine j_iconst X (v := (nI 0)) dL_removeStar_2 (by decide) ?_
  refine j_aload_n X (i := 0) dL_removeStar_3 rfl rfl ?_
  refine j_iload_n X (i := 1) dL_removeStar_4 rfl rfl ?_
  refine j_iload_n X (i := 2) dL_removeStar_5 rfl rfl ?_
  refine j_iload_n X (i := 3) dL_removeStar_6 rfl rfl ?_
  refine j_callVX_p X (f_removeStar hok hst hP hG hK q x y) i_X9_removeStar tw_3_162 tw_3_163 tw_3_164 P0 rfl dL_removeStar_7 (fun v2 z2 sk2 t2 hp => ?_) (fun E z2 sk2 t2 hp => ?_)
  · obtain ⟨h0, rfl, rfl, rfl, hG2, hf⟩ := hp
    refine j_i2l X dL_removeStar_10 rfl ?_
    refine j_lastore X hO rfl ⟨by decide, by decide⟩ dL_removeStar_11 ?_
    refine j_goto X (tgt := 27) dL_removeStar_12 (by decide) ?_
    refine j_iconst X (v := (nI 0)) dL_removeStar_27 (by decide) ?_
    exact j_iret_x X dL_removeStar_28 rfl rfl ⟨by rw [h0], ⟨_, jN_eq _ _ _, fun _ => if_pos rfl⟩, fun c hc => jN_ne _ _ hc, hG2, hf⟩
  · obtain ⟨h0, hE, rfl, rfl, hG2, hf⟩ := hp
    obtain ⟨i, hi⟩ : ∃ i, (a_removeStar false G q x y).1 = i + 1 := ⟨_, (Nat.succ_pred_eq_of_pos h0).symm⟩
    rw [hi] at hE
    match i, hE, hi with
    | 0, hE, hi =>
      cases hE
      refine j_catch X [] ⟨0, 12, 15, 21⟩ [⟨0, 12, 19, 13⟩, ⟨0, 12, 23, 26⟩] rfl (fun z9 h9 => nomatch h9) (by decide) (by decide) tw_3_115 tw_2_214 (pc2 := 15) rfl (fun q9 => ?_)
      refine j_astore X (i := 5) dL_removeStar_15 (by decide) rfl ?_
      refine j_iconst X (v := (nI 1)) dL_removeStar_17 (by decide) ?_
      exact j_iret_x X dL_removeStar_18 rfl rfl ⟨by rw [hi], ⟨_, hO, fun h9 => absurd ((congrArg nI hi).symm.trans h9) (by decide)⟩, fun _ _ => rfl, hG2, hf⟩
    | 1, hE, hi =>
      cases hE
      refine j_catch X [⟨0, 12, 15, 21⟩] ⟨0, 12, 19, 13⟩ [⟨0, 12, 23, 26⟩] rfl (List.forall_mem_cons.mpr ⟨ps_IA_IO _ _ _, fun z9 h9 => nomatch h9⟩) (by decide) (by decide) tw_2_183 tw_3_46 (pc2 := 19) rfl (fun q9 => ?_)
      refine j_astore X (i := 5) dL_removeStar_19 (by decide) rfl ?_
      refine j_iconst X (v := (nI 2)) dL_removeStar_21 (by decide) ?_
      exact j_iret_x X dL_removeStar_22 rfl rfl ⟨by rw [hi], ⟨_, hO, fun h9 => absurd ((congrArg nI hi).symm.trans h9) (by decide)⟩, fun _ _ => rfl, hG2, hf⟩
    | 2, hE, hi =>
      cases hE
      refine j_catch X [⟨0, 12, 15, 21⟩, ⟨0, 12, 19, 13⟩] ⟨0, 12, 23, 26⟩ [] rfl (List.forall_mem_cons.mpr ⟨ps_NS_IO _ _ _, List.forall_mem_cons.mpr ⟨ps_NS_IA _ _ _, fun z9 h9 => nomatch h9⟩⟩) (by decide) (by decide) tw_3_161 tw_3_78 (pc2 := 23) rfl (fun q9 => ?_)
      refine j_astore X (i := 5) dL_removeStar_23 (by decide) rfl ?_
      refine j_iconst X (v := (nI 3)) dL_removeStar_25 (by decide) ?_
      exact j_iret_x X dL_removeStar_26 rfl rfl ⟨by rw [hi], ⟨_, hO, fun h9 => absurd ((congrArg nI hi).symm.trans h9) (by decide)⟩, fun _ _ => rfl, hG2, hf⟩
    | i9 + 3, hE, hi => cases hE
theorem iw_setShift : jCaW mL_setShift [(0, 12, 15, 21), (0, 12, 19, 13)] 5 := ⟨tw_3_172, tw_1_0, ⟨by decide, by decide⟩, by decide +kernel, by decide +kernel⟩
theorem w_setShift {l : Launch} {g : jG} (hok : jOk g) (hst : l.stackTraces = false) {z : Option Nat} {sk : jS} {t : jT} {kw : Nat → Nat} (hP : isPr g kw sk) {G : GS} (hG : RcG t G) (hK : okG G) {a0 : Nat → Int64} (hO : sk 462 = some (kL 1 a0)) (q x y : Int32) : jMetW l g mL_setShift [(0, 12, 15, 21), (0, 12, 19, 13)] 10 3 18 [.ref (jb g + 0), .int q, .int x, .int y, .ref (jb g + 462)] z sk t (wP Int32.toInt64 (a_setShift false G q x y) sk t) := by
  obtain ⟨P0, P1, P2, P3, P4, P5, P6, P7, P8⟩ := id hP
  refine j_bodyW (lv := [some (.ref (jb g + 0)), some (.int q), some (.int x), some (.int y), some (.ref (jb g + 462)), none]) iw_setShift hok hst (fun p e s m args below meth c X => ?_)
  refine j_aload X (i := 4) dL_setShift_0 rfl ?_
  refine j_iconst X (v := (nI 0)) dL_setShift_2 (by decide) ?_
  refine j_aload_n X (i := 0) dL_setShift_3 rfl rfl ?_
  refine j_iload_n X (i := 1) dL_setShift_4 rfl rfl ?_
  refine j_iload_n X (i := 2) dL_setShift_5 rfl rfl ?_
  refine j_iload_n X (i := 3) dL_setShift_6 rfl rfl ?_
  refine j_callVX_p X (f_setShift hok hst hP hG hK q x y) i_X9_setShift tw_3_173 tw_3_174 tw_3_175 P0 rfl dL_setShift_7 (fun v2 z2 sk2 t2 hp => ?_) (fun E z2 sk2 t2 hp => ?_)
  · obtain ⟨h0, rfl, rfl, rfl, hG2, hf⟩ := hp
    refine j_i2l X dL_setShift_10 rfl ?_
    refine j_lastore X hO rfl ⟨by decide, by decide⟩ dL_setShift_11 ?_
    refine j_goto X (tgt := 23) dL_setShift_12 (by decide) ?_
    refine j_iconst X (v := (nI 0)) dL_setShift_23 (by decide) ?_
    exact j_iret_x X dL_setShift_24 rfl rfl ⟨by rw [h0], ⟨_, jN_eq _ _ _, fun _ => if_pos rfl⟩, fun c hc => jN_ne _ _ hc, hG2, hf⟩
  · obtain ⟨h0, hE, rfl, rfl, hG2, hf⟩ := hp
    obtain ⟨i, hi⟩ : ∃ i, (a_setShift false G q x y).1 = i + 1 := ⟨_, (Nat.succ_pred_eq_of_pos h0).symm⟩
    rw [hi] at hE
    match i, hE, hi with
    | 0, hE, hi =>
      cases hE
      refine j_catch X [] ⟨0, 12, 15, 21⟩ [⟨0, 12, 19, 13⟩] rfl (fun z9 h9 => nomatch h9) (by decide) (by decide) tw_3_115 tw_2_214 (pc2 := 15) rfl (fun q9 => ?_)
      refine j_astore X (i := 5) dL_setShift_15 (by decide) rfl ?_
      refine j_iconst X (v := (nI 1)) dL_setShift_17 (by decide) ?_
      exact j_iret_x X dL_setShift_18 rfl rfl ⟨by rw [hi], ⟨_, hO, fun h9 => absurd ((congrArg nI hi).symm.trans h9) (by decide)⟩, fun _ _ => rfl, hG2, hf⟩
    | 1, hE, hi =>
      cases hE
      refine j_catch X [⟨0, 12, 15, 21⟩] ⟨0, 12, 19, 13⟩ [] rfl (List.forall_mem_cons.mpr ⟨ps_IA_IO _ _ _, fun z9 h9 => nomatch h9⟩) (by decide) (by decide) tw_2_183 tw_3_46 (pc2 := 19) rfl (fun q9 => ?_)
      refine j_astore X (i := 5) dL_setShift_19 (by decide) rfl ?_
      refine j_iconst X (v := (nI 2)) dL_setShift_21 (by decide) ?_
      exact j_iret_x X dL_setShift_22 rfl rfl ⟨by rw [hi], ⟨_, hO, fun h9 => absurd ((congrArg nI hi).symm.trans h9) (by decide)⟩, fun _ _ => rfl, hG2, hf⟩
    | i9 + 2, hE, hi => cases hE
theorem iw_fit : jCaW mL_fit [(0, 10, 13, 21), (0, 10, 17, 13)] 4 := ⟨tw_3_189, tw_1_0, ⟨by decide, by decide⟩, by decide +kernel, by decide +kernel⟩
theorem w_fit {l : Launch} {g : jG} (hok : jOk g) (hst : l.stackTraces = false) {z : Option Nat} {sk : jS} {t : jT} {kw : Nat → Nat} (hP : isPr g kw sk) {G : GS} (hG : RcG t G) (hK : okG G) {a0 : Nat → Int64} (hO : sk 462 = some (kL 1 a0)) (q o : Int32) : jMetW l g mL_fit [(0, 10, 13, 21), (0, 10, 17, 13)] 10 3 18 [.ref (jb g + 0), .int q, .int o, .ref (jb g + 462)] z sk t (wP Int32.toInt64 (a_fit false G q o) sk t) := by
  obtain ⟨P0, P1, P2, P3, P4, P5, P6, P7, P8⟩ := id hP
  refine j_bodyW (lv := [some (.ref (jb g + 0)), some (.int q), some (.int o), some (.ref (jb g + 462)), none]) iw_fit hok hst (fun p e s m args below meth c X => ?_)
  refine j_aload_n X (i := 3) dL_fit_0 rfl rfl ?_
  refine j_iconst X (v := (nI 0)) dL_fit_1 (by decide) ?_
  refine j_aload_n X (i := 0) dL_fit_2 rfl rfl ?_
  refine j_iload_n X (i := 1) dL_fit_3 rfl rfl ?_
  refine j_iload_n X (i := 2) dL_fit_4 rfl rfl ?_
  refine j_callVX_p X (f_fit hok hst hP hG hK q o) i_X9_fit tw_3_190 tw_3_191 tw_3_192 P0 rfl dL_fit_5 (fun v2 z2 sk2 t2 hp => ?_) (fun E z2 sk2 t2 hp => ?_)
  · obtain ⟨h0, rfl, rfl, rfl, hG2, hf⟩ := hp
    refine j_i2l X dL_fit_8 rfl ?_
    refine j_lastore X hO rfl ⟨by decide, by decide⟩ dL_fit_9 ?_
    refine j_goto X (tgt := 21) dL_fit_10 (by decide) ?_
    refine j_iconst X (v := (nI 0)) dL_fit_21 (by decide) ?_
    exact j_iret_x X dL_fit_22 rfl rfl ⟨by rw [h0], ⟨_, jN_eq _ _ _, fun _ => if_pos rfl⟩, fun c hc => jN_ne _ _ hc, hG2, hf⟩
  · obtain ⟨h0, hE, rfl, rfl, hG2, hf⟩ := hp
    obtain ⟨i, hi⟩ : ∃ i, (a_fit false G q o).1 = i + 1 := ⟨_, (Nat.succ_pred_eq_of_pos h0).symm⟩
    rw [hi] at hE
    match i, hE, hi with
    | 0, hE, hi =>
      cases hE
      refine j_catch X [] ⟨0, 10, 13, 21⟩ [⟨0, 10, 17, 13⟩] rfl (fun z9 h9 => nomatch h9) (by decide) (by decide) tw_3_115 tw_2_214 (pc2 := 13) rfl (fun q9 => ?_)
      refine j_astore X (i := 4) dL_fit_13 (by decide) rfl ?_
      refine j_iconst X (v := (nI 1)) dL_fit_15 (by decide) ?_
      exact j_iret_x X dL_fit_16 rfl rfl ⟨by rw [hi], ⟨_, hO, fun h9 => absurd ((congrArg nI hi).symm.trans h9) (by decide)⟩, fun _ _ => rfl, hG2, hf⟩
    | 1, hE, hi =>
      cases hE
      refine j_catch X [⟨0, 10, 13, 21⟩] ⟨0, 10, 17, 13⟩ [] rfl (List.forall_mem_cons.mpr ⟨ps_IA_IO _ _ _, fun z9 h9 => nomatch h9⟩) (by decide) (by decide) tw_2_183 tw_3_46 (pc2 := 17) rfl (fun q9 => ?_)
      refine j_astore X (i := 4) dL_fit_17 (by decide) rfl ?_
      refine j_iconst X (v := (nI 2)) dL_fit_19 (by decide) ?_
      exact j_iret_x X dL_fit_20 rfl rfl ⟨by rw [hi], ⟨_, hO, fun h9 => absurd ((congrArg nI hi).symm.trans h9) (by decide)⟩, fun _ _ => rfl, hG2, hf⟩
    | i9 + 2, hE, hi => cases hE
theorem iw_inkOf : jCaW mL_inkOf [(0, 9, 12, 21)] 3 := ⟨tw_3_201, tw_1_0, ⟨by decide, by decide⟩, by decide +kernel, by decide +kernel⟩
theorem w_inkOf {l : Launch} {g : jG} (hok : jOk g) (hst : l.stackTraces = false) {z : Option Nat} {sk : jS} {t : jT} {kw : Nat → Nat} (hP : isPr g kw sk) {G : GS} (hG : RcG t G) (hK : okG G) {a0 : Nat → Int64} (hO : sk 462 = some (kL 1 a0)) (q : Int32) : jMetW l g mL_inkOf [(0, 9, 12, 21)] 10 3 18 [.ref (jb g + 0), .int q, .ref (jb g + 462)] z sk t (wP Int32.toInt64 (a_inkOf G q) sk t) := by
  obtain ⟨P0, P1, P2, P3, P4, P5, P6, P7, P8⟩ := id hP
  refine j_bodyW (lv := [some (.ref (jb g + 0)), some (.int q), some (.ref (jb g + 462)), none]) iw_inkOf hok hst (fun p e s m args below meth c X => ?_)
  refine j_aload_n X (i := 2) dL_inkOf_0 rfl rfl ?_
  refine j_iconst X (v := (nI 0)) dL_inkOf_1 (by decide) ?_
  refine j_aload_n X (i := 0) dL_inkOf_2 rfl rfl ?_
  refine j_iload_n X (i := 1) dL_inkOf_3 rfl rfl ?_
  refine j_callVX_p X (f_inkOf hok hst hP hG hK q) i_X9_inkOf tw_3_202 tw_3_203 tw_3_204 P0 rfl dL_inkOf_4 (fun v2 z2 sk2 t2 hp => ?_) (fun E z2 sk2 t2 hp => ?_)
  · obtain ⟨h0, rfl, rfl, rfl, hG2, hf⟩ := hp
    refine j_i2l X dL_inkOf_7 rfl ?_
    refine j_lastore X hO rfl ⟨by decide, by decide⟩ dL_inkOf_8 ?_
    refine j_goto X (tgt := 15) dL_inkOf_9 (by decide) ?_
    refine j_iconst X (v := (nI 0)) dL_inkOf_15 (by decide) ?_
    exact j_iret_x X dL_inkOf_16 rfl rfl ⟨by rw [h0], ⟨_, jN_eq _ _ _, fun _ => if_pos rfl⟩, fun c hc => jN_ne _ _ hc, hG2, hf⟩
  · obtain ⟨h0, hE, rfl, rfl, hG2, hf⟩ := hp
    obtain ⟨i, hi⟩ : ∃ i, (a_inkOf G q).1 = i + 1 := ⟨_, (Nat.succ_pred_eq_of_pos h0).symm⟩
    rw [hi] at hE
    match i, hE, hi with
    | 0, hE, hi =>
      cases hE
      refine j_catch X [] ⟨0, 9, 12, 21⟩ [] rfl (fun z9 h9 => nomatch h9) (by decide) (by decide) tw_3_115 tw_2_214 (pc2 := 12) rfl (fun q9 => ?_)
      refine j_astore_n X (i := 3) dL_inkOf_12 rfl (by decide) rfl ?_
      refine j_iconst X (v := (nI 1)) dL_inkOf_13 (by decide) ?_
      exact j_iret_x X dL_inkOf_14 rfl rfl ⟨by rw [hi], ⟨_, hO, fun h9 => absurd ((congrArg nI hi).symm.trans h9) (by decide)⟩, fun _ _ => rfl, hG2, hf⟩
    | i9 + 1, hE, hi => cases hE
theorem iw_starCount : jCaW mL_starCount [(0, 9, 12, 21)] 3 := ⟨tw_3_214, tw_1_0, ⟨by decide, by decide⟩, by decide +kernel, by decide +kernel⟩
theorem w_starCount {l : Launch} {g : jG} (hok : jOk g) (hst : l.stackTraces = false) {z : Option Nat} {sk : jS} {t : jT} {kw : Nat → Nat} (hP : isPr g kw sk) {G : GS} (hG : RcG t G) (hK : okG G) {a0 : Nat → Int64} (hO : sk 462 = some (kL 1 a0)) (q : Int32) : jMetW l g mL_starCount [(0, 9, 12, 21)] 10 3 18 [.ref (jb g + 0), .int q, .ref (jb g + 462)] z sk t (wP Int32.toInt64 (a_starCount G q) sk t) := by
  obtain ⟨P0, P1, P2, P3, P4, P5, P6, P7, P8⟩ := id hP
  refine j_bodyW (lv := [some (.ref (jb g + 0)), some (.int q), some (.ref (jb g + 462)), none]) iw_starCount hok hst (fun p e s m args below meth c X => ?_)
  refine j_aload_n X (i := 2) dL_starCount_0 rfl rfl ?_
  refine j_iconst X (v := (nI 0)) dL_starCount_1 (by decide) ?_
  refine j_aload_n X (i := 0) dL_starCount_2 rfl rfl ?_
  refine j_iload_n X (i := 1) dL_starCount_3 rfl rfl ?_
  refine j_callVX_p X (f_starCount hok hst hP hG hK q) i_X9_starCount tw_3_215 tw_3_216 tw_3_217 P0 rfl dL_starCount_4 (fun v2 z2 sk2 t2 hp => ?_) (fun E z2 sk2 t2 hp => ?_)
  · obtain ⟨h0, rfl, rfl, rfl, hG2, hf⟩ := hp
    refine j_i2l X dL_starCount_7 rfl ?_
    refine j_lastore X hO rfl ⟨by decide, by decide⟩ dL_starCount_8 ?_
    refine j_goto X (tgt := 15) dL_starCount_9 (by decide) ?_
    refine j_iconst X (v := (nI 0)) dL_starCount_15 (by decide) ?_
    exact j_iret_x X dL_starCount_16 rfl rfl ⟨by rw [h0], ⟨_, jN_eq _ _ _, fun _ => if_pos rfl⟩, fun c hc => jN_ne _ _ hc, hG2, hf⟩
  · obtain ⟨h0, hE, rfl, rfl, hG2, hf⟩ := hp
    obtain ⟨i, hi⟩ : ∃ i, (a_starCount G q).1 = i + 1 := ⟨_, (Nat.succ_pred_eq_of_pos h0).symm⟩
    rw [hi] at hE
    match i, hE, hi with
    | 0, hE, hi =>
      cases hE
      refine j_catch X [] ⟨0, 9, 12, 21⟩ [] rfl (fun z9 h9 => nomatch h9) (by decide) (by decide) tw_3_115 tw_2_214 (pc2 := 12) rfl (fun q9 => ?_)
      refine j_astore_n X (i := 3) dL_starCount_12 rfl (by decide) rfl ?_
      refine j_iconst X (v := (nI 1)) dL_starCount_13 (by decide) ?_
      exact j_iret_x X dL_starCount_14 rfl rfl ⟨by rw [hi], ⟨_, hO, fun h9 => absurd ((congrArg nI hi).symm.trans h9) (by decide)⟩, fun _ _ => rfl, hG2, hf⟩
    | i9 + 1, hE, hi => cases hE
theorem iw_hasStar : jCaW mL_hasStar [(0, 19, 22, 21), (0, 19, 26, 13)] 5 := ⟨tw_3_222, tw_1_0, ⟨by decide, by decide⟩, by decide +kernel, by decide +kernel⟩
theorem w_hasStar {l : Launch} {g : jG} (hok : jOk g) (hst : l.stackTraces = false) {z : Option Nat} {sk : jS} {t : jT} {kw : Nat → Nat} (hP : isPr g kw sk) {G : GS} (hG : RcG t G) (hK : okG G) {a0 : Nat → Int64} (hO : sk 462 = some (kL 1 a0)) (q x y : Int32) : jMetW l g mL_hasStar [(0, 19, 22, 21), (0, 19, 26, 13)] 10 3 18 [.ref (jb g + 0), .int q, .int x, .int y, .ref (jb g + 462)] z sk t (wP cvB (a_hasStar G q x y) sk t) := by
  obtain ⟨P0, P1, P2, P3, P4, P5, P6, P7, P8⟩ := id hP
  refine j_bodyW (lv := [some (.ref (jb g + 0)), some (.int q), some (.int x), some (.int y), some (.ref (jb g + 462)), none]) iw_hasStar hok hst (fun p e s m args below meth c X => ?_)
  refine j_aload X (i := 4) dL_hasStar_0 rfl ?_
  refine j_iconst X (v := (nI 0)) dL_hasStar_2 (by decide) ?_
  refine j_aload_n X (i := 0) dL_hasStar_3 rfl rfl ?_
  refine j_iload_n X (i := 1) dL_hasStar_4 rfl rfl ?_
  refine j_iload_n X (i := 2) dL_hasStar_5 rfl rfl ?_
  refine j_iload_n X (i := 3) dL_hasStar_6 rfl rfl ?_
  refine j_callVX_p X (f_hasStar hok hst hP hG hK q x y) i_X9_hasStar tw_3_223 tw_3_224 tw_3_225 P0 rfl dL_hasStar_7 (fun v2 z2 sk2 t2 hp => ?_) (fun E z2 sk2 t2 hp => ?_)
  · obtain ⟨h0, rfl, rfl, rfl, hG2, hf⟩ := hp
    refine j_if_eq X (tgt := 17) dL_hasStar_10 (by decide) (fun h9 => ?_) (fun h9 => ?_)
    · refine j_lconst X (v := 0) dL_hasStar_17 (by decide) ?_
      refine j_lastore X hO rfl ⟨by decide, by decide⟩ dL_hasStar_18 ?_
      refine j_goto X (tgt := 30) dL_hasStar_19 (by decide) ?_
      refine j_iconst X (v := (nI 0)) dL_hasStar_30 (by decide) ?_
      exact j_iret_x X dL_hasStar_31 rfl rfl ⟨by rw [h0], ⟨_, jN_eq _ _ _, fun _ => (if_pos rfl : vp_updL a0 0 _ 0 = _).trans (if_pos h9 : cvB _ = _).symm⟩, fun c hc => jN_ne _ _ hc, hG2, hf⟩
    · refine j_lconst X (v := 1) dL_hasStar_13 (by decide) ?_
      refine j_goto X (tgt := 18) dL_hasStar_14 (by decide) ?_
      refine j_lastore X hO rfl ⟨by decide, by decide⟩ dL_hasStar_18 ?_
      refine j_goto X (tgt := 30) dL_hasStar_19 (by decide) ?_
      refine j_iconst X (v := (nI 0)) dL_hasStar_30 (by decide) ?_
      exact j_iret_x X dL_hasStar_31 rfl rfl ⟨by rw [h0], ⟨_, jN_eq _ _ _, fun _ => (if_pos rfl : vp_updL a0 0 _ 0 = _).trans (if_neg h9 : cvB _ = _).symm⟩, fun c hc => jN_ne _ _ hc, hG2, hf⟩
  · obtain ⟨h0, hE, rfl, rfl, hG2, hf⟩ := hp
    obtain ⟨i, hi⟩ : ∃ i, (a_hasStar G q x y).1 = i + 1 := ⟨_, (Nat.succ_pred_eq_of_pos h0).symm⟩
    rw [hi] at hE
    match i, hE, hi with
    | 0, hE, hi =>
      cases hE
      refine j_catch X [] ⟨0, 19, 22, 21⟩ [⟨0, 19, 26, 13⟩] rfl (fun z9 h9 => nomatch h9) (by decide) (by decide) tw_3_115 tw_2_214 (pc2 := 22) rfl (fun q9 => ?_)
      refine j_astore X (i := 5) dL_hasStar_22 (by decide) rfl ?_
      refine j_iconst X (v := (nI 1)) dL_hasStar_24 (by decide) ?_
      exact j_iret_x X dL_hasStar_25 rfl rfl ⟨by rw [hi], ⟨_, hO, fun h9 => absurd ((congrArg nI hi).symm.trans h9) (by decide)⟩, fun _ _ => rfl, hG2, hf⟩
    | 1, hE, hi =>
      cases hE
      refine j_catch X [⟨0, 19, 22, 21⟩] ⟨0, 19, 26, 13⟩ [] rfl (List.forall_mem_cons.mpr ⟨ps_IA_IO _ _ _, fun z9 h9 => nomatch h9⟩) (by decide) (by decide) tw_2_183 tw_3_46 (pc2 := 26) rfl (fun q9 => ?_)
      refine j_astore X (i := 5) dL_hasStar_26 (by decide) rfl ?_
      refine j_iconst X (v := (nI 2)) dL_hasStar_28 (by decide) ?_
      exact j_iret_x X dL_hasStar_29 rfl rfl ⟨by rw [hi], ⟨_, hO, fun h9 => absurd ((congrArg nI hi).symm.trans h9) (by decide)⟩, fun _ _ => rfl, hG2, hf⟩
    | i9 + 2, hE, hi => cases hE
theorem iw_shiftX : jCaW mL_shiftX [(0, 9, 12, 21)] 3 := ⟨tw_3_235, tw_1_0, ⟨by decide, by decide⟩, by decide +kernel, by decide +kernel⟩
theorem w_shiftX {l : Launch} {g : jG} (hok : jOk g) (hst : l.stackTraces = false) {z : Option Nat} {sk : jS} {t : jT} {kw : Nat → Nat} (hP : isPr g kw sk) {G : GS} (hG : RcG t G) (hK : okG G) {a0 : Nat → Int64} (hO : sk 462 = some (kL 1 a0)) (q : Int32) : jMetW l g mL_shiftX [(0, 9, 12, 21)] 10 3 18 [.ref (jb g + 0), .int q, .ref (jb g + 462)] z sk t (wP Int32.toInt64 (a_shiftX G q) sk t) := by
  obtain ⟨P0, P1, P2, P3, P4, P5, P6, P7, P8⟩ := id hP
  refine j_bodyW (lv := [some (.ref (jb g + 0)), some (.int q), some (.ref (jb g + 462)), none]) iw_shiftX hok hst (fun p e s m args below meth c X => ?_)
  refine j_aload_n X (i := 2) dL_shiftX_0 rfl rfl ?_
  refine j_iconst X (v := (nI 0)) dL_shiftX_1 (by decide) ?_
  refine j_aload_n X (i := 0) dL_shiftX_2 rfl rfl ?_
  refine j_iload_n X (i := 1) dL_shiftX_3 rfl rfl ?_
  refine j_callVX_p X (f_shiftX hok hst hP hG hK q) i_X9_shiftX tw_3_236 tw_3_237 tw_3_238 P0 rfl dL_shiftX_4 (fun v2 z2 sk2 t2 hp => ?_) (fun E z2 sk2 t2 hp => ?_)
  · obtain ⟨h0, rfl, rfl, rfl, hG2, hf⟩ := hp
    refine j_i2l X dL_shiftX_7 rfl ?_
    refine j_lastore X hO rfl ⟨by decide, by decide⟩ dL_shiftX_8 ?_
    refine j_goto X (tgt := 15) dL_shiftX_9 (by decide) ?_
    refine j_iconst X (v := (nI 0)) dL_shiftX_15 (by decide) ?_
    exact j_iret_x X dL_shiftX_16 rfl rfl ⟨by rw [h0], ⟨_, jN_eq _ _ _, fun _ => if_pos rfl⟩, fun c hc => jN_ne _ _ hc, hG2, hf⟩
  · obtain ⟨h0, hE, rfl, rfl, hG2, hf⟩ := hp
    obtain ⟨i, hi⟩ : ∃ i, (a_shiftX G q).1 = i + 1 := ⟨_, (Nat.succ_pred_eq_of_pos h0).symm⟩
    rw [hi] at hE
    match i, hE, hi with
    | 0, hE, hi =>
      cases hE
      refine j_catch X [] ⟨0, 9, 12, 21⟩ [] rfl (fun z9 h9 => nomatch h9) (by decide) (by decide) tw_3_115 tw_2_214 (pc2 := 12) rfl (fun q9 => ?_)
      refine j_astore_n X (i := 3) dL_shiftX_12 rfl (by decide) rfl ?_
      refine j_iconst X (v := (nI 1)) dL_shiftX_13 (by decide) ?_
      exact j_iret_x X dL_shiftX_14 rfl rfl ⟨by rw [hi], ⟨_, hO, fun h9 => absurd ((congrArg nI hi).symm.trans h9) (by decide)⟩, fun _ _ => rfl, hG2, hf⟩
    | i9 + 1, hE, hi => cases hE
theorem iw_shiftY : jCaW mL_shiftY [(0, 9, 12, 21)] 3 := ⟨tw_4_2, tw_1_0, ⟨by decide, by decide⟩, by decide +kernel, by decide +kernel⟩
theorem w_shiftY {l : Launch} {g : jG} (hok : jOk g) (hst : l.stackTraces = false) {z : Option Nat} {sk : jS} {t : jT} {kw : Nat → Nat} (hP : isPr g kw sk) {G : GS} (hG : RcG t G) (hK : okG G) {a0 : Nat → Int64} (hO : sk 462 = some (kL 1 a0)) (q : Int32) : jMetW l g mL_shiftY [(0, 9, 12, 21)] 10 3 18 [.ref (jb g + 0), .int q, .ref (jb g + 462)] z sk t (wP Int32.toInt64 (a_shiftY G q) sk t) := by
  obtain ⟨P0, P1, P2, P3, P4, P5, P6, P7, P8⟩ := id hP
  refine j_bodyW (lv := [some (.ref (jb g + 0)), some (.int q), some (.ref (jb g + 462)), none]) iw_shiftY hok hst (fun p e s m args below meth c X => ?_)
  refine j_aload_n X (i := 2) dL_shiftY_0 rfl rfl ?_
  refine j_iconst X (v := (nI 0)) dL_shiftY_1 (by decide) ?_
  refine j_aload_n X (i := 0) dL_shiftY_2 rfl rfl ?_
  refine j_iload_n X (i := 1) dL_shiftY_3 rfl rfl ?_
  refine j_callVX_p X (f_shiftY hok hst hP hG hK q) i_X9_shiftY tw_4_3 tw_4_4 tw_4_5 P0 rfl dL_shiftY_4 (fun v2 z2 sk2 t2 hp => ?_) (fun E z2 sk2 t2 hp => ?_)
  · obtain ⟨h0, rfl, rfl, rfl, hG2, hf⟩ := hp
    refine j_i2l X dL_shiftY_7 rfl ?_
    refine j_lastore X hO rfl ⟨by decide, by decide⟩ dL_shiftY_8 ?_
    refine j_goto X (tgt := 15) dL_shiftY_9 (by decide) ?_
    refine j_iconst X (v := (nI 0)) dL_shiftY_15 (by decide) ?_
    exact j_iret_x X dL_shiftY_16 rfl rfl ⟨by rw [h0], ⟨_, jN_eq _ _ _, fun _ => if_pos rfl⟩, fun c hc => jN_ne _ _ hc, hG2, hf⟩
  · obtain ⟨h0, hE, rfl, rfl, hG2, hf⟩ := hp
    obtain ⟨i, hi⟩ : ∃ i, (a_shiftY G q).1 = i + 1 := ⟨_, (Nat.succ_pred_eq_of_pos h0).symm⟩
    rw [hi] at hE
    match i, hE, hi with
    | 0, hE, hi =>
      cases hE
      refine j_catch X [] ⟨0, 9, 12, 21⟩ [] rfl (fun z9 h9 => nomatch h9) (by decide) (by decide) tw_3_115 tw_2_214 (pc2 := 12) rfl (fun q9 => ?_)
      refine j_astore_n X (i := 3) dL_shiftY_12 rfl (by decide) rfl ?_
      refine j_iconst X (v := (nI 1)) dL_shiftY_13 (by decide) ?_
      exact j_iret_x X dL_shiftY_14 rfl rfl ⟨by rw [hi], ⟨_, hO, fun h9 => absurd ((congrArg nI hi).symm.trans h9) (by decide)⟩, fun _ _ => rfl, hG2, hf⟩
    | i9 + 1, hE, hi => cases hE
theorem iw_matches : jCaW mL_matches [(0, 14, 17, 21), (0, 14, 21, 13)] 6 := ⟨tw_4_9, tw_1_0, ⟨by decide, by decide⟩, by decide +kernel, by decide +kernel⟩
theorem w_matches {l : Launch} {g : jG} (hok : jOk g) (hst : l.stackTraces = false) {z : Option Nat} {sk : jS} {t : jT} {kw : Nat → Nat} (hP : isPr g kw sk) {G : GS} (hG : RcG t G) (hK : okG G) {a0 : Nat → Int64} (hO : sk 462 = some (kL 1 a0)) (q o x y : Int32) : jMetW l g mL_matches [(0, 14, 17, 21), (0, 14, 21, 13)] 10 3 18 [.ref (jb g + 0), .int q, .int o, .int x, .int y, .ref (jb g + 462)] z sk t (wP Int32.toInt64 (a_matches G q o x y) sk t) := by
  obtain ⟨P0, P1, P2, P3, P4, P5, P6, P7, P8⟩ := id hP
  refine j_bodyW (lv := [some (.ref (jb g + 0)), some (.int q), some (.int o), some (.int x), some (.int y), some (.ref (jb g + 462)), none]) iw_matches hok hst (fun p e s m args below meth c X => ?_)
  refine j_aload X (i := 5) dL_matches_0 rfl ?_
  refine j_iconst X (v := (nI 0)) dL_matches_2 (by decide) ?_
  refine j_aload_n X (i := 0) dL_matches_3 rfl rfl ?_
  refine j_iload_n X (i := 1) dL_matches_4 rfl rfl ?_
  refine j_iload_n X (i := 2) dL_matches_5 rfl rfl ?_
  refine j_iload_n X (i := 3) dL_matches_6 rfl rfl ?_
  refine j_iload X (i := 4) dL_matches_7 rfl ?_
  refine j_callVX_p X (f_matches hok hst hP hG hK q o x y) i_X9_matches tw_4_10 tw_4_11 tw_4_12 P0 rfl dL_matches_9 (fun v2 z2 sk2 t2 hp => ?_) (fun E z2 sk2 t2 hp => ?_)
  · obtain ⟨h0, rfl, rfl, rfl, hG2, hf⟩ := hp
    refine j_i2l X dL_matches_12 rfl ?_
    refine j_lastore X hO rfl ⟨by decide, by decide⟩ dL_matches_13 ?_
    refine j_goto X (tgt := 25) dL_matches_14 (by decide) ?_
    refine j_iconst X (v := (nI 0)) dL_matches_25 (by decide) ?_
    exact j_iret_x X dL_matches_26 rfl rfl ⟨by rw [h0], ⟨_, jN_eq _ _ _, fun _ => if_pos rfl⟩, fun c hc => jN_ne _ _ hc, hG2, hf⟩
  · obtain ⟨h0, hE, rfl, rfl, hG2, hf⟩ := hp
    obtain ⟨i, hi⟩ : ∃ i, (a_matches G q o x y).1 = i + 1 := ⟨_, (Nat.succ_pred_eq_of_pos h0).symm⟩
    rw [hi] at hE
    match i, hE, hi with
    | 0, hE, hi =>
      cases hE
      refine j_catch X [] ⟨0, 14, 17, 21⟩ [⟨0, 14, 21, 13⟩] rfl (fun z9 h9 => nomatch h9) (by decide) (by decide) tw_3_115 tw_2_214 (pc2 := 17) rfl (fun q9 => ?_)
      refine j_astore X (i := 6) dL_matches_17 (by decide) rfl ?_
      refine j_iconst X (v := (nI 1)) dL_matches_19 (by decide) ?_
      exact j_iret_x X dL_matches_20 rfl rfl ⟨by rw [hi], ⟨_, hO, fun h9 => absurd ((congrArg nI hi).symm.trans h9) (by decide)⟩, fun _ _ => rfl, hG2, hf⟩
    | 1, hE, hi =>
      cases hE
      refine j_catch X [⟨0, 14, 17, 21⟩] ⟨0, 14, 21, 13⟩ [] rfl (List.forall_mem_cons.mpr ⟨ps_IA_IO _ _ _, fun z9 h9 => nomatch h9⟩) (by decide) (by decide) tw_2_183 tw_3_46 (pc2 := 21) rfl (fun q9 => ?_)
      refine j_astore X (i := 6) dL_matches_21 (by decide) rfl ?_
      refine j_iconst X (v := (nI 2)) dL_matches_23 (by decide) ?_
      exact j_iret_x X dL_matches_24 rfl rfl ⟨by rw [hi], ⟨_, hO, fun h9 => absurd ((congrArg nI hi).symm.trans h9) (by decide)⟩, fun _ _ => rfl, hG2, hf⟩
    | i9 + 2, hE, hi => cases hE
theorem iw_mostMatches : jCaW mL_mostMatches [(0, 10, 13, 21)] 4 := ⟨tw_4_19, tw_1_0, ⟨by decide, by decide⟩, by decide +kernel, by decide +kernel⟩
theorem w_mostMatches {l : Launch} {g : jG} (hok : jOk g) (hst : l.stackTraces = false) {z : Option Nat} {sk : jS} {t : jT} {kw : Nat → Nat} (hP : isPr g kw sk) {G : GS} (hG : RcG t G) (hK : okG G) {a0 : Nat → Int64} (hO : sk 462 = some (kL 1 a0)) (q o : Int32) : jMetW l g mL_mostMatches [(0, 10, 13, 21)] 10 3 18 [.ref (jb g + 0), .int q, .int o, .ref (jb g + 462)] z sk t (wP Int32.toInt64 (a_most G q o) sk t) := by
  obtain ⟨P0, P1, P2, P3, P4, P5, P6, P7, P8⟩ := id hP
  refine j_bodyW (lv := [some (.ref (jb g + 0)), some (.int q), some (.int o), some (.ref (jb g + 462)), none]) iw_mostMatches hok hst (fun p e s m args below meth c X => ?_)
  refine j_aload_n X (i := 3) dL_mostMatches_0 rfl rfl ?_
  refine j_iconst X (v := (nI 0)) dL_mostMatches_1 (by decide) ?_
  refine j_aload_n X (i := 0) dL_mostMatches_2 rfl rfl ?_
  refine j_iload_n X (i := 1) dL_mostMatches_3 rfl rfl ?_
  refine j_iload_n X (i := 2) dL_mostMatches_4 rfl rfl ?_
  refine j_callVX_p X (f_mostMatches hok hst hP hG hK q o) i_X9_mostMatches tw_4_20 tw_4_21 tw_4_22 P0 rfl dL_mostMatches_5 (fun v2 z2 sk2 t2 hp => ?_) (fun E z2 sk2 t2 hp => ?_)
  · obtain ⟨h0, rfl, rfl, rfl, hG2, hf⟩ := hp
    refine j_i2l X dL_mostMatches_8 rfl ?_
    refine j_lastore X hO rfl ⟨by decide, by decide⟩ dL_mostMatches_9 ?_
    refine j_goto X (tgt := 17) dL_mostMatches_10 (by decide) ?_
    refine j_iconst X (v := (nI 0)) dL_mostMatches_17 (by decide) ?_
    exact j_iret_x X dL_mostMatches_18 rfl rfl ⟨by rw [h0], ⟨_, jN_eq _ _ _, fun _ => if_pos rfl⟩, fun c hc => jN_ne _ _ hc, hG2, hf⟩
  · obtain ⟨h0, hE, rfl, rfl, hG2, hf⟩ := hp
    obtain ⟨i, hi⟩ : ∃ i, (a_most G q o).1 = i + 1 := ⟨_, (Nat.succ_pred_eq_of_pos h0).symm⟩
    rw [hi] at hE
    match i, hE, hi with
    | 0, hE, hi =>
      cases hE
      refine j_catch X [] ⟨0, 10, 13, 21⟩ [] rfl (fun z9 h9 => nomatch h9) (by decide) (by decide) tw_3_115 tw_2_214 (pc2 := 13) rfl (fun q9 => ?_)
      refine j_astore X (i := 4) dL_mostMatches_13 (by decide) rfl ?_
      refine j_iconst X (v := (nI 1)) dL_mostMatches_15 (by decide) ?_
      exact j_iret_x X dL_mostMatches_16 rfl rfl ⟨by rw [hi], ⟨_, hO, fun h9 => absurd ((congrArg nI hi).symm.trans h9) (by decide)⟩, fun _ _ => rfl, hG2, hf⟩
    | i9 + 1, hE, hi => cases hE
theorem iw_mostMatchesByPairs : jCaW mL_mostMatchesByPairs [(0, 10, 13, 21)] 4 := ⟨tw_4_26, tw_1_0, ⟨by decide, by decide⟩, by decide +kernel, by decide +kernel⟩
theorem w_mostMatchesByPairs {l : Launch} {g : jG} (hok : jOk g) (hst : l.stackTraces = false) {z : Option Nat} {sk : jS} {t : jT} {kw : Nat → Nat} (hP : isPr g kw sk) {G : GS} (hG : RcG t G) (hK : okG G) {a0 : Nat → Int64} (hO : sk 462 = some (kL 1 a0)) (q o : Int32) : jMetW l g mL_mostMatchesByPairs [(0, 10, 13, 21)] 10 3 18 [.ref (jb g + 0), .int q, .int o, .ref (jb g + 462)] z sk t (wP Int32.toInt64 (a_most G q o) sk t) := by
  obtain ⟨P0, P1, P2, P3, P4, P5, P6, P7, P8⟩ := id hP
  refine j_bodyW (lv := [some (.ref (jb g + 0)), some (.int q), some (.int o), some (.ref (jb g + 462)), none]) iw_mostMatchesByPairs hok hst (fun p e s m args below meth c X => ?_)
  refine j_aload_n X (i := 3) dL_mostMatchesByPairs_0 rfl rfl ?_
  refine j_iconst X (v := (nI 0)) dL_mostMatchesByPairs_1 (by decide) ?_
  refine j_aload_n X (i := 0) dL_mostMatchesByPairs_2 rfl rfl ?_
  refine j_iload_n X (i := 1) dL_mostMatchesByPairs_3 rfl rfl ?_
  refine j_iload_n X (i := 2) dL_mostMatchesByPairs_4 rfl rfl ?_
  refine j_callVX_p X (f_mostMatchesByPairs hok hst hP hG hK q o) i_X9_mostMatchesByPairs tw_4_27 tw_4_28 tw_4_29 P0 rfl dL_mostMatchesByPairs_5 (fun v2 z2 sk2 t2 hp => ?_) (fun E z2 sk2 t2 hp => ?_)
  · obtain ⟨h0, rfl, rfl, rfl, hG2, hf⟩ := hp
    refine j_i2l X dL_mostMatchesByPairs_8 rfl ?_
    refine j_lastore X hO rfl ⟨by decide, by decide⟩ dL_mostMatchesByPairs_9 ?_
    refine j_goto X (tgt := 17) dL_mostMatchesByPairs_10 (by decide) ?_
    refine j_iconst X (v := (nI 0)) dL_mostMatchesByPairs_17 (by decide) ?_
    exact j_iret_x X dL_mostMatchesByPairs_18 rfl rfl ⟨by rw [h0], ⟨_, jN_eq _ _ _, fun _ => if_pos rfl⟩, fun c hc => jN_ne _ _ hc, hG2, hf⟩
  · obtain ⟨h0, hE, rfl, rfl, hG2, hf⟩ := hp
    obtain ⟨i, hi⟩ : ∃ i, (a_most G q o).1 = i + 1 := ⟨_, (Nat.succ_pred_eq_of_pos h0).symm⟩
    rw [hi] at hE
    match i, hE, hi with
    | 0, hE, hi =>
      cases hE
      refine j_catch X [] ⟨0, 10, 13, 21⟩ [] rfl (fun z9 h9 => nomatch h9) (by decide) (by decide) tw_3_115 tw_2_214 (pc2 := 13) rfl (fun q9 => ?_)
      refine j_astore X (i := 4) dL_mostMatchesByPairs_13 (by decide) rfl ?_
      refine j_iconst X (v := (nI 1)) dL_mostMatchesByPairs_15 (by decide) ?_
      exact j_iret_x X dL_mostMatchesByPairs_16 rfl rfl ⟨by rw [hi], ⟨_, hO, fun h9 => absurd ((congrArg nI hi).symm.trans h9) (by decide)⟩, fun _ _ => rfl, hG2, hf⟩
    | i9 + 1, hE, hi => cases hE
theorem iw_bestShiftX : jCaW mL_bestShiftX [(0, 10, 13, 21)] 4 := ⟨tw_4_33, tw_1_0, ⟨by decide, by decide⟩, by decide +kernel, by decide +kernel⟩
theorem w_bestShiftX {l : Launch} {g : jG} (hok : jOk g) (hst : l.stackTraces = false) {z : Option Nat} {sk : jS} {t : jT} {kw : Nat → Nat} (hP : isPr g kw sk) {G : GS} (hG : RcG t G) (hK : okG G) {a0 : Nat → Int64} (hO : sk 462 = some (kL 1 a0)) (q o : Int32) : jMetW l g mL_bestShiftX [(0, 10, 13, 21)] 10 3 18 [.ref (jb g + 0), .int q, .int o, .ref (jb g + 462)] z sk t (wP Int32.toInt64 (a_bestX G q o) sk t) := by
  obtain ⟨P0, P1, P2, P3, P4, P5, P6, P7, P8⟩ := id hP
  refine j_bodyW (lv := [some (.ref (jb g + 0)), some (.int q), some (.int o), some (.ref (jb g + 462)), none]) iw_bestShiftX hok hst (fun p e s m args below meth c X => ?_)
  refine j_aload_n X (i := 3) dL_bestShiftX_0 rfl rfl ?_
  refine j_iconst X (v := (nI 0)) dL_bestShiftX_1 (by decide) ?_
  refine j_aload_n X (i := 0) dL_bestShiftX_2 rfl rfl ?_
  refine j_iload_n X (i := 1) dL_bestShiftX_3 rfl rfl ?_
  refine j_iload_n X (i := 2) dL_bestShiftX_4 rfl rfl ?_
  refine j_callVX_p X (f_bestShiftX hok hst hP hG hK q o) i_X9_bestShiftX tw_4_34 tw_4_35 tw_4_36 P0 rfl dL_bestShiftX_5 (fun v2 z2 sk2 t2 hp => ?_) (fun E z2 sk2 t2 hp => ?_)
  · obtain ⟨h0, rfl, rfl, rfl, hG2, hf⟩ := hp
    refine j_i2l X dL_bestShiftX_8 rfl ?_
    refine j_lastore X hO rfl ⟨by decide, by decide⟩ dL_bestShiftX_9 ?_
    refine j_goto X (tgt := 17) dL_bestShiftX_10 (by decide) ?_
    refine j_iconst X (v := (nI 0)) dL_bestShiftX_17 (by decide) ?_
    exact j_iret_x X dL_bestShiftX_18 rfl rfl ⟨by rw [h0], ⟨_, jN_eq _ _ _, fun _ => if_pos rfl⟩, fun c hc => jN_ne _ _ hc, hG2, hf⟩
  · obtain ⟨h0, hE, rfl, rfl, hG2, hf⟩ := hp
    obtain ⟨i, hi⟩ : ∃ i, (a_bestX G q o).1 = i + 1 := ⟨_, (Nat.succ_pred_eq_of_pos h0).symm⟩
    rw [hi] at hE
    match i, hE, hi with
    | 0, hE, hi =>
      cases hE
      refine j_catch X [] ⟨0, 10, 13, 21⟩ [] rfl (fun z9 h9 => nomatch h9) (by decide) (by decide) tw_3_115 tw_2_214 (pc2 := 13) rfl (fun q9 => ?_)
      refine j_astore X (i := 4) dL_bestShiftX_13 (by decide) rfl ?_
      refine j_iconst X (v := (nI 1)) dL_bestShiftX_15 (by decide) ?_
      exact j_iret_x X dL_bestShiftX_16 rfl rfl ⟨by rw [hi], ⟨_, hO, fun h9 => absurd ((congrArg nI hi).symm.trans h9) (by decide)⟩, fun _ _ => rfl, hG2, hf⟩
    | i9 + 1, hE, hi => cases hE
theorem iw_bestShiftY : jCaW mL_bestShiftY [(0, 10, 13, 21)] 4 := ⟨tw_4_40, tw_1_0, ⟨by decide, by decide⟩, by decide +kernel, by decide +kernel⟩
theorem w_bestShiftY {l : Launch} {g : jG} (hok : jOk g) (hst : l.stackTraces = false) {z : Option Nat} {sk : jS} {t : jT} {kw : Nat → Nat} (hP : isPr g kw sk) {G : GS} (hG : RcG t G) (hK : okG G) {a0 : Nat → Int64} (hO : sk 462 = some (kL 1 a0)) (q o : Int32) : jMetW l g mL_bestShiftY [(0, 10, 13, 21)] 10 3 18 [.ref (jb g + 0), .int q, .int o, .ref (jb g + 462)] z sk t (wP Int32.toInt64 (a_bestY G q o) sk t) := by
  obtain ⟨P0, P1, P2, P3, P4, P5, P6, P7, P8⟩ := id hP
  refine j_bodyW (lv := [some (.ref (jb g + 0)), some (.int q), some (.int o), some (.ref (jb g + 462)), none]) iw_bestShiftY hok hst (fun p e s m args below meth c X => ?_)
  refine j_aload_n X (i := 3) dL_bestShiftY_0 rfl rfl ?_
  refine j_iconst X (v := (nI 0)) dL_bestShiftY_1 (by decide) ?_
  refine j_aload_n X (i := 0) dL_bestShiftY_2 rfl rfl ?_
  refine j_iload_n X (i := 1) dL_bestShiftY_3 rfl rfl ?_
  refine j_iload_n X (i := 2) dL_bestShiftY_4 rfl rfl ?_
  refine j_callVX_p X (f_bestShiftY hok hst hP hG hK q o) i_X9_bestShiftY tw_4_41 tw_4_42 tw_4_43 P0 rfl dL_bestShiftY_5 (fun v2 z2 sk2 t2 hp => ?_) (fun E z2 sk2 t2 hp => ?_)
  · obtain ⟨h0, rfl, rfl, rfl, hG2, hf⟩ := hp
    refine j_i2l X dL_bestShiftY_8 rfl ?_
    refine j_lastore X hO rfl ⟨by decide, by decide⟩ dL_bestShiftY_9 ?_
    refine j_goto X (tgt := 17) dL_bestShiftY_10 (by decide) ?_
    refine j_iconst X (v := (nI 0)) dL_bestShiftY_17 (by decide) ?_
    exact j_iret_x X dL_bestShiftY_18 rfl rfl ⟨by rw [h0], ⟨_, jN_eq _ _ _, fun _ => if_pos rfl⟩, fun c hc => jN_ne _ _ hc, hG2, hf⟩
  · obtain ⟨h0, hE, rfl, rfl, hG2, hf⟩ := hp
    obtain ⟨i, hi⟩ : ∃ i, (a_bestY G q o).1 = i + 1 := ⟨_, (Nat.succ_pred_eq_of_pos h0).symm⟩
    rw [hi] at hE
    match i, hE, hi with
    | 0, hE, hi =>
      cases hE
      refine j_catch X [] ⟨0, 10, 13, 21⟩ [] rfl (fun z9 h9 => nomatch h9) (by decide) (by decide) tw_3_115 tw_2_214 (pc2 := 13) rfl (fun q9 => ?_)
      refine j_astore X (i := 4) dL_bestShiftY_13 (by decide) rfl ?_
      refine j_iconst X (v := (nI 1)) dL_bestShiftY_15 (by decide) ?_
      exact j_iret_x X dL_bestShiftY_16 rfl rfl ⟨by rw [hi], ⟨_, hO, fun h9 => absurd ((congrArg nI hi).symm.trans h9) (by decide)⟩, fun _ _ => rfl, hG2, hf⟩
    | i9 + 1, hE, hi => cases hE
theorem iw_addSheet : jCaW mL_addSheet [(0, 8, 11, 15)] 2 := ⟨tw_4_47, tw_1_0, ⟨by decide, by decide⟩, by decide +kernel, by decide +kernel⟩
theorem w_addSheet {l : Launch} {g : jG} (hok : jOk g) (hst : l.stackTraces = false) {z : Option Nat} {sk : jS} {t : jT} {kw : Nat → Nat} (hP : isPr g kw sk) {G : GS} (hG : RcG t G) (hK : okG G) {a0 : Nat → Int64} (hO : sk 462 = some (kL 1 a0)) : jMetW l g mL_addSheet [(0, 8, 11, 15)] 10 3 18 [.ref (jb g + 0), .ref (jb g + 462)] z sk t (wP Int32.toInt64 (a_addSheet false G) sk t) := by
  obtain ⟨P0, P1, P2, P3, P4, P5, P6, P7, P8⟩ := id hP
  refine j_bodyW (lv := [some (.ref (jb g + 0)), some (.ref (jb g + 462)), none]) iw_addSheet hok hst (fun p e s m args below meth c X => ?_)
  refine j_aload_n X (i := 1) dL_addSheet_0 rfl rfl ?_
  refine j_iconst X (v := (nI 0)) dL_addSheet_1 (by decide) ?_
  refine j_aload_n X (i := 0) dL_addSheet_2 rfl rfl ?_
  refine j_callVX_p X (f_addSheet hok hst hP hG hK) i_X9_addSheet tw_4_48 tw_4_49 tw_4_50 P0 rfl dL_addSheet_3 (fun v2 z2 sk2 t2 hp => ?_) (fun E z2 sk2 t2 hp => ?_)
  · obtain ⟨h0, rfl, rfl, rfl, hG2, hf⟩ := hp
    refine j_i2l X dL_addSheet_6 rfl ?_
    refine j_lastore X hO rfl ⟨by decide, by decide⟩ dL_addSheet_7 ?_
    refine j_goto X (tgt := 14) dL_addSheet_8 (by decide) ?_
    refine j_iconst X (v := (nI 0)) dL_addSheet_14 (by decide) ?_
    exact j_iret_x X dL_addSheet_15 rfl rfl ⟨by rw [h0], ⟨_, jN_eq _ _ _, fun _ => if_pos rfl⟩, fun c hc => jN_ne _ _ hc, hG2, hf⟩
  · obtain ⟨h0, hE, rfl, rfl, hG2, hf⟩ := hp
    obtain ⟨i, hi⟩ : ∃ i, (a_addSheet false G).1 = i + 1 := ⟨_, (Nat.succ_pred_eq_of_pos h0).symm⟩
    rw [hi] at hE
    match i, hE, hi with
    | 0, hE, hi =>
      cases hE
      refine j_catch X [] ⟨0, 8, 11, 15⟩ [] rfl (fun z9 h9 => nomatch h9) (by decide) (by decide) tw_2_184 tw_3_62 (pc2 := 11) rfl (fun q9 => ?_)
      refine j_astore_n X (i := 2) dL_addSheet_11 rfl (by decide) rfl ?_
      refine j_iconst X (v := (nI 1)) dL_addSheet_12 (by decide) ?_
      exact j_iret_x X dL_addSheet_13 rfl rfl ⟨by rw [hi], ⟨_, hO, fun h9 => absurd ((congrArg nI hi).symm.trans h9) (by decide)⟩, fun _ _ => rfl, hG2, hf⟩
    | i9 + 1, hE, hi => cases hE
theorem iw_print : jCaW mL_print [(0, 10, 13, 21), (0, 10, 17, 74)] 4 := ⟨tw_4_58, tw_1_0, ⟨by decide, by decide⟩, by decide +kernel, by decide +kernel⟩
theorem w_print {l : Launch} {g : jG} (hok : jOk g) (hst : l.stackTraces = false) {z : Option Nat} {sk : jS} {t : jT} {kw : Nat → Nat} (hP : isPr g kw sk) {G : GS} (hG : RcG t G) (hK : okG G) {a0 : Nat → Int64} (hO : sk 462 = some (kL 1 a0)) (q o : Int32) : jMetW l g mL_print [(0, 10, 13, 21), (0, 10, 17, 74)] 10 3 18 [.ref (jb g + 0), .int q, .int o, .ref (jb g + 462)] z sk t (wP Int32.toInt64 (a_print false G q o) sk t) := by
  obtain ⟨P0, P1, P2, P3, P4, P5, P6, P7, P8⟩ := id hP
  refine j_bodyW (lv := [some (.ref (jb g + 0)), some (.int q), some (.int o), some (.ref (jb g + 462)), none]) iw_print hok hst (fun p e s m args below meth c X => ?_)
  refine j_aload_n X (i := 3) dL_print_0 rfl rfl ?_
  refine j_iconst X (v := (nI 0)) dL_print_1 (by decide) ?_
  refine j_aload_n X (i := 0) dL_print_2 rfl rfl ?_
  refine j_iload_n X (i := 1) dL_print_3 rfl rfl ?_
  refine j_iload_n X (i := 2) dL_print_4 rfl rfl ?_
  refine j_callVX_p X (f_print hok hst hP hG hK q o) i_X9_print tw_4_60 tw_4_61 tw_4_62 P0 rfl dL_print_5 (fun v2 z2 sk2 t2 hp => ?_) (fun E z2 sk2 t2 hp => ?_)
  · obtain ⟨h0, rfl, rfl, rfl, hG2, hf⟩ := hp
    refine j_i2l X dL_print_8 rfl ?_
    refine j_lastore X hO rfl ⟨by decide, by decide⟩ dL_print_9 ?_
    refine j_goto X (tgt := 21) dL_print_10 (by decide) ?_
    refine j_iconst X (v := (nI 0)) dL_print_21 (by decide) ?_
    exact j_iret_x X dL_print_22 rfl rfl ⟨by rw [h0], ⟨_, jN_eq _ _ _, fun _ => if_pos rfl⟩, fun c hc => jN_ne _ _ hc, hG2, hf⟩
  · obtain ⟨h0, hE, rfl, rfl, hG2, hf⟩ := hp
    obtain ⟨i, hi⟩ : ∃ i, (a_print false G q o).1 = i + 1 := ⟨_, (Nat.succ_pred_eq_of_pos h0).symm⟩
    rw [hi] at hE
    match i, hE, hi with
    | 0, hE, hi =>
      cases hE
      refine j_catch X [] ⟨0, 10, 13, 21⟩ [⟨0, 10, 17, 74⟩] rfl (fun z9 h9 => nomatch h9) (by decide) (by decide) tw_3_115 tw_2_214 (pc2 := 13) rfl (fun q9 => ?_)
      refine j_astore X (i := 4) dL_print_13 (by decide) rfl ?_
      refine j_iconst X (v := (nI 1)) dL_print_15 (by decide) ?_
      exact j_iret_x X dL_print_16 rfl rfl ⟨by rw [hi], ⟨_, hO, fun h9 => absurd ((congrArg nI hi).symm.trans h9) (by decide)⟩, fun _ _ => rfl, hG2, hf⟩
    | 1, hE, hi =>
      cases hE
      refine j_catch X [⟨0, 10, 13, 21⟩] ⟨0, 10, 17, 74⟩ [] rfl (List.forall_mem_cons.mpr ⟨ps_UO_IO _ _ _, fun z9 h9 => nomatch h9⟩) (by decide) (by decide) tw_4_59 tw_3_94 (pc2 := 17) rfl (fun q9 => ?_)
      refine j_astore X (i := 4) dL_print_17 (by decide) rfl ?_
      refine j_iconst X (v := (nI 2)) dL_print_19 (by decide) ?_
      exact j_iret_x X dL_print_20 rfl rfl ⟨by rw [hi], ⟨_, hO, fun h9 => absurd ((congrArg nI hi).symm.trans h9) (by decide)⟩, fun _ _ => rfl, hG2, hf⟩
    | i9 + 2, hE, hi => cases hE
theorem iw_wouldSmear : jCaW mL_wouldSmear [(0, 16, 19, 21)] 3 := ⟨tw_4_95, tw_1_0, ⟨by decide, by decide⟩, by decide +kernel, by decide +kernel⟩
theorem w_wouldSmear {l : Launch} {g : jG} (hok : jOk g) (hst : l.stackTraces = false) {z : Option Nat} {sk : jS} {t : jT} {kw : Nat → Nat} (hP : isPr g kw sk) {G : GS} (hG : RcG t G) (hK : okG G) {a0 : Nat → Int64} (hO : sk 462 = some (kL 1 a0)) (o : Int32) : jMetW l g mL_wouldSmear [(0, 16, 19, 21)] 10 3 18 [.ref (jb g + 0), .int o, .ref (jb g + 462)] z sk t (wP cvB (a_wouldSmear G o) sk t) := by
  obtain ⟨P0, P1, P2, P3, P4, P5, P6, P7, P8⟩ := id hP
  refine j_bodyW (lv := [some (.ref (jb g + 0)), some (.int o), some (.ref (jb g + 462)), none]) iw_wouldSmear hok hst (fun p e s m args below meth c X => ?_)
  refine j_aload_n X (i := 2) dL_wouldSmear_0 rfl rfl ?_
  refine j_iconst X (v := (nI 0)) dL_wouldSmear_1 (by decide) ?_
  refine j_aload_n X (i := 0) dL_wouldSmear_2 rfl rfl ?_
  refine j_iload_n X (i := 1) dL_wouldSmear_3 rfl rfl ?_
  refine j_callVX_p X (f_wouldSmear hok hst hP hG hK o) i_X9_wouldSmear tw_4_96 tw_4_97 tw_4_98 P0 rfl dL_wouldSmear_4 (fun v2 z2 sk2 t2 hp => ?_) (fun E z2 sk2 t2 hp => ?_)
  · obtain ⟨h0, rfl, rfl, rfl, hG2, hf⟩ := hp
    refine j_if_eq X (tgt := 14) dL_wouldSmear_7 (by decide) (fun h9 => ?_) (fun h9 => ?_)
    · refine j_lconst X (v := 0) dL_wouldSmear_14 (by decide) ?_
      refine j_lastore X hO rfl ⟨by decide, by decide⟩ dL_wouldSmear_15 ?_
      refine j_goto X (tgt := 22) dL_wouldSmear_16 (by decide) ?_
      refine j_iconst X (v := (nI 0)) dL_wouldSmear_22 (by decide) ?_
      exact j_iret_x X dL_wouldSmear_23 rfl rfl ⟨by rw [h0], ⟨_, jN_eq _ _ _, fun _ => (if_pos rfl : vp_updL a0 0 _ 0 = _).trans (if_pos h9 : cvB _ = _).symm⟩, fun c hc => jN_ne _ _ hc, hG2, hf⟩
    · refine j_lconst X (v := 1) dL_wouldSmear_10 (by decide) ?_
      refine j_goto X (tgt := 15) dL_wouldSmear_11 (by decide) ?_
      refine j_lastore X hO rfl ⟨by decide, by decide⟩ dL_wouldSmear_15 ?_
      refine j_goto X (tgt := 22) dL_wouldSmear_16 (by decide) ?_
      refine j_iconst X (v := (nI 0)) dL_wouldSmear_22 (by decide) ?_
      exact j_iret_x X dL_wouldSmear_23 rfl rfl ⟨by rw [h0], ⟨_, jN_eq _ _ _, fun _ => (if_pos rfl : vp_updL a0 0 _ 0 = _).trans (if_neg h9 : cvB _ = _).symm⟩, fun c hc => jN_ne _ _ hc, hG2, hf⟩
  · obtain ⟨h0, hE, rfl, rfl, hG2, hf⟩ := hp
    obtain ⟨i, hi⟩ : ∃ i, (a_wouldSmear G o).1 = i + 1 := ⟨_, (Nat.succ_pred_eq_of_pos h0).symm⟩
    rw [hi] at hE
    match i, hE, hi with
    | 0, hE, hi =>
      cases hE
      refine j_catch X [] ⟨0, 16, 19, 21⟩ [] rfl (fun z9 h9 => nomatch h9) (by decide) (by decide) tw_3_115 tw_2_214 (pc2 := 19) rfl (fun q9 => ?_)
      refine j_astore_n X (i := 3) dL_wouldSmear_19 rfl (by decide) rfl ?_
      refine j_iconst X (v := (nI 1)) dL_wouldSmear_20 (by decide) ?_
      exact j_iret_x X dL_wouldSmear_21 rfl rfl ⟨by rw [hi], ⟨_, hO, fun h9 => absurd ((congrArg nI hi).symm.trans h9) (by decide)⟩, fun _ _ => rfl, hG2, hf⟩
    | i9 + 1, hE, hi => cases hE
theorem iw_colour : jCaW mL_colour [(0, 12, 15, 21), (0, 12, 19, 13)] 5 := ⟨tw_4_109, tw_1_0, ⟨by decide, by decide⟩, by decide +kernel, by decide +kernel⟩
theorem w_colour {l : Launch} {g : jG} (hok : jOk g) (hst : l.stackTraces = false) {z : Option Nat} {sk : jS} {t : jT} {kw : Nat → Nat} (hP : isPr g kw sk) {G : GS} (hG : RcG t G) (hK : okG G) {a0 : Nat → Int64} (hO : sk 462 = some (kL 1 a0)) (o x y : Int32) : jMetW l g mL_colour [(0, 12, 15, 21), (0, 12, 19, 13)] 10 3 18 [.ref (jb g + 0), .int o, .int x, .int y, .ref (jb g + 462)] z sk t (wP Int32.toInt64 (a_colour G o x y) sk t) := by
  obtain ⟨P0, P1, P2, P3, P4, P5, P6, P7, P8⟩ := id hP
  refine j_bodyW (lv := [some (.ref (jb g + 0)), some (.int o), some (.int x), some (.int y), some (.ref (jb g + 462)), none]) iw_colour hok hst (fun p e s m args below meth c X => ?_)
  refine j_aload X (i := 4) dL_colour_0 rfl ?_
  refine j_iconst X (v := (nI 0)) dL_colour_2 (by decide) ?_
  refine j_aload_n X (i := 0) dL_colour_3 rfl rfl ?_
  refine j_iload_n X (i := 1) dL_colour_4 rfl rfl ?_
  refine j_iload_n X (i := 2) dL_colour_5 rfl rfl ?_
  refine j_iload_n X (i := 3) dL_colour_6 rfl rfl ?_
  refine j_callVX_p X (f_colour hok hst hP hG hK o x y) i_X9_colour tw_4_110 tw_4_111 tw_4_112 P0 rfl dL_colour_7 (fun v2 z2 sk2 t2 hp => ?_) (fun E z2 sk2 t2 hp => ?_)
  · obtain ⟨h0, rfl, rfl, rfl, hG2, hf⟩ := hp
    refine j_i2l X dL_colour_10 rfl ?_
    refine j_lastore X hO rfl ⟨by decide, by decide⟩ dL_colour_11 ?_
    refine j_goto X (tgt := 23) dL_colour_12 (by decide) ?_
    refine j_iconst X (v := (nI 0)) dL_colour_23 (by decide) ?_
    exact j_iret_x X dL_colour_24 rfl rfl ⟨by rw [h0], ⟨_, jN_eq _ _ _, fun _ => if_pos rfl⟩, fun c hc => jN_ne _ _ hc, hG2, hf⟩
  · obtain ⟨h0, hE, rfl, rfl, hG2, hf⟩ := hp
    obtain ⟨i, hi⟩ : ∃ i, (a_colour G o x y).1 = i + 1 := ⟨_, (Nat.succ_pred_eq_of_pos h0).symm⟩
    rw [hi] at hE
    match i, hE, hi with
    | 0, hE, hi =>
      cases hE
      refine j_catch X [] ⟨0, 12, 15, 21⟩ [⟨0, 12, 19, 13⟩] rfl (fun z9 h9 => nomatch h9) (by decide) (by decide) tw_3_115 tw_2_214 (pc2 := 15) rfl (fun q9 => ?_)
      refine j_astore X (i := 5) dL_colour_15 (by decide) rfl ?_
      refine j_iconst X (v := (nI 1)) dL_colour_17 (by decide) ?_
      exact j_iret_x X dL_colour_18 rfl rfl ⟨by rw [hi], ⟨_, hO, fun h9 => absurd ((congrArg nI hi).symm.trans h9) (by decide)⟩, fun _ _ => rfl, hG2, hf⟩
    | 1, hE, hi =>
      cases hE
      refine j_catch X [⟨0, 12, 15, 21⟩] ⟨0, 12, 19, 13⟩ [] rfl (List.forall_mem_cons.mpr ⟨ps_IA_IO _ _ _, fun z9 h9 => nomatch h9⟩) (by decide) (by decide) tw_2_183 tw_3_46 (pc2 := 19) rfl (fun q9 => ?_)
      refine j_astore X (i := 5) dL_colour_19 (by decide) rfl ?_
      refine j_iconst X (v := (nI 2)) dL_colour_21 (by decide) ?_
      exact j_iret_x X dL_colour_22 rfl rfl ⟨by rw [hi], ⟨_, hO, fun h9 => absurd ((congrArg nI hi).symm.trans h9) (by decide)⟩, fun _ _ => rfl, hG2, hf⟩
    | i9 + 2, hE, hi => cases hE
theorem iw_intended : jCaW mL_intended [(0, 12, 15, 21), (0, 12, 19, 13)] 5 := ⟨tw_4_117, tw_1_0, ⟨by decide, by decide⟩, by decide +kernel, by decide +kernel⟩
theorem w_intended {l : Launch} {g : jG} (hok : jOk g) (hst : l.stackTraces = false) {z : Option Nat} {sk : jS} {t : jT} {kw : Nat → Nat} (hP : isPr g kw sk) {G : GS} (hG : RcG t G) (hK : okG G) {a0 : Nat → Int64} (hO : sk 462 = some (kL 1 a0)) (o x y : Int32) : jMetW l g mL_intended [(0, 12, 15, 21), (0, 12, 19, 13)] 10 3 18 [.ref (jb g + 0), .int o, .int x, .int y, .ref (jb g + 462)] z sk t (wP Int32.toInt64 (a_intended G o x y) sk t) := by
  obtain ⟨P0, P1, P2, P3, P4, P5, P6, P7, P8⟩ := id hP
  refine j_bodyW (lv := [some (.ref (jb g + 0)), some (.int o), some (.int x), some (.int y), some (.ref (jb g + 462)), none]) iw_intended hok hst (fun p e s m args below meth c X => ?_)
  refine j_aload X (i := 4) dL_intended_0 rfl ?_
  refine j_iconst X (v := (nI 0)) dL_intended_2 (by decide) ?_
  refine j_aload_n X (i := 0) dL_intended_3 rfl rfl ?_
  refine j_iload_n X (i := 1) dL_intended_4 rfl rfl ?_
  refine j_iload_n X (i := 2) dL_intended_5 rfl rfl ?_
  refine j_iload_n X (i := 3) dL_intended_6 rfl rfl ?_
  refine j_callVX_p X (f_intended hok hst hP hG hK o x y) i_X9_intended tw_4_118 tw_4_119 tw_4_120 P0 rfl dL_intended_7 (fun v2 z2 sk2 t2 hp => ?_) (fun E z2 sk2 t2 hp => ?_)
  · obtain ⟨h0, rfl, rfl, rfl, hG2, hf⟩ := hp
    refine j_i2l X dL_intended_10 rfl ?_
    refine j_lastore X hO rfl ⟨by decide, by decide⟩ dL_intended_11 ?_
    refine j_goto X (tgt := 23) dL_intended_12 (by decide) ?_
    refine j_iconst X (v := (nI 0)) dL_intended_23 (by decide) ?_
    exact j_iret_x X dL_intended_24 rfl rfl ⟨by rw [h0], ⟨_, jN_eq _ _ _, fun _ => if_pos rfl⟩, fun c hc => jN_ne _ _ hc, hG2, hf⟩
  · obtain ⟨h0, hE, rfl, rfl, hG2, hf⟩ := hp
    obtain ⟨i, hi⟩ : ∃ i, (a_intended G o x y).1 = i + 1 := ⟨_, (Nat.succ_pred_eq_of_pos h0).symm⟩
    rw [hi] at hE
    match i, hE, hi with
    | 0, hE, hi =>
      cases hE
      refine j_catch X [] ⟨0, 12, 15, 21⟩ [⟨0, 12, 19, 13⟩] rfl (fun z9 h9 => nomatch h9) (by decide) (by decide) tw_3_115 tw_2_214 (pc2 := 15) rfl (fun q9 => ?_)
      refine j_astore X (i := 5) dL_intended_15 (by decide) rfl ?_
      refine j_iconst X (v := (nI 1)) dL_intended_17 (by decide) ?_
      exact j_iret_x X dL_intended_18 rfl rfl ⟨by rw [hi], ⟨_, hO, fun h9 => absurd ((congrArg nI hi).symm.trans h9) (by decide)⟩, fun _ _ => rfl, hG2, hf⟩
    | 1, hE, hi =>
      cases hE
      refine j_catch X [⟨0, 12, 15, 21⟩] ⟨0, 12, 19, 13⟩ [] rfl (List.forall_mem_cons.mpr ⟨ps_IA_IO _ _ _, fun z9 h9 => nomatch h9⟩) (by decide) (by decide) tw_2_183 tw_3_46 (pc2 := 19) rfl (fun q9 => ?_)
      refine j_astore X (i := 5) dL_intended_19 (by decide) rfl ?_
      refine j_iconst X (v := (nI 2)) dL_intended_21 (by decide) ?_
      exact j_iret_x X dL_intended_22 rfl rfl ⟨by rw [hi], ⟨_, hO, fun h9 => absurd ((congrArg nI hi).symm.trans h9) (by decide)⟩, fun _ _ => rfl, hG2, hf⟩
    | i9 + 2, hE, hi => cases hE
theorem iw_placesOf : jCaW mL_placesOf [(0, 10, 13, 21), (0, 10, 17, 13)] 4 := ⟨tw_4_125, tw_1_0, ⟨by decide, by decide⟩, by decide +kernel, by decide +kernel⟩
theorem w_placesOf {l : Launch} {g : jG} (hok : jOk g) (hst : l.stackTraces = false) {z : Option Nat} {sk : jS} {t : jT} {kw : Nat → Nat} (hP : isPr g kw sk) {G : GS} (hG : RcG t G) (hK : okG G) {a0 : Nat → Int64} (hO : sk 462 = some (kL 1 a0)) (o x : Int32) : jMetW l g mL_placesOf [(0, 10, 13, 21), (0, 10, 17, 13)] 10 3 18 [.ref (jb g + 0), .int o, .int x, .ref (jb g + 462)] z sk t (wP Int32.toInt64 (a_placesOf G o x) sk t) := by
  obtain ⟨P0, P1, P2, P3, P4, P5, P6, P7, P8⟩ := id hP
  refine j_bodyW (lv := [some (.ref (jb g + 0)), some (.int o), some (.int x), some (.ref (jb g + 462)), none]) iw_placesOf hok hst (fun p e s m args below meth c X => ?_)
  refine j_aload_n X (i := 3) dL_placesOf_0 rfl rfl ?_
  refine j_iconst X (v := (nI 0)) dL_placesOf_1 (by decide) ?_
  refine j_aload_n X (i := 0) dL_placesOf_2 rfl rfl ?_
  refine j_iload_n X (i := 1) dL_placesOf_3 rfl rfl ?_
  refine j_iload_n X (i := 2) dL_placesOf_4 rfl rfl ?_
  refine j_callVX_p X (f_placesOf hok hst hP hG hK o x) i_X9_placesOf tw_4_126 tw_4_127 tw_4_128 P0 rfl dL_placesOf_5 (fun v2 z2 sk2 t2 hp => ?_) (fun E z2 sk2 t2 hp => ?_)
  · obtain ⟨h0, rfl, rfl, rfl, hG2, hf⟩ := hp
    refine j_i2l X dL_placesOf_8 rfl ?_
    refine j_lastore X hO rfl ⟨by decide, by decide⟩ dL_placesOf_9 ?_
    refine j_goto X (tgt := 21) dL_placesOf_10 (by decide) ?_
    refine j_iconst X (v := (nI 0)) dL_placesOf_21 (by decide) ?_
    exact j_iret_x X dL_placesOf_22 rfl rfl ⟨by rw [h0], ⟨_, jN_eq _ _ _, fun _ => if_pos rfl⟩, fun c hc => jN_ne _ _ hc, hG2, hf⟩
  · obtain ⟨h0, hE, rfl, rfl, hG2, hf⟩ := hp
    obtain ⟨i, hi⟩ : ∃ i, (a_placesOf G o x).1 = i + 1 := ⟨_, (Nat.succ_pred_eq_of_pos h0).symm⟩
    rw [hi] at hE
    match i, hE, hi with
    | 0, hE, hi =>
      cases hE
      refine j_catch X [] ⟨0, 10, 13, 21⟩ [⟨0, 10, 17, 13⟩] rfl (fun z9 h9 => nomatch h9) (by decide) (by decide) tw_3_115 tw_2_214 (pc2 := 13) rfl (fun q9 => ?_)
      refine j_astore X (i := 4) dL_placesOf_13 (by decide) rfl ?_
      refine j_iconst X (v := (nI 1)) dL_placesOf_15 (by decide) ?_
      exact j_iret_x X dL_placesOf_16 rfl rfl ⟨by rw [hi], ⟨_, hO, fun h9 => absurd ((congrArg nI hi).symm.trans h9) (by decide)⟩, fun _ _ => rfl, hG2, hf⟩
    | 1, hE, hi =>
      cases hE
      refine j_catch X [⟨0, 10, 13, 21⟩] ⟨0, 10, 17, 13⟩ [] rfl (List.forall_mem_cons.mpr ⟨ps_IA_IO _ _ _, fun z9 h9 => nomatch h9⟩) (by decide) (by decide) tw_2_183 tw_3_46 (pc2 := 17) rfl (fun q9 => ?_)
      refine j_astore X (i := 4) dL_placesOf_17 (by decide) rfl ?_
      refine j_iconst X (v := (nI 2)) dL_placesOf_19 (by decide) ?_
      exact j_iret_x X dL_placesOf_20 rfl rfl ⟨by rw [hi], ⟨_, hO, fun h9 => absurd ((congrArg nI hi).symm.trans h9) (by decide)⟩, fun _ _ => rfl, hG2, hf⟩
    | i9 + 2, hE, hi => cases hE
theorem iw_wetness : jCaW mL_wetness [(0, 9, 12, 21)] 3 := ⟨tw_4_137, tw_1_0, ⟨by decide, by decide⟩, by decide +kernel, by decide +kernel⟩
theorem w_wetness {l : Launch} {g : jG} (hok : jOk g) (hst : l.stackTraces = false) {z : Option Nat} {sk : jS} {t : jT} {kw : Nat → Nat} (hP : isPr g kw sk) {G : GS} (hG : RcG t G) (hK : okG G) {a0 : Nat → Int64} (hO : sk 462 = some (kL 1 a0)) (o : Int32) : jMetW l g mL_wetness [(0, 9, 12, 21)] 10 3 18 [.ref (jb g + 0), .int o, .ref (jb g + 462)] z sk t (wP Int32.toInt64 (a_wetness G o) sk t) := by
  obtain ⟨P0, P1, P2, P3, P4, P5, P6, P7, P8⟩ := id hP
  refine j_bodyW (lv := [some (.ref (jb g + 0)), some (.int o), some (.ref (jb g + 462)), none]) iw_wetness hok hst (fun p e s m args below meth c X => ?_)
  refine j_aload_n X (i := 2) dL_wetness_0 rfl rfl ?_
  refine j_iconst X (v := (nI 0)) dL_wetness_1 (by decide) ?_
  refine j_aload_n X (i := 0) dL_wetness_2 rfl rfl ?_
  refine j_iload_n X (i := 1) dL_wetness_3 rfl rfl ?_
  refine j_callVX_p X (f_wetness hok hst hP hG hK o) i_X9_wetness tw_4_138 tw_4_139 tw_4_140 P0 rfl dL_wetness_4 (fun v2 z2 sk2 t2 hp => ?_) (fun E z2 sk2 t2 hp => ?_)
  · obtain ⟨h0, rfl, rfl, rfl, hG2, hf⟩ := hp
    refine j_i2l X dL_wetness_7 rfl ?_
    refine j_lastore X hO rfl ⟨by decide, by decide⟩ dL_wetness_8 ?_
    refine j_goto X (tgt := 15) dL_wetness_9 (by decide) ?_
    refine j_iconst X (v := (nI 0)) dL_wetness_15 (by decide) ?_
    exact j_iret_x X dL_wetness_16 rfl rfl ⟨by rw [h0], ⟨_, jN_eq _ _ _, fun _ => if_pos rfl⟩, fun c hc => jN_ne _ _ hc, hG2, hf⟩
  · obtain ⟨h0, hE, rfl, rfl, hG2, hf⟩ := hp
    obtain ⟨i, hi⟩ : ∃ i, (a_wetness G o).1 = i + 1 := ⟨_, (Nat.succ_pred_eq_of_pos h0).symm⟩
    rw [hi] at hE
    match i, hE, hi with
    | 0, hE, hi =>
      cases hE
      refine j_catch X [] ⟨0, 9, 12, 21⟩ [] rfl (fun z9 h9 => nomatch h9) (by decide) (by decide) tw_3_115 tw_2_214 (pc2 := 12) rfl (fun q9 => ?_)
      refine j_astore_n X (i := 3) dL_wetness_12 rfl (by decide) rfl ?_
      refine j_iconst X (v := (nI 1)) dL_wetness_13 (by decide) ?_
      exact j_iret_x X dL_wetness_14 rfl rfl ⟨by rw [hi], ⟨_, hO, fun h9 => absurd ((congrArg nI hi).symm.trans h9) (by decide)⟩, fun _ _ => rfl, hG2, hf⟩
    | i9 + 1, hE, hi => cases hE
theorem iw_smears : jCaW mL_smears [(0, 9, 12, 21)] 3 := ⟨tw_4_144, tw_1_0, ⟨by decide, by decide⟩, by decide +kernel, by decide +kernel⟩
theorem w_smears {l : Launch} {g : jG} (hok : jOk g) (hst : l.stackTraces = false) {z : Option Nat} {sk : jS} {t : jT} {kw : Nat → Nat} (hP : isPr g kw sk) {G : GS} (hG : RcG t G) (hK : okG G) {a0 : Nat → Int64} (hO : sk 462 = some (kL 1 a0)) (o : Int32) : jMetW l g mL_smears [(0, 9, 12, 21)] 10 3 18 [.ref (jb g + 0), .int o, .ref (jb g + 462)] z sk t (wP Int32.toInt64 (a_smears G o) sk t) := by
  obtain ⟨P0, P1, P2, P3, P4, P5, P6, P7, P8⟩ := id hP
  refine j_bodyW (lv := [some (.ref (jb g + 0)), some (.int o), some (.ref (jb g + 462)), none]) iw_smears hok hst (fun p e s m args below meth c X => ?_)
  refine j_aload_n X (i := 2) dL_smears_0 rfl rfl ?_
  refine j_iconst X (v := (nI 0)) dL_smears_1 (by decide) ?_
  refine j_aload_n X (i := 0) dL_smears_2 rfl rfl ?_
  refine j_iload_n X (i := 1) dL_smears_3 rfl rfl ?_
  refine j_callVX_p X (f_smears hok hst hP hG hK o) i_X9_smears tw_4_145 tw_4_146 tw_4_147 P0 rfl dL_smears_4 (fun v2 z2 sk2 t2 hp => ?_) (fun E z2 sk2 t2 hp => ?_)
  · obtain ⟨h0, rfl, rfl, rfl, hG2, hf⟩ := hp
    refine j_i2l X dL_smears_7 rfl ?_
    refine j_lastore X hO rfl ⟨by decide, by decide⟩ dL_smears_8 ?_
    refine j_goto X (tgt := 15) dL_smears_9 (by decide) ?_
    refine j_iconst X (v := (nI 0)) dL_smears_15 (by decide) ?_
    exact j_iret_x X dL_smears_16 rfl rfl ⟨by rw [h0], ⟨_, jN_eq _ _ _, fun _ => if_pos rfl⟩, fun c hc => jN_ne _ _ hc, hG2, hf⟩
  · obtain ⟨h0, hE, rfl, rfl, hG2, hf⟩ := hp
    obtain ⟨i, hi⟩ : ∃ i, (a_smears G o).1 = i + 1 := ⟨_, (Nat.succ_pred_eq_of_pos h0).symm⟩
    rw [hi] at hE
    match i, hE, hi with
    | 0, hE, hi =>
      cases hE
      refine j_catch X [] ⟨0, 9, 12, 21⟩ [] rfl (fun z9 h9 => nomatch h9) (by decide) (by decide) tw_3_115 tw_2_214 (pc2 := 12) rfl (fun q9 => ?_)
      refine j_astore_n X (i := 3) dL_smears_12 rfl (by decide) rfl ?_
      refine j_iconst X (v := (nI 1)) dL_smears_13 (by decide) ?_
      exact j_iret_x X dL_smears_14 rfl rfl ⟨by rw [hi], ⟨_, hO, fun h9 => absurd ((congrArg nI hi).symm.trans h9) (by decide)⟩, fun _ _ => rfl, hG2, hf⟩
    | i9 + 1, hE, hi => cases hE
theorem iw_misprints : jCaW mL_misprints [(0, 9, 12, 21)] 3 := ⟨tw_4_151, tw_1_0, ⟨by decide, by decide⟩, by decide +kernel, by decide +kernel⟩
theorem w_misprints {l : Launch} {g : jG} (hok : jOk g) (hst : l.stackTraces = false) {z : Option Nat} {sk : jS} {t : jT} {kw : Nat → Nat} (hP : isPr g kw sk) {G : GS} (hG : RcG t G) (hK : okG G) {a0 : Nat → Int64} (hO : sk 462 = some (kL 1 a0)) (o : Int32) : jMetW l g mL_misprints [(0, 9, 12, 21)] 10 3 18 [.ref (jb g + 0), .int o, .ref (jb g + 462)] z sk t (wP Int32.toInt64 (a_misprints G o) sk t) := by
  obtain ⟨P0, P1, P2, P3, P4, P5, P6, P7, P8⟩ := id hP
  refine j_bodyW (lv := [some (.ref (jb g + 0)), some (.int o), some (.ref (jb g + 462)), none]) iw_misprints hok hst (fun p e s m args below meth c X => ?_)
  refine j_aload_n X (i := 2) dL_misprints_0 rfl rfl ?_
  refine j_iconst X (v := (nI 0)) dL_misprints_1 (by decide) ?_
  refine j_aload_n X (i := 0) dL_misprints_2 rfl rfl ?_
  refine j_iload_n X (i := 1) dL_misprints_3 rfl rfl ?_
  refine j_callVX_p X (f_misprints hok hst hP hG hK o) i_X9_misprints tw_4_152 tw_4_153 tw_4_154 P0 rfl dL_misprints_4 (fun v2 z2 sk2 t2 hp => ?_) (fun E z2 sk2 t2 hp => ?_)
  · obtain ⟨h0, rfl, rfl, rfl, hG2, hf⟩ := hp
    refine j_i2l X dL_misprints_7 rfl ?_
    refine j_lastore X hO rfl ⟨by decide, by decide⟩ dL_misprints_8 ?_
    refine j_goto X (tgt := 15) dL_misprints_9 (by decide) ?_
    refine j_iconst X (v := (nI 0)) dL_misprints_15 (by decide) ?_
    exact j_iret_x X dL_misprints_16 rfl rfl ⟨by rw [h0], ⟨_, jN_eq _ _ _, fun _ => if_pos rfl⟩, fun c hc => jN_ne _ _ hc, hG2, hf⟩
  · obtain ⟨h0, hE, rfl, rfl, hG2, hf⟩ := hp
    obtain ⟨i, hi⟩ : ∃ i, (a_misprints G o).1 = i + 1 := ⟨_, (Nat.succ_pred_eq_of_pos h0).symm⟩
    rw [hi] at hE
    match i, hE, hi with
    | 0, hE, hi =>
      cases hE
      refine j_catch X [] ⟨0, 9, 12, 21⟩ [] rfl (fun z9 h9 => nomatch h9) (by decide) (by decide) tw_3_115 tw_2_214 (pc2 := 12) rfl (fun q9 => ?_)
      refine j_astore_n X (i := 3) dL_misprints_12 rfl (by decide) rfl ?_
      refine j_iconst X (v := (nI 1)) dL_misprints_13 (by decide) ?_
      exact j_iret_x X dL_misprints_14 rfl rfl ⟨by rw [hi], ⟨_, hO, fun h9 => absurd ((congrArg nI hi).symm.trans h9) (by decide)⟩, fun _ _ => rfl, hG2, hf⟩
    | i9 + 1, hE, hi => cases hE
theorem iw_misprintsBySets : jCaW mL_misprintsBySets [(0, 9, 12, 21)] 3 := ⟨tw_4_158, tw_1_0, ⟨by decide, by decide⟩, by decide +kernel, by decide +kernel⟩
theorem w_misprintsBySets {l : Launch} {g : jG} (hok : jOk g) (hst : l.stackTraces = false) {z : Option Nat} {sk : jS} {t : jT} {kw : Nat → Nat} (hP : isPr g kw sk) {G : GS} (hG : RcG t G) (hK : okG G) {a0 : Nat → Int64} (hO : sk 462 = some (kL 1 a0)) (o : Int32) : jMetW l g mL_misprintsBySets [(0, 9, 12, 21)] 10 3 18 [.ref (jb g + 0), .int o, .ref (jb g + 462)] z sk t (wP Int32.toInt64 (a_misprints G o) sk t) := by
  obtain ⟨P0, P1, P2, P3, P4, P5, P6, P7, P8⟩ := id hP
  refine j_bodyW (lv := [some (.ref (jb g + 0)), some (.int o), some (.ref (jb g + 462)), none]) iw_misprintsBySets hok hst (fun p e s m args below meth c X => ?_)
  refine j_aload_n X (i := 2) dL_misprintsBySets_0 rfl rfl ?_
  refine j_iconst X (v := (nI 0)) dL_misprintsBySets_1 (by decide) ?_
  refine j_aload_n X (i := 0) dL_misprintsBySets_2 rfl rfl ?_
  refine j_iload_n X (i := 1) dL_misprintsBySets_3 rfl rfl ?_
  refine j_callVX_p X (f_misprintsBySets hok hst hP hG hK o) i_X9_misprintsBySets tw_4_159 tw_4_160 tw_4_161 P0 rfl dL_misprintsBySets_4 (fun v2 z2 sk2 t2 hp => ?_) (fun E z2 sk2 t2 hp => ?_)
  · obtain ⟨h0, rfl, rfl, rfl, hG2, hf⟩ := hp
    refine j_i2l X dL_misprintsBySets_7 rfl ?_
    refine j_lastore X hO rfl ⟨by decide, by decide⟩ dL_misprintsBySets_8 ?_
    refine j_goto X (tgt := 15) dL_misprintsBySets_9 (by decide) ?_
    refine j_iconst X (v := (nI 0)) dL_misprintsBySets_15 (by decide) ?_
    exact j_iret_x X dL_misprintsBySets_16 rfl rfl ⟨by rw [h0], ⟨_, jN_eq _ _ _, fun _ => if_pos rfl⟩, fun c hc => jN_ne _ _ hc, hG2, hf⟩
  · obtain ⟨h0, hE, rfl, rfl, hG2, hf⟩ := hp
    obtain ⟨i, hi⟩ : ∃ i, (a_misprints G o).1 = i + 1 := ⟨_, (Nat.succ_pred_eq_of_pos h0).symm⟩
    rw [hi] at hE
    match i, hE, hi with
    | 0, hE, hi =>
      cases hE
      refine j_catch X [] ⟨0, 9, 12, 21⟩ [] rfl (fun z9 h9 => nomatch h9) (by decide) (by decide) tw_3_115 tw_2_214 (pc2 := 12) rfl (fun q9 => ?_)
      refine j_astore_n X (i := 3) dL_misprintsBySets_12 rfl (by decide) rfl ?_
      refine j_iconst X (v := (nI 1)) dL_misprintsBySets_13 (by decide) ?_
      exact j_iret_x X dL_misprintsBySets_14 rfl rfl ⟨by rw [hi], ⟨_, hO, fun h9 => absurd ((congrArg nI hi).symm.trans h9) (by decide)⟩, fun _ _ => rfl, hG2, hf⟩
    | i9 + 1, hE, hi => cases hE
theorem iw_sheetByMisprints : jCaW mL_sheetByMisprints [(0, 9, 12, 26)] 3 := ⟨tw_4_165, tw_1_0, ⟨by decide, by decide⟩, by decide +kernel, by decide +kernel⟩
theorem w_sheetByMisprints {l : Launch} {g : jG} (hok : jOk g) (hst : l.stackTraces = false) {z : Option Nat} {sk : jS} {t : jT} {kw : Nat → Nat} (hP : isPr g kw sk) {G : GS} (hG : RcG t G) (hK : okG G) {a0 : Nat → Int64} (hO : sk 462 = some (kL 1 a0)) (r : Int32) : jMetW l g mL_sheetByMisprints [(0, 9, 12, 26)] 10 3 18 [.ref (jb g + 0), .int r, .ref (jb g + 462)] z sk t (wP Int32.toInt64 (a_byMis G r) sk t) := by
  obtain ⟨P0, P1, P2, P3, P4, P5, P6, P7, P8⟩ := id hP
  refine j_bodyW (lv := [some (.ref (jb g + 0)), some (.int r), some (.ref (jb g + 462)), none]) iw_sheetByMisprints hok hst (fun p e s m args below meth c X => ?_)
  refine j_aload_n X (i := 2) dL_sheetByMisprints_0 rfl rfl ?_
  refine j_iconst X (v := (nI 0)) dL_sheetByMisprints_1 (by decide) ?_
  refine j_aload_n X (i := 0) dL_sheetByMisprints_2 rfl rfl ?_
  refine j_iload_n X (i := 1) dL_sheetByMisprints_3 rfl rfl ?_
  refine j_callVX_p X (f_sheetByMisprints hok hst hP hG hK r) i_X9_sheetByMisprints tw_4_166 tw_4_167 tw_4_168 P0 rfl dL_sheetByMisprints_4 (fun v2 z2 sk2 t2 hp => ?_) (fun E z2 sk2 t2 hp => ?_)
  · obtain ⟨h0, rfl, rfl, rfl, hG2, hf⟩ := hp
    refine j_i2l X dL_sheetByMisprints_7 rfl ?_
    refine j_lastore X hO rfl ⟨by decide, by decide⟩ dL_sheetByMisprints_8 ?_
    refine j_goto X (tgt := 15) dL_sheetByMisprints_9 (by decide) ?_
    refine j_iconst X (v := (nI 0)) dL_sheetByMisprints_15 (by decide) ?_
    exact j_iret_x X dL_sheetByMisprints_16 rfl rfl ⟨by rw [h0], ⟨_, jN_eq _ _ _, fun _ => if_pos rfl⟩, fun c hc => jN_ne _ _ hc, hG2, hf⟩
  · obtain ⟨h0, hE, rfl, rfl, hG2, hf⟩ := hp
    obtain ⟨i, hi⟩ : ∃ i, (a_byMis G r).1 = i + 1 := ⟨_, (Nat.succ_pred_eq_of_pos h0).symm⟩
    rw [hi] at hE
    match i, hE, hi with
    | 0, hE, hi =>
      cases hE
      refine j_catch X [] ⟨0, 9, 12, 26⟩ [] rfl (fun z9 h9 => nomatch h9) (by decide) (by decide) tw_3_161 tw_3_78 (pc2 := 12) rfl (fun q9 => ?_)
      refine j_astore_n X (i := 3) dL_sheetByMisprints_12 rfl (by decide) rfl ?_
      refine j_iconst X (v := (nI 1)) dL_sheetByMisprints_13 (by decide) ?_
      exact j_iret_x X dL_sheetByMisprints_14 rfl rfl ⟨by rw [hi], ⟨_, hO, fun h9 => absurd ((congrArg nI hi).symm.trans h9) (by decide)⟩, fun _ _ => rfl, hG2, hf⟩
    | i9 + 1, hE, hi => cases hE
theorem iw_putInRack : jCaW mL_putInRack [(0, 9, 12, 21), (0, 9, 15, 15), (0, 9, 18, 74)] 3 := ⟨tw_4_177, tw_1_0, ⟨by decide, by decide⟩, by decide +kernel, by decide +kernel⟩
theorem w_putInRack {l : Launch} {g : jG} (hok : jOk g) (hst : l.stackTraces = false) {z : Option Nat} {sk : jS} {t : jT} {kw : Nat → Nat} (hP : isPr g kw sk) {G : GS} (hG : RcG t G) (hK : okG G) {a0 : Nat → Int64} (hO : sk 462 = some (kL 1 a0)) (o : Int32) : jMetW l g mL_putInRack [(0, 9, 12, 21), (0, 9, 15, 15), (0, 9, 18, 74)] 10 3 18 [.ref (jb g + 0), .int o, .ref (jb g + 462)] z sk t (wP Int32.toInt64 (a_putInRack false G o) sk t) := by
  obtain ⟨P0, P1, P2, P3, P4, P5, P6, P7, P8⟩ := id hP
  refine j_bodyW (lv := [some (.ref (jb g + 0)), some (.int o), some (.ref (jb g + 462)), none]) iw_putInRack hok hst (fun p e s m args below meth c X => ?_)
  refine j_aload_n X (i := 2) dL_putInRack_0 rfl rfl ?_
  refine j_iconst X (v := (nI 0)) dL_putInRack_1 (by decide) ?_
  refine j_aload_n X (i := 0) dL_putInRack_2 rfl rfl ?_
  refine j_iload_n X (i := 1) dL_putInRack_3 rfl rfl ?_
  refine j_callVX_p X (f_putInRack hok hst hP hG hK o) i_X9_putInRack tw_4_178 tw_4_179 tw_4_180 P0 rfl dL_putInRack_4 (fun v2 z2 sk2 t2 hp => ?_) (fun E z2 sk2 t2 hp => ?_)
  · obtain ⟨h0, rfl, rfl, rfl, hG2, hf⟩ := hp
    refine j_i2l X dL_putInRack_7 rfl ?_
    refine j_lastore X hO rfl ⟨by decide, by decide⟩ dL_putInRack_8 ?_
    refine j_goto X (tgt := 21) dL_putInRack_9 (by decide) ?_
    refine j_iconst X (v := (nI 0)) dL_putInRack_21 (by decide) ?_
    exact j_iret_x X dL_putInRack_22 rfl rfl ⟨by rw [h0], ⟨_, jN_eq _ _ _, fun _ => if_pos rfl⟩, fun c hc => jN_ne _ _ hc, hG2, hf⟩
  · obtain ⟨h0, hE, rfl, rfl, hG2, hf⟩ := hp
    obtain ⟨i, hi⟩ : ∃ i, (a_putInRack false G o).1 = i + 1 := ⟨_, (Nat.succ_pred_eq_of_pos h0).symm⟩
    rw [hi] at hE
    match i, hE, hi with
    | 0, hE, hi =>
      cases hE
      refine j_catch X [] ⟨0, 9, 12, 21⟩ [⟨0, 9, 15, 15⟩, ⟨0, 9, 18, 74⟩] rfl (fun z9 h9 => nomatch h9) (by decide) (by decide) tw_3_115 tw_2_214 (pc2 := 12) rfl (fun q9 => ?_)
      refine j_astore_n X (i := 3) dL_putInRack_12 rfl (by decide) rfl ?_
      refine j_iconst X (v := (nI 1)) dL_putInRack_13 (by decide) ?_
      exact j_iret_x X dL_putInRack_14 rfl rfl ⟨by rw [hi], ⟨_, hO, fun h9 => absurd ((congrArg nI hi).symm.trans h9) (by decide)⟩, fun _ _ => rfl, hG2, hf⟩
    | 1, hE, hi =>
      cases hE
      refine j_catch X [⟨0, 9, 12, 21⟩] ⟨0, 9, 15, 15⟩ [⟨0, 9, 18, 74⟩] rfl (List.forall_mem_cons.mpr ⟨ps_IS_IO _ _ _, fun z9 h9 => nomatch h9⟩) (by decide) (by decide) tw_2_184 tw_3_62 (pc2 := 15) rfl (fun q9 => ?_)
      refine j_astore_n X (i := 3) dL_putInRack_15 rfl (by decide) rfl ?_
      refine j_iconst X (v := (nI 2)) dL_putInRack_16 (by decide) ?_
      exact j_iret_x X dL_putInRack_17 rfl rfl ⟨by rw [hi], ⟨_, hO, fun h9 => absurd ((congrArg nI hi).symm.trans h9) (by decide)⟩, fun _ _ => rfl, hG2, hf⟩
    | 2, hE, hi =>
      cases hE
      refine j_catch X [⟨0, 9, 12, 21⟩, ⟨0, 9, 15, 15⟩] ⟨0, 9, 18, 74⟩ [] rfl (List.forall_mem_cons.mpr ⟨ps_UO_IO _ _ _, List.forall_mem_cons.mpr ⟨ps_UO_IS _ _ _, fun z9 h9 => nomatch h9⟩⟩) (by decide) (by decide) tw_4_59 tw_3_94 (pc2 := 18) rfl (fun q9 => ?_)
      refine j_astore_n X (i := 3) dL_putInRack_18 rfl (by decide) rfl ?_
      refine j_iconst X (v := (nI 3)) dL_putInRack_19 (by decide) ?_
      exact j_iret_x X dL_putInRack_20 rfl rfl ⟨by rw [hi], ⟨_, hO, fun h9 => absurd ((congrArg nI hi).symm.trans h9) (by decide)⟩, fun _ _ => rfl, hG2, hf⟩
    | i9 + 3, hE, hi => cases hE
theorem iw_takeOut : jCaW mL_takeOut [(0, 9, 12, 21), (0, 9, 15, 15)] 3 := ⟨tw_4_192, tw_1_0, ⟨by decide, by decide⟩, by decide +kernel, by decide +kernel⟩
theorem w_takeOut {l : Launch} {g : jG} (hok : jOk g) (hst : l.stackTraces = false) {z : Option Nat} {sk : jS} {t : jT} {kw : Nat → Nat} (hP : isPr g kw sk) {G : GS} (hG : RcG t G) (hK : okG G) {a0 : Nat → Int64} (hO : sk 462 = some (kL 1 a0)) (o : Int32) : jMetW l g mL_takeOut [(0, 9, 12, 21), (0, 9, 15, 15)] 10 3 18 [.ref (jb g + 0), .int o, .ref (jb g + 462)] z sk t (wP Int32.toInt64 (a_takeOut false G o) sk t) := by
  obtain ⟨P0, P1, P2, P3, P4, P5, P6, P7, P8⟩ := id hP
  refine j_bodyW (lv := [some (.ref (jb g + 0)), some (.int o), some (.ref (jb g + 462)), none]) iw_takeOut hok hst (fun p e s m args below meth c X => ?_)
  refine j_aload_n X (i := 2) dL_takeOut_0 rfl rfl ?_
  refine j_iconst X (v := (nI 0)) dL_takeOut_1 (by decide) ?_
  refine j_aload_n X (i := 0) dL_takeOut_2 rfl rfl ?_
  refine j_iload_n X (i := 1) dL_takeOut_3 rfl rfl ?_
  refine j_callVX_p X (f_takeOut hok hst hP hG hK o) i_X9_takeOut tw_4_193 tw_4_194 tw_4_195 P0 rfl dL_takeOut_4 (fun v2 z2 sk2 t2 hp => ?_) (fun E z2 sk2 t2 hp => ?_)
  · obtain ⟨h0, rfl, rfl, rfl, hG2, hf⟩ := hp
    refine j_i2l X dL_takeOut_7 rfl ?_
    refine j_lastore X hO rfl ⟨by decide, by decide⟩ dL_takeOut_8 ?_
    refine j_goto X (tgt := 18) dL_takeOut_9 (by decide) ?_
    refine j_iconst X (v := (nI 0)) dL_takeOut_18 (by decide) ?_
    exact j_iret_x X dL_takeOut_19 rfl rfl ⟨by rw [h0], ⟨_, jN_eq _ _ _, fun _ => if_pos rfl⟩, fun c hc => jN_ne _ _ hc, hG2, hf⟩
  · obtain ⟨h0, hE, rfl, rfl, hG2, hf⟩ := hp
    obtain ⟨i, hi⟩ : ∃ i, (a_takeOut false G o).1 = i + 1 := ⟨_, (Nat.succ_pred_eq_of_pos h0).symm⟩
    rw [hi] at hE
    match i, hE, hi with
    | 0, hE, hi =>
      cases hE
      refine j_catch X [] ⟨0, 9, 12, 21⟩ [⟨0, 9, 15, 15⟩] rfl (fun z9 h9 => nomatch h9) (by decide) (by decide) tw_3_115 tw_2_214 (pc2 := 12) rfl (fun q9 => ?_)
      refine j_astore_n X (i := 3) dL_takeOut_12 rfl (by decide) rfl ?_
      refine j_iconst X (v := (nI 1)) dL_takeOut_13 (by decide) ?_
      exact j_iret_x X dL_takeOut_14 rfl rfl ⟨by rw [hi], ⟨_, hO, fun h9 => absurd ((congrArg nI hi).symm.trans h9) (by decide)⟩, fun _ _ => rfl, hG2, hf⟩
    | 1, hE, hi =>
      cases hE
      refine j_catch X [⟨0, 9, 12, 21⟩] ⟨0, 9, 15, 15⟩ [] rfl (List.forall_mem_cons.mpr ⟨ps_IS_IO _ _ _, fun z9 h9 => nomatch h9⟩) (by decide) (by decide) tw_2_184 tw_3_62 (pc2 := 15) rfl (fun q9 => ?_)
      refine j_astore_n X (i := 3) dL_takeOut_15 rfl (by decide) rfl ?_
      refine j_iconst X (v := (nI 2)) dL_takeOut_16 (by decide) ?_
      exact j_iret_x X dL_takeOut_17 rfl rfl ⟨by rw [hi], ⟨_, hO, fun h9 => absurd ((congrArg nI hi).symm.trans h9) (by decide)⟩, fun _ _ => rfl, hG2, hf⟩
    | i9 + 2, hE, hi => cases hE
theorem iw_rackPlace : jCaW mL_rackPlace [(0, 9, 12, 21), (0, 9, 15, 26)] 3 := ⟨tw_4_203, tw_1_0, ⟨by decide, by decide⟩, by decide +kernel, by decide +kernel⟩
theorem w_rackPlace {l : Launch} {g : jG} (hok : jOk g) (hst : l.stackTraces = false) {z : Option Nat} {sk : jS} {t : jT} {kw : Nat → Nat} (hP : isPr g kw sk) {G : GS} (hG : RcG t G) (hK : okG G) {a0 : Nat → Int64} (hO : sk 462 = some (kL 1 a0)) (o : Int32) : jMetW l g mL_rackPlace [(0, 9, 12, 21), (0, 9, 15, 26)] 10 3 18 [.ref (jb g + 0), .int o, .ref (jb g + 462)] z sk t (wP Int32.toInt64 (a_rackPlace G o) sk t) := by
  obtain ⟨P0, P1, P2, P3, P4, P5, P6, P7, P8⟩ := id hP
  refine j_bodyW (lv := [some (.ref (jb g + 0)), some (.int o), some (.ref (jb g + 462)), none]) iw_rackPlace hok hst (fun p e s m args below meth c X => ?_)
  refine j_aload_n X (i := 2) dL_rackPlace_0 rfl rfl ?_
  refine j_iconst X (v := (nI 0)) dL_rackPlace_1 (by decide) ?_
  refine j_aload_n X (i := 0) dL_rackPlace_2 rfl rfl ?_
  refine j_iload_n X (i := 1) dL_rackPlace_3 rfl rfl ?_
  refine j_callVX_p X (f_rackPlace hok hst hP hG hK o) i_X9_rackPlace tw_4_204 tw_4_205 tw_4_206 P0 rfl dL_rackPlace_4 (fun v2 z2 sk2 t2 hp => ?_) (fun E z2 sk2 t2 hp => ?_)
  · obtain ⟨h0, rfl, rfl, rfl, hG2, hf⟩ := hp
    refine j_i2l X dL_rackPlace_7 rfl ?_
    refine j_lastore X hO rfl ⟨by decide, by decide⟩ dL_rackPlace_8 ?_
    refine j_goto X (tgt := 18) dL_rackPlace_9 (by decide) ?_
    refine j_iconst X (v := (nI 0)) dL_rackPlace_18 (by decide) ?_
    exact j_iret_x X dL_rackPlace_19 rfl rfl ⟨by rw [h0], ⟨_, jN_eq _ _ _, fun _ => if_pos rfl⟩, fun c hc => jN_ne _ _ hc, hG2, hf⟩
  · obtain ⟨h0, hE, rfl, rfl, hG2, hf⟩ := hp
    obtain ⟨i, hi⟩ : ∃ i, (a_rackPlace G o).1 = i + 1 := ⟨_, (Nat.succ_pred_eq_of_pos h0).symm⟩
    rw [hi] at hE
    match i, hE, hi with
    | 0, hE, hi =>
      cases hE
      refine j_catch X [] ⟨0, 9, 12, 21⟩ [⟨0, 9, 15, 26⟩] rfl (fun z9 h9 => nomatch h9) (by decide) (by decide) tw_3_115 tw_2_214 (pc2 := 12) rfl (fun q9 => ?_)
      refine j_astore_n X (i := 3) dL_rackPlace_12 rfl (by decide) rfl ?_
      refine j_iconst X (v := (nI 1)) dL_rackPlace_13 (by decide) ?_
      exact j_iret_x X dL_rackPlace_14 rfl rfl ⟨by rw [hi], ⟨_, hO, fun h9 => absurd ((congrArg nI hi).symm.trans h9) (by decide)⟩, fun _ _ => rfl, hG2, hf⟩
    | 1, hE, hi =>
      cases hE
      refine j_catch X [⟨0, 9, 12, 21⟩] ⟨0, 9, 15, 26⟩ [] rfl (List.forall_mem_cons.mpr ⟨ps_NS_IO _ _ _, fun z9 h9 => nomatch h9⟩) (by decide) (by decide) tw_3_161 tw_3_78 (pc2 := 15) rfl (fun q9 => ?_)
      refine j_astore_n X (i := 3) dL_rackPlace_15 rfl (by decide) rfl ?_
      refine j_iconst X (v := (nI 2)) dL_rackPlace_16 (by decide) ?_
      exact j_iret_x X dL_rackPlace_17 rfl rfl ⟨by rw [hi], ⟨_, hO, fun h9 => absurd ((congrArg nI hi).symm.trans h9) (by decide)⟩, fun _ _ => rfl, hG2, hf⟩
    | i9 + 2, hE, hi => cases hE
theorem iw_sheetInRack : jCaW mL_sheetInRack [(0, 9, 12, 21), (0, 9, 15, 26)] 3 := ⟨tw_4_212, tw_1_0, ⟨by decide, by decide⟩, by decide +kernel, by decide +kernel⟩
theorem w_sheetInRack {l : Launch} {g : jG} (hok : jOk g) (hst : l.stackTraces = false) {z : Option Nat} {sk : jS} {t : jT} {kw : Nat → Nat} (hP : isPr g kw sk) {G : GS} (hG : RcG t G) (hK : okG G) {a0 : Nat → Int64} (hO : sk 462 = some (kL 1 a0)) (x : Int32) : jMetW l g mL_sheetInRack [(0, 9, 12, 21), (0, 9, 15, 26)] 10 3 18 [.ref (jb g + 0), .int x, .ref (jb g + 462)] z sk t (wP Int32.toInt64 (a_sheetInRack G x) sk t) := by
  obtain ⟨P0, P1, P2, P3, P4, P5, P6, P7, P8⟩ := id hP
  refine j_bodyW (lv := [some (.ref (jb g + 0)), some (.int x), some (.ref (jb g + 462)), none]) iw_sheetInRack hok hst (fun p e s m args below meth c X => ?_)
  refine j_aload_n X (i := 2) dL_sheetInRack_0 rfl rfl ?_
  refine j_iconst X (v := (nI 0)) dL_sheetInRack_1 (by decide) ?_
  refine j_aload_n X (i := 0) dL_sheetInRack_2 rfl rfl ?_
  refine j_iload_n X (i := 1) dL_sheetInRack_3 rfl rfl ?_
  refine j_callVX_p X (f_sheetInRack hok hst hP hG hK x) i_X9_sheetInRack tw_4_213 tw_4_214 tw_4_215 P0 rfl dL_sheetInRack_4 (fun v2 z2 sk2 t2 hp => ?_) (fun E z2 sk2 t2 hp => ?_)
  · obtain ⟨h0, rfl, rfl, rfl, hG2, hf⟩ := hp
    refine j_i2l X dL_sheetInRack_7 rfl ?_
    refine j_lastore X hO rfl ⟨by decide, by decide⟩ dL_sheetInRack_8 ?_
    refine j_goto X (tgt := 18) dL_sheetInRack_9 (by decide) ?_
    refine j_iconst X (v := (nI 0)) dL_sheetInRack_18 (by decide) ?_
    exact j_iret_x X dL_sheetInRack_19 rfl rfl ⟨by rw [h0], ⟨_, jN_eq _ _ _, fun _ => if_pos rfl⟩, fun c hc => jN_ne _ _ hc, hG2, hf⟩
  · obtain ⟨h0, hE, rfl, rfl, hG2, hf⟩ := hp
    obtain ⟨i, hi⟩ : ∃ i, (a_sheetInRack G x).1 = i + 1 := ⟨_, (Nat.succ_pred_eq_of_pos h0).symm⟩
    rw [hi] at hE
    match i, hE, hi with
    | 0, hE, hi =>
      cases hE
      refine j_catch X [] ⟨0, 9, 12, 21⟩ [⟨0, 9, 15, 26⟩] rfl (fun z9 h9 => nomatch h9) (by decide) (by decide) tw_3_115 tw_2_214 (pc2 := 12) rfl (fun q9 => ?_)
      refine j_astore_n X (i := 3) dL_sheetInRack_12 rfl (by decide) rfl ?_
      refine j_iconst X (v := (nI 1)) dL_sheetInRack_13 (by decide) ?_
      exact j_iret_x X dL_sheetInRack_14 rfl rfl ⟨by rw [hi], ⟨_, hO, fun h9 => absurd ((congrArg nI hi).symm.trans h9) (by decide)⟩, fun _ _ => rfl, hG2, hf⟩
    | 1, hE, hi =>
      cases hE
      refine j_catch X [⟨0, 9, 12, 21⟩] ⟨0, 9, 15, 26⟩ [] rfl (List.forall_mem_cons.mpr ⟨ps_NS_IO _ _ _, fun z9 h9 => nomatch h9⟩) (by decide) (by decide) tw_3_161 tw_3_78 (pc2 := 15) rfl (fun q9 => ?_)
      refine j_astore_n X (i := 3) dL_sheetInRack_15 rfl (by decide) rfl ?_
      refine j_iconst X (v := (nI 2)) dL_sheetInRack_16 (by decide) ?_
      exact j_iret_x X dL_sheetInRack_17 rfl rfl ⟨by rw [hi], ⟨_, hO, fun h9 => absurd ((congrArg nI hi).symm.trans h9) (by decide)⟩, fun _ _ => rfl, hG2, hf⟩
    | i9 + 2, hE, hi => cases hE
theorem iw_addInk : jCaW mL_addInk [(0, 10, 13, 13), (0, 10, 17, 15)] 4 := ⟨tw_4_222, tw_1_0, ⟨by decide, by decide⟩, by decide +kernel, by decide +kernel⟩
theorem w_addInk {l : Launch} {g : jG} (hok : jOk g) (hst : l.stackTraces = false) {z : Option Nat} {sk : jS} {t : jT} {kw : Nat → Nat} (hP : isPr g kw sk) {G : GS} (hG : RcG t G) (hK : okG G) {a0 : Nat → Int64} (hO : sk 462 = some (kL 1 a0)) (x y : Int32) : jMetW l g mL_addInk [(0, 10, 13, 13), (0, 10, 17, 15)] 10 3 18 [.ref (jb g + 0), .int x, .int y, .ref (jb g + 462)] z sk t (wP Int32.toInt64 (a_addInk false G x y) sk t) := by
  obtain ⟨P0, P1, P2, P3, P4, P5, P6, P7, P8⟩ := id hP
  refine j_bodyW (lv := [some (.ref (jb g + 0)), some (.int x), some (.int y), some (.ref (jb g + 462)), none]) iw_addInk hok hst (fun p e s m args below meth c X => ?_)
  refine j_aload_n X (i := 3) dL_addInk_0 rfl rfl ?_
  refine j_iconst X (v := (nI 0)) dL_addInk_1 (by decide) ?_
  refine j_aload_n X (i := 0) dL_addInk_2 rfl rfl ?_
  refine j_iload_n X (i := 1) dL_addInk_3 rfl rfl ?_
  refine j_iload_n X (i := 2) dL_addInk_4 rfl rfl ?_
  refine j_callVX_p X (f_addInk hok hst hP hG hK x y) i_X9_addInk tw_4_223 tw_4_224 tw_4_225 P0 rfl dL_addInk_5 (fun v2 z2 sk2 t2 hp => ?_) (fun E z2 sk2 t2 hp => ?_)
  · obtain ⟨h0, rfl, rfl, rfl, hG2, hf⟩ := hp
    refine j_i2l X dL_addInk_8 rfl ?_
    refine j_lastore X hO rfl ⟨by decide, by decide⟩ dL_addInk_9 ?_
    refine j_goto X (tgt := 21) dL_addInk_10 (by decide) ?_
    refine j_iconst X (v := (nI 0)) dL_addInk_21 (by decide) ?_
    exact j_iret_x X dL_addInk_22 rfl rfl ⟨by rw [h0], ⟨_, jN_eq _ _ _, fun _ => if_pos rfl⟩, fun c hc => jN_ne _ _ hc, hG2, hf⟩
  · obtain ⟨h0, hE, rfl, rfl, hG2, hf⟩ := hp
    obtain ⟨i, hi⟩ : ∃ i, (a_addInk false G x y).1 = i + 1 := ⟨_, (Nat.succ_pred_eq_of_pos h0).symm⟩
    rw [hi] at hE
    match i, hE, hi with
    | 0, hE, hi =>
      cases hE
      refine j_catch X [] ⟨0, 10, 13, 13⟩ [⟨0, 10, 17, 15⟩] rfl (fun z9 h9 => nomatch h9) (by decide) (by decide) tw_2_183 tw_3_46 (pc2 := 13) rfl (fun q9 => ?_)
      refine j_astore X (i := 4) dL_addInk_13 (by decide) rfl ?_
      refine j_iconst X (v := (nI 1)) dL_addInk_15 (by decide) ?_
      exact j_iret_x X dL_addInk_16 rfl rfl ⟨by rw [hi], ⟨_, hO, fun h9 => absurd ((congrArg nI hi).symm.trans h9) (by decide)⟩, fun _ _ => rfl, hG2, hf⟩
    | 1, hE, hi =>
      cases hE
      refine j_catch X [⟨0, 10, 13, 13⟩] ⟨0, 10, 17, 15⟩ [] rfl (List.forall_mem_cons.mpr ⟨ps_IS_IA _ _ _, fun z9 h9 => nomatch h9⟩) (by decide) (by decide) tw_2_184 tw_3_62 (pc2 := 17) rfl (fun q9 => ?_)
      refine j_astore X (i := 4) dL_addInk_17 (by decide) rfl ?_
      refine j_iconst X (v := (nI 2)) dL_addInk_19 (by decide) ?_
      exact j_iret_x X dL_addInk_20 rfl rfl ⟨by rw [hi], ⟨_, hO, fun h9 => absurd ((congrArg nI hi).symm.trans h9) (by decide)⟩, fun _ _ => rfl, hG2, hf⟩
    | i9 + 2, hE, hi => cases hE
theorem iw_drops : jCaW mL_drops [(0, 9, 12, 13)] 3 := ⟨tw_4_233, tw_1_0, ⟨by decide, by decide⟩, by decide +kernel, by decide +kernel⟩
theorem w_drops {l : Launch} {g : jG} (hok : jOk g) (hst : l.stackTraces = false) {z : Option Nat} {sk : jS} {t : jT} {kw : Nat → Nat} (hP : isPr g kw sk) {G : GS} (hG : RcG t G) (hK : okG G) {a0 : Nat → Int64} (hO : sk 462 = some (kL 1 a0)) (x : Int32) : jMetW l g mL_drops [(0, 9, 12, 13)] 10 3 18 [.ref (jb g + 0), .int x, .ref (jb g + 462)] z sk t (wP Int32.toInt64 (a_drops G x) sk t) := by
  obtain ⟨P0, P1, P2, P3, P4, P5, P6, P7, P8⟩ := id hP
  refine j_bodyW (lv := [some (.ref (jb g + 0)), some (.int x), some (.ref (jb g + 462)), none]) iw_drops hok hst (fun p e s m args below meth c X => ?_)
  refine j_aload_n X (i := 2) dL_drops_0 rfl rfl ?_
  refine j_iconst X (v := (nI 0)) dL_drops_1 (by decide) ?_
  refine j_aload_n X (i := 0) dL_drops_2 rfl rfl ?_
  refine j_iload_n X (i := 1) dL_drops_3 rfl rfl ?_
  refine j_callVX_p X (f_drops hok hst hP hG hK x) i_X9_drops tw_4_234 tw_4_235 tw_4_236 P0 rfl dL_drops_4 (fun v2 z2 sk2 t2 hp => ?_) (fun E z2 sk2 t2 hp => ?_)
  · obtain ⟨h0, rfl, rfl, rfl, hG2, hf⟩ := hp
    refine j_i2l X dL_drops_7 rfl ?_
    refine j_lastore X hO rfl ⟨by decide, by decide⟩ dL_drops_8 ?_
    refine j_goto X (tgt := 15) dL_drops_9 (by decide) ?_
    refine j_iconst X (v := (nI 0)) dL_drops_15 (by decide) ?_
    exact j_iret_x X dL_drops_16 rfl rfl ⟨by rw [h0], ⟨_, jN_eq _ _ _, fun _ => if_pos rfl⟩, fun c hc => jN_ne _ _ hc, hG2, hf⟩
  · obtain ⟨h0, hE, rfl, rfl, hG2, hf⟩ := hp
    obtain ⟨i, hi⟩ : ∃ i, (a_drops G x).1 = i + 1 := ⟨_, (Nat.succ_pred_eq_of_pos h0).symm⟩
    rw [hi] at hE
    match i, hE, hi with
    | 0, hE, hi =>
      cases hE
      refine j_catch X [] ⟨0, 9, 12, 13⟩ [] rfl (fun z9 h9 => nomatch h9) (by decide) (by decide) tw_2_183 tw_3_46 (pc2 := 12) rfl (fun q9 => ?_)
      refine j_astore_n X (i := 3) dL_drops_12 rfl (by decide) rfl ?_
      refine j_iconst X (v := (nI 1)) dL_drops_13 (by decide) ?_
      exact j_iret_x X dL_drops_14 rfl rfl ⟨by rw [hi], ⟨_, hO, fun h9 => absurd ((congrArg nI hi).symm.trans h9) (by decide)⟩, fun _ _ => rfl, hG2, hf⟩
    | i9 + 1, hE, hi => cases hE
theorem iw_passHours : jCaW mL_passHours [(0, 9, 12, 13)] 3 := ⟨tw_5_3, tw_1_0, ⟨by decide, by decide⟩, by decide +kernel, by decide +kernel⟩
theorem w_passHours {l : Launch} {g : jG} (hok : jOk g) (hst : l.stackTraces = false) {z : Option Nat} {sk : jS} {t : jT} {kw : Nat → Nat} (hP : isPr g kw sk) {G : GS} (hG : RcG t G) (hK : okG G) {a0 : Nat → Int64} (hO : sk 462 = some (kL 1 a0)) (x : Int32) : jMetW l g mL_passHours [(0, 9, 12, 13)] 10 3 18 [.ref (jb g + 0), .int x, .ref (jb g + 462)] z sk t (wP Int32.toInt64 (a_passHours false G x) sk t) := by
  obtain ⟨P0, P1, P2, P3, P4, P5, P6, P7, P8⟩ := id hP
  refine j_bodyW (lv := [some (.ref (jb g + 0)), some (.int x), some (.ref (jb g + 462)), none]) iw_passHours hok hst (fun p e s m args below meth c X => ?_)
  refine j_aload_n X (i := 2) dL_passHours_0 rfl rfl ?_
  refine j_iconst X (v := (nI 0)) dL_passHours_1 (by decide) ?_
  refine j_aload_n X (i := 0) dL_passHours_2 rfl rfl ?_
  refine j_iload_n X (i := 1) dL_passHours_3 rfl rfl ?_
  refine j_callVX_p X (f_passHours hok hst hP hG hK x) i_X9_passHours tw_5_4 tw_5_5 tw_5_6 P0 rfl dL_passHours_4 (fun v2 z2 sk2 t2 hp => ?_) (fun E z2 sk2 t2 hp => ?_)
  · obtain ⟨h0, rfl, rfl, rfl, hG2, hf⟩ := hp
    refine j_i2l X dL_passHours_7 rfl ?_
    refine j_lastore X hO rfl ⟨by decide, by decide⟩ dL_passHours_8 ?_
    refine j_goto X (tgt := 15) dL_passHours_9 (by decide) ?_
    refine j_iconst X (v := (nI 0)) dL_passHours_15 (by decide) ?_
    exact j_iret_x X dL_passHours_16 rfl rfl ⟨by rw [h0], ⟨_, jN_eq _ _ _, fun _ => if_pos rfl⟩, fun c hc => jN_ne _ _ hc, hG2, hf⟩
  · obtain ⟨h0, hE, rfl, rfl, hG2, hf⟩ := hp
    obtain ⟨i, hi⟩ : ∃ i, (a_passHours false G x).1 = i + 1 := ⟨_, (Nat.succ_pred_eq_of_pos h0).symm⟩
    rw [hi] at hE
    match i, hE, hi with
    | 0, hE, hi =>
      cases hE
      refine j_catch X [] ⟨0, 9, 12, 13⟩ [] rfl (fun z9 h9 => nomatch h9) (by decide) (by decide) tw_2_183 tw_3_46 (pc2 := 12) rfl (fun q9 => ?_)
      refine j_astore_n X (i := 3) dL_passHours_12 rfl (by decide) rfl ?_
      refine j_iconst X (v := (nI 1)) dL_passHours_13 (by decide) ?_
      exact j_iret_x X dL_passHours_14 rfl rfl ⟨by rw [hi], ⟨_, hO, fun h9 => absurd ((congrArg nI hi).symm.trans h9) (by decide)⟩, fun _ _ => rfl, hG2, hf⟩
    | i9 + 1, hE, hi => cases hE
theorem iw_hoursUntilDry : jCaW mL_hoursUntilDry [(0, 9, 12, 21)] 3 := ⟨tw_5_20, tw_1_0, ⟨by decide, by decide⟩, by decide +kernel, by decide +kernel⟩
theorem w_hoursUntilDry {l : Launch} {g : jG} (hok : jOk g) (hst : l.stackTraces = false) {z : Option Nat} {sk : jS} {t : jT} {kw : Nat → Nat} (hP : isPr g kw sk) {G : GS} (hG : RcG t G) (hK : okG G) {a0 : Nat → Int64} (hO : sk 462 = some (kL 1 a0)) (o : Int32) : jMetW l g mL_hoursUntilDry [(0, 9, 12, 21)] 10 3 18 [.ref (jb g + 0), .int o, .ref (jb g + 462)] z sk t (wP Int32.toInt64 (a_untilDry G o) sk t) := by
  obtain ⟨P0, P1, P2, P3, P4, P5, P6, P7, P8⟩ := id hP
  refine j_bodyW (lv := [some (.ref (jb g + 0)), some (.int o), some (.ref (jb g + 462)), none]) iw_hoursUntilDry hok hst (fun p e s m args below meth c X => ?_)
  refine j_aload_n X (i := 2) dL_hoursUntilDry_0 rfl rfl ?_
  refine j_iconst X (v := (nI 0)) dL_hoursUntilDry_1 (by decide) ?_
  refine j_aload_n X (i := 0) dL_hoursUntilDry_2 rfl rfl ?_
  refine j_iload_n X (i := 1) dL_hoursUntilDry_3 rfl rfl ?_
  refine j_callVX_p X (f_hoursUntilDry hok hst hP hG hK o) i_X9_hoursUntilDry tw_5_21 tw_5_22 tw_5_23 P0 rfl dL_hoursUntilDry_4 (fun v2 z2 sk2 t2 hp => ?_) (fun E z2 sk2 t2 hp => ?_)
  · obtain ⟨h0, rfl, rfl, rfl, hG2, hf⟩ := hp
    refine j_i2l X dL_hoursUntilDry_7 rfl ?_
    refine j_lastore X hO rfl ⟨by decide, by decide⟩ dL_hoursUntilDry_8 ?_
    refine j_goto X (tgt := 15) dL_hoursUntilDry_9 (by decide) ?_
    refine j_iconst X (v := (nI 0)) dL_hoursUntilDry_15 (by decide) ?_
    exact j_iret_x X dL_hoursUntilDry_16 rfl rfl ⟨by rw [h0], ⟨_, jN_eq _ _ _, fun _ => if_pos rfl⟩, fun c hc => jN_ne _ _ hc, hG2, hf⟩
  · obtain ⟨h0, hE, rfl, rfl, hG2, hf⟩ := hp
    obtain ⟨i, hi⟩ : ∃ i, (a_untilDry G o).1 = i + 1 := ⟨_, (Nat.succ_pred_eq_of_pos h0).symm⟩
    rw [hi] at hE
    match i, hE, hi with
    | 0, hE, hi =>
      cases hE
      refine j_catch X [] ⟨0, 9, 12, 21⟩ [] rfl (fun z9 h9 => nomatch h9) (by decide) (by decide) tw_3_115 tw_2_214 (pc2 := 12) rfl (fun q9 => ?_)
      refine j_astore_n X (i := 3) dL_hoursUntilDry_12 rfl (by decide) rfl ?_
      refine j_iconst X (v := (nI 1)) dL_hoursUntilDry_13 (by decide) ?_
      exact j_iret_x X dL_hoursUntilDry_14 rfl rfl ⟨by rw [hi], ⟨_, hO, fun h9 => absurd ((congrArg nI hi).symm.trans h9) (by decide)⟩, fun _ _ => rfl, hG2, hf⟩
    | i9 + 1, hE, hi => cases hE
theorem iw_hoursUntilDryAtOnce : jCaW mL_hoursUntilDryAtOnce [(0, 9, 12, 21)] 3 := ⟨tw_5_27, tw_1_0, ⟨by decide, by decide⟩, by decide +kernel, by decide +kernel⟩
theorem w_hoursUntilDryAtOnce {l : Launch} {g : jG} (hok : jOk g) (hst : l.stackTraces = false) {z : Option Nat} {sk : jS} {t : jT} {kw : Nat → Nat} (hP : isPr g kw sk) {G : GS} (hG : RcG t G) (hK : okG G) {a0 : Nat → Int64} (hO : sk 462 = some (kL 1 a0)) (o : Int32) : jMetW l g mL_hoursUntilDryAtOnce [(0, 9, 12, 21)] 10 3 18 [.ref (jb g + 0), .int o, .ref (jb g + 462)] z sk t (wP Int32.toInt64 (a_untilDry G o) sk t) := by
  obtain ⟨P0, P1, P2, P3, P4, P5, P6, P7, P8⟩ := id hP
  refine j_bodyW (lv := [some (.ref (jb g + 0)), some (.int o), some (.ref (jb g + 462)), none]) iw_hoursUntilDryAtOnce hok hst (fun p e s m args below meth c X => ?_)
  refine j_aload_n X (i := 2) dL_hoursUntilDryAtOnce_0 rfl rfl ?_
  refine j_iconst X (v := (nI 0)) dL_hoursUntilDryAtOnce_1 (by decide) ?_
  refine j_aload_n X (i := 0) dL_hoursUntilDryAtOnce_2 rfl rfl ?_
  refine j_iload_n X (i := 1) dL_hoursUntilDryAtOnce_3 rfl rfl ?_
  refine j_callVX_p X (f_hoursUntilDryAtOnce hok hst hP hG hK o) i_X9_hoursUntilDryAtOnce tw_5_28 tw_5_29 tw_5_30 P0 rfl dL_hoursUntilDryAtOnce_4 (fun v2 z2 sk2 t2 hp => ?_) (fun E z2 sk2 t2 hp => ?_)
  · obtain ⟨h0, rfl, rfl, rfl, hG2, hf⟩ := hp
    refine j_i2l X dL_hoursUntilDryAtOnce_7 rfl ?_
    refine j_lastore X hO rfl ⟨by decide, by decide⟩ dL_hoursUntilDryAtOnce_8 ?_
    refine j_goto X (tgt := 15) dL_hoursUntilDryAtOnce_9 (by decide) ?_
    refine j_iconst X (v := (nI 0)) dL_hoursUntilDryAtOnce_15 (by decide) ?_
    exact j_iret_x X dL_hoursUntilDryAtOnce_16 rfl rfl ⟨by rw [h0], ⟨_, jN_eq _ _ _, fun _ => if_pos rfl⟩, fun c hc => jN_ne _ _ hc, hG2, hf⟩
  · obtain ⟨h0, hE, rfl, rfl, hG2, hf⟩ := hp
    obtain ⟨i, hi⟩ : ∃ i, (a_untilDry G o).1 = i + 1 := ⟨_, (Nat.succ_pred_eq_of_pos h0).symm⟩
    rw [hi] at hE
    match i, hE, hi with
    | 0, hE, hi =>
      cases hE
      refine j_catch X [] ⟨0, 9, 12, 21⟩ [] rfl (fun z9 h9 => nomatch h9) (by decide) (by decide) tw_3_115 tw_2_214 (pc2 := 12) rfl (fun q9 => ?_)
      refine j_astore_n X (i := 3) dL_hoursUntilDryAtOnce_12 rfl (by decide) rfl ?_
      refine j_iconst X (v := (nI 1)) dL_hoursUntilDryAtOnce_13 (by decide) ?_
      exact j_iret_x X dL_hoursUntilDryAtOnce_14 rfl rfl ⟨by rw [hi], ⟨_, hO, fun h9 => absurd ((congrArg nI hi).symm.trans h9) (by decide)⟩, fun _ _ => rfl, hG2, hf⟩
    | i9 + 1, hE, hi => cases hE
theorem iw_refusalReason : jCaW mL_refusalReason [(0, 8, 11, 26)] 2 := ⟨tw_5_34, tw_1_0, ⟨by decide, by decide⟩, by decide +kernel, by decide +kernel⟩
theorem w_refusalReason {l : Launch} {g : jG} (hok : jOk g) (hst : l.stackTraces = false) {z : Option Nat} {sk : jS} {t : jT} {kw : Nat → Nat} (hP : isPr g kw sk) {G : GS} (hG : RcG t G) (hK : okG G) {a0 : Nat → Int64} (hO : sk 462 = some (kL 1 a0)) : jMetW l g mL_refusalReason [(0, 8, 11, 26)] 10 3 18 [.ref (jb g + 0), .ref (jb g + 462)] z sk t (wP Int32.toInt64 (a_reason G) sk t) := by
  obtain ⟨P0, P1, P2, P3, P4, P5, P6, P7, P8⟩ := id hP
  refine j_bodyW (lv := [some (.ref (jb g + 0)), some (.ref (jb g + 462)), none]) iw_refusalReason hok hst (fun p e s m args below meth c X => ?_)
  refine j_aload_n X (i := 1) dL_refusalReason_0 rfl rfl ?_
  refine j_iconst X (v := (nI 0)) dL_refusalReason_1 (by decide) ?_
  refine j_aload_n X (i := 0) dL_refusalReason_2 rfl rfl ?_
  refine j_callVX_p X (f_refusalReason hok hst hP hG hK) i_X9_refusalReason tw_5_35 tw_5_36 tw_5_37 P0 rfl dL_refusalReason_3 (fun v2 z2 sk2 t2 hp => ?_) (fun E z2 sk2 t2 hp => ?_)
  · obtain ⟨h0, rfl, rfl, rfl, hG2, hf⟩ := hp
    refine j_i2l X dL_refusalReason_6 rfl ?_
    refine j_lastore X hO rfl ⟨by decide, by decide⟩ dL_refusalReason_7 ?_
    refine j_goto X (tgt := 14) dL_refusalReason_8 (by decide) ?_
    refine j_iconst X (v := (nI 0)) dL_refusalReason_14 (by decide) ?_
    exact j_iret_x X dL_refusalReason_15 rfl rfl ⟨by rw [h0], ⟨_, jN_eq _ _ _, fun _ => if_pos rfl⟩, fun c hc => jN_ne _ _ hc, hG2, hf⟩
  · obtain ⟨h0, hE, rfl, rfl, hG2, hf⟩ := hp
    obtain ⟨i, hi⟩ : ∃ i, (a_reason G).1 = i + 1 := ⟨_, (Nat.succ_pred_eq_of_pos h0).symm⟩
    rw [hi] at hE
    match i, hE, hi with
    | 0, hE, hi =>
      cases hE
      refine j_catch X [] ⟨0, 8, 11, 26⟩ [] rfl (fun z9 h9 => nomatch h9) (by decide) (by decide) tw_3_161 tw_3_78 (pc2 := 11) rfl (fun q9 => ?_)
      refine j_astore_n X (i := 2) dL_refusalReason_11 rfl (by decide) rfl ?_
      refine j_iconst X (v := (nI 1)) dL_refusalReason_12 (by decide) ?_
      exact j_iret_x X dL_refusalReason_13 rfl rfl ⟨by rw [hi], ⟨_, hO, fun h9 => absurd ((congrArg nI hi).symm.trans h9) (by decide)⟩, fun _ _ => rfl, hG2, hf⟩
    | i9 + 1, hE, hi => cases hE
theorem iw_refusalDetail : jCaW mL_refusalDetail [(0, 8, 11, 26)] 2 := ⟨tw_5_46, tw_1_0, ⟨by decide, by decide⟩, by decide +kernel, by decide +kernel⟩
theorem w_refusalDetail {l : Launch} {g : jG} (hok : jOk g) (hst : l.stackTraces = false) {z : Option Nat} {sk : jS} {t : jT} {kw : Nat → Nat} (hP : isPr g kw sk) {G : GS} (hG : RcG t G) (hK : okG G) {a0 : Nat → Int64} (hO : sk 462 = some (kL 1 a0)) : jMetW l g mL_refusalDetail [(0, 8, 11, 26)] 10 3 18 [.ref (jb g + 0), .ref (jb g + 462)] z sk t (wP Int32.toInt64 (a_detail G) sk t) := by
  obtain ⟨P0, P1, P2, P3, P4, P5, P6, P7, P8⟩ := id hP
  refine j_bodyW (lv := [some (.ref (jb g + 0)), some (.ref (jb g + 462)), none]) iw_refusalDetail hok hst (fun p e s m args below meth c X => ?_)
  refine j_aload_n X (i := 1) dL_refusalDetail_0 rfl rfl ?_
  refine j_iconst X (v := (nI 0)) dL_refusalDetail_1 (by decide) ?_
  refine j_aload_n X (i := 0) dL_refusalDetail_2 rfl rfl ?_
  refine j_callVX_p X (f_refusalDetail hok hst hP hG hK) i_X9_refusalDetail tw_5_47 tw_5_48 tw_5_49 P0 rfl dL_refusalDetail_3 (fun v2 z2 sk2 t2 hp => ?_) (fun E z2 sk2 t2 hp => ?_)
  · obtain ⟨h0, rfl, rfl, rfl, hG2, hf⟩ := hp
    refine j_i2l X dL_refusalDetail_6 rfl ?_
    refine j_lastore X hO rfl ⟨by decide, by decide⟩ dL_refusalDetail_7 ?_
    refine j_goto X (tgt := 14) dL_refusalDetail_8 (by decide) ?_
    refine j_iconst X (v := (nI 0)) dL_refusalDetail_14 (by decide) ?_
    exact j_iret_x X dL_refusalDetail_15 rfl rfl ⟨by rw [h0], ⟨_, jN_eq _ _ _, fun _ => if_pos rfl⟩, fun c hc => jN_ne _ _ hc, hG2, hf⟩
  · obtain ⟨h0, hE, rfl, rfl, hG2, hf⟩ := hp
    obtain ⟨i, hi⟩ : ∃ i, (a_detail G).1 = i + 1 := ⟨_, (Nat.succ_pred_eq_of_pos h0).symm⟩
    rw [hi] at hE
    match i, hE, hi with
    | 0, hE, hi =>
      cases hE
      refine j_catch X [] ⟨0, 8, 11, 26⟩ [] rfl (fun z9 h9 => nomatch h9) (by decide) (by decide) tw_3_161 tw_3_78 (pc2 := 11) rfl (fun q9 => ?_)
      refine j_astore_n X (i := 2) dL_refusalDetail_11 rfl (by decide) rfl ?_
      refine j_iconst X (v := (nI 1)) dL_refusalDetail_12 (by decide) ?_
      exact j_iret_x X dL_refusalDetail_13 rfl rfl ⟨by rw [hi], ⟨_, hO, fun h9 => absurd ((congrArg nI hi).symm.trans h9) (by decide)⟩, fun _ _ => rfl, hG2, hf⟩
    | i9 + 1, hE, hi => cases hE
theorem iw_meanWetness : jCaW mL_meanWetness [(0, 7, 10, 141)] 2 := ⟨tw_5_53, tw_1_0, ⟨by decide, by decide⟩, by decide +kernel, by decide +kernel⟩
theorem w_meanWetness {l : Launch} {g : jG} (hok : jOk g) (hst : l.stackTraces = false) {z : Option Nat} {sk : jS} {t : jT} {kw : Nat → Nat} (hP : isPr g kw sk) {G : GS} (hG : RcG t G) (hK : okG G) {a0 : Nat → UInt64} (hO : sk 463 = some (kD 1 a0)) : jMetW l g mL_meanWetness [(0, 7, 10, 141)] 10 3 18 [.ref (jb g + 0), .ref (jb g + 463)] z sk t (wD (a_meanN G) (a_mean G) G sk t) := by
  obtain ⟨P0, P1, P2, P3, P4, P5, P6, P7, P8⟩ := id hP
  refine j_bodyW (lv := [some (.ref (jb g + 0)), some (.ref (jb g + 463)), none]) iw_meanWetness hok hst (fun p e s m args below meth c X => ?_)
  refine j_aload_n X (i := 1) dL_meanWetness_0 rfl rfl ?_
  refine j_iconst X (v := (nI 0)) dL_meanWetness_1 (by decide) ?_
  refine j_aload_n X (i := 0) dL_meanWetness_2 rfl rfl ?_
  refine j_callVX_p X (f_meanWetness hok hst hP hG hK) i_X9_meanWetness tw_5_68 tw_5_69 tw_5_70 P0 rfl dL_meanWetness_3 (fun v2 z2 sk2 t2 hp => ?_) (fun E z2 sk2 t2 hp => ?_)
  · obtain ⟨h0, rfl, rfl, rfl, hG2, hf⟩ := hp
    refine j_dastore X hO rfl ⟨by decide, by decide⟩ dL_meanWetness_6 ?_
    refine j_goto X (tgt := 13) dL_meanWetness_7 (by decide) ?_
    refine j_iconst X (v := (nI 0)) dL_meanWetness_13 (by decide) ?_
    exact j_iret_x X dL_meanWetness_14 rfl rfl ⟨by rw [h0], ⟨_, jN_eq _ _ _, fun _ => if_pos rfl⟩, fun c hc => jN_ne _ _ hc, hG2, hf⟩
  · obtain ⟨hi, rfl, rfl, rfl, hG2, hf⟩ := hp
    refine j_catch X [] ⟨0, 7, 10, 141⟩ [] rfl (fun z9 h9 => nomatch h9) (by decide) (by decide) tw_5_54 tw_5_66 (pc2 := 10) rfl (fun q9 => ?_)
    refine j_astore_n X (i := 2) dL_meanWetness_10 rfl (by decide) rfl ?_
    refine j_iconst X (v := (nI 1)) dL_meanWetness_11 (by decide) ?_
    exact j_iret_x X dL_meanWetness_12 rfl rfl ⟨by rw [hi], ⟨_, hO, fun h9 => absurd ((congrArg nI hi).symm.trans h9) (by decide)⟩, fun _ _ => rfl, hG2, hf⟩
theorem iw_smearedFraction : jCaW mL_smearedFraction [(0, 8, 11, 141)] 2 := ⟨tw_5_81, tw_1_0, ⟨by decide, by decide⟩, by decide +kernel, by decide +kernel⟩
theorem w_smearedFraction {l : Launch} {g : jG} (hok : jOk g) (hst : l.stackTraces = false) {z : Option Nat} {sk : jS} {t : jT} {kw : Nat → Nat} (hP : isPr g kw sk) {G : GS} (hG : RcG t G) (hK : okG G) {a0 : Nat → UInt64} (hO : sk 463 = some (kD 1 a0)) : jMetW l g mL_smearedFraction [(0, 8, 11, 141)] 10 3 18 [.ref (jb g + 0), .ref (jb g + 463)] z sk t (wD (a_meanN G) (FP.f2d (a_frac G)) G sk t) := by
  obtain ⟨P0, P1, P2, P3, P4, P5, P6, P7, P8⟩ := id hP
  refine j_bodyW (lv := [some (.ref (jb g + 0)), some (.ref (jb g + 463)), none]) iw_smearedFraction hok hst (fun p e s m args below meth c X => ?_)
  refine j_aload_n X (i := 1) dL_smearedFraction_0 rfl rfl ?_
  refine j_iconst X (v := (nI 0)) dL_smearedFraction_1 (by decide) ?_
  refine j_aload_n X (i := 0) dL_smearedFraction_2 rfl rfl ?_
  refine j_callVX_p X (f_smearedFraction hok hst hP hG hK) i_X9_smearedFraction tw_5_82 tw_5_83 tw_5_84 P0 rfl dL_smearedFraction_3 (fun v2 z2 sk2 t2 hp => ?_) (fun E z2 sk2 t2 hp => ?_)
  · obtain ⟨h0, rfl, rfl, rfl, hG2, hf⟩ := hp
    refine j_f2d X dL_smearedFraction_6 (frac_n hK h0) ?_
    refine j_dastore X hO rfl ⟨by decide, by decide⟩ dL_smearedFraction_7 ?_
    refine j_goto X (tgt := 14) dL_smearedFraction_8 (by decide) ?_
    refine j_iconst X (v := (nI 0)) dL_smearedFraction_14 (by decide) ?_
    exact j_iret_x X dL_smearedFraction_15 rfl rfl ⟨by rw [h0], ⟨_, jN_eq _ _ _, fun _ => if_pos rfl⟩, fun c hc => jN_ne _ _ hc, hG2, hf⟩
  · obtain ⟨hi, rfl, rfl, rfl, hG2, hf⟩ := hp
    refine j_catch X [] ⟨0, 8, 11, 141⟩ [] rfl (fun z9 h9 => nomatch h9) (by decide) (by decide) tw_5_54 tw_5_66 (pc2 := 11) rfl (fun q9 => ?_)
    refine j_astore_n X (i := 2) dL_smearedFraction_11 rfl (by decide) rfl ?_
    refine j_iconst X (v := (nI 1)) dL_smearedFraction_12 (by decide) ?_
    exact j_iret_x X dL_smearedFraction_13 rfl rfl ⟨by rw [hi], ⟨_, hO, fun h9 => absurd ((congrArg nI hi).symm.trans h9) (by decide)⟩, fun _ _ => rfl, hG2, hf⟩
theorem iw_writeRow : jCaW mL_writeRow [(0, 10, 13, 21), (0, 10, 17, 13)] 4 := ⟨tw_5_88, tw_1_0, ⟨by decide, by decide⟩, by decide +kernel, by decide +kernel⟩
theorem w_writeRow {l : Launch} {g : jG} (hok : jOk g) (hst : l.stackTraces = false) {z : Option Nat} {sk : jS} {t : jT} {kw : Nat → Nat} (hP : isPr g kw sk) {G : GS} (hG : RcG t G) (hK : okG G) {a0 : Nat → Int64} (hO : sk 462 = some (kL 1 a0)) (o y : Int32) : jMetW l g mL_writeRow [(0, 10, 13, 21), (0, 10, 17, 13)] 10 3 18 [.ref (jb g + 0), .int o, .int y, .ref (jb g + 462)] z sk t (wP Int32.toInt64 (a_writeRow G o y) sk t) := by
  obtain ⟨P0, P1, P2, P3, P4, P5, P6, P7, P8⟩ := id hP
  refine j_bodyW (lv := [some (.ref (jb g + 0)), some (.int o), some (.int y), some (.ref (jb g + 462)), none]) iw_writeRow hok hst (fun p e s m args below meth c X => ?_)
  refine j_aload_n X (i := 3) dL_writeRow_0 rfl rfl ?_
  refine j_iconst X (v := (nI 0)) dL_writeRow_1 (by decide) ?_
  refine j_aload_n X (i := 0) dL_writeRow_2 rfl rfl ?_
  refine j_iload_n X (i := 1) dL_writeRow_3 rfl rfl ?_
  refine j_iload_n X (i := 2) dL_writeRow_4 rfl rfl ?_
  refine j_callVX_p X (f_writeRow hok hst hP hG hK o y) i_X9_writeRow tw_5_89 tw_5_90 tw_5_91 P0 rfl dL_writeRow_5 (fun v2 z2 sk2 t2 hp => ?_) (fun E z2 sk2 t2 hp => ?_)
  · obtain ⟨h0, rfl, rfl, rfl, hG2, hf⟩ := hp
    refine j_i2l X dL_writeRow_8 rfl ?_
    refine j_lastore X hO rfl ⟨by decide, by decide⟩ dL_writeRow_9 ?_
    refine j_goto X (tgt := 21) dL_writeRow_10 (by decide) ?_
    refine j_iconst X (v := (nI 0)) dL_writeRow_21 (by decide) ?_
    exact j_iret_x X dL_writeRow_22 rfl rfl ⟨by rw [h0], ⟨_, jN_eq _ _ _, fun _ => if_pos rfl⟩, fun c hc => jN_ne _ _ hc, hG2, hf⟩
  · obtain ⟨h0, hE, rfl, rfl, hG2, hf⟩ := hp
    obtain ⟨i, hi⟩ : ∃ i, (a_writeRow G o y).1 = i + 1 := ⟨_, (Nat.succ_pred_eq_of_pos h0).symm⟩
    rw [hi] at hE
    match i, hE, hi with
    | 0, hE, hi =>
      cases hE
      refine j_catch X [] ⟨0, 10, 13, 21⟩ [⟨0, 10, 17, 13⟩] rfl (fun z9 h9 => nomatch h9) (by decide) (by decide) tw_3_115 tw_2_214 (pc2 := 13) rfl (fun q9 => ?_)
      refine j_astore X (i := 4) dL_writeRow_13 (by decide) rfl ?_
      refine j_iconst X (v := (nI 1)) dL_writeRow_15 (by decide) ?_
      exact j_iret_x X dL_writeRow_16 rfl rfl ⟨by rw [hi], ⟨_, hO, fun h9 => absurd ((congrArg nI hi).symm.trans h9) (by decide)⟩, fun _ _ => rfl, hG2, hf⟩
    | 1, hE, hi =>
      cases hE
      refine j_catch X [⟨0, 10, 13, 21⟩] ⟨0, 10, 17, 13⟩ [] rfl (List.forall_mem_cons.mpr ⟨ps_IA_IO _ _ _, fun z9 h9 => nomatch h9⟩) (by decide) (by decide) tw_2_183 tw_3_46 (pc2 := 17) rfl (fun q9 => ?_)
      refine j_astore X (i := 4) dL_writeRow_17 (by decide) rfl ?_
      refine j_iconst X (v := (nI 2)) dL_writeRow_19 (by decide) ?_
      exact j_iret_x X dL_writeRow_20 rfl rfl ⟨by rw [hi], ⟨_, hO, fun h9 => absurd ((congrArg nI hi).symm.trans h9) (by decide)⟩, fun _ _ => rfl, hG2, hf⟩
    | i9 + 2, hE, hi => cases hE
theorem iw_outputCharacter : jCaW mL_outputCharacter [(0, 9, 12, 21)] 3 := ⟨tw_5_95, tw_1_0, ⟨by decide, by decide⟩, by decide +kernel, by decide +kernel⟩
theorem w_outputCharacter {l : Launch} {g : jG} (hok : jOk g) (hst : l.stackTraces = false) {z : Option Nat} {sk : jS} {t : jT} {kw : Nat → Nat} (hP : isPr g kw sk) {G : GS} (hG : RcG t G) (hK : okG G) {a0 : Nat → Int64} (hO : sk 462 = some (kL 1 a0)) (x : Int32) : jMetW l g mL_outputCharacter [(0, 9, 12, 21)] 10 3 18 [.ref (jb g + 0), .int x, .ref (jb g + 462)] z sk t (wP Int32.toInt64 (a_outChar G x) sk t) := by
  obtain ⟨P0, P1, P2, P3, P4, P5, P6, P7, P8⟩ := id hP
  refine j_bodyW (lv := [some (.ref (jb g + 0)), some (.int x), some (.ref (jb g + 462)), none]) iw_outputCharacter hok hst (fun p e s m args below meth c X => ?_)
  refine j_aload_n X (i := 2) dL_outputCharacter_0 rfl rfl ?_
  refine j_iconst X (v := (nI 0)) dL_outputCharacter_1 (by decide) ?_
  refine j_aload_n X (i := 0) dL_outputCharacter_2 rfl rfl ?_
  refine j_iload_n X (i := 1) dL_outputCharacter_3 rfl rfl ?_
  refine j_callVX_p X (f_outputCharacter hok hst hP hG hK x) i_X9_outputCharacter tw_5_96 tw_5_97 tw_5_98 P0 rfl dL_outputCharacter_4 (fun v2 z2 sk2 t2 hp => ?_) (fun E z2 sk2 t2 hp => ?_)
  · obtain ⟨h0, rfl, rfl, rfl, hG2, hf⟩ := hp
    refine j_i2l X dL_outputCharacter_7 rfl ?_
    refine j_lastore X hO rfl ⟨by decide, by decide⟩ dL_outputCharacter_8 ?_
    refine j_goto X (tgt := 15) dL_outputCharacter_9 (by decide) ?_
    refine j_iconst X (v := (nI 0)) dL_outputCharacter_15 (by decide) ?_
    exact j_iret_x X dL_outputCharacter_16 rfl rfl ⟨by rw [h0], ⟨_, jN_eq _ _ _, fun _ => if_pos rfl⟩, fun c hc => jN_ne _ _ hc, hG2, hf⟩
  · obtain ⟨h0, hE, rfl, rfl, hG2, hf⟩ := hp
    obtain ⟨i, hi⟩ : ∃ i, (a_outChar G x).1 = i + 1 := ⟨_, (Nat.succ_pred_eq_of_pos h0).symm⟩
    rw [hi] at hE
    match i, hE, hi with
    | 0, hE, hi =>
      cases hE
      refine j_catch X [] ⟨0, 9, 12, 21⟩ [] rfl (fun z9 h9 => nomatch h9) (by decide) (by decide) tw_3_115 tw_2_214 (pc2 := 12) rfl (fun q9 => ?_)
      refine j_astore_n X (i := 3) dL_outputCharacter_12 rfl (by decide) rfl ?_
      refine j_iconst X (v := (nI 1)) dL_outputCharacter_13 (by decide) ?_
      exact j_iret_x X dL_outputCharacter_14 rfl rfl ⟨by rw [hi], ⟨_, hO, fun h9 => absurd ((congrArg nI hi).symm.trans h9) (by decide)⟩, fun _ _ => rfl, hG2, hf⟩
    | i9 + 1, hE, hi => cases hE
theorem iw_feed : jCaW mL_feed [(0, 9, 12, 15)] 3 := ⟨tw_5_103, tw_1_0, ⟨by decide, by decide⟩, by decide +kernel, by decide +kernel⟩
theorem w_feed {l : Launch} {g : jG} (hok : jOk g) (hst : l.stackTraces = false) {z : Option Nat} {sk : jS} {t : jT} {kw : Nat → Nat} (hP : isPr g kw sk) {G : GS} (hG : RcG t G) (hK : okG G) {a0 : Nat → Int64} (hO : sk 462 = some (kL 1 a0)) {x : Nat} (hx : x < 65536) : jMetW l g mL_feed [(0, 9, 12, 15)] 10 3 18 [.ref (jb g + 0), .int (nI x), .ref (jb g + 462)] z sk t (wP Int32.toInt64 (a_feed G x) sk t) := by
  obtain ⟨P0, P1, P2, P3, P4, P5, P6, P7, P8⟩ := id hP
  refine j_bodyW (lv := [some (.ref (jb g + 0)), some (.int (nI x)), some (.ref (jb g + 462)), none]) iw_feed hok hst (fun p e s m args below meth c X => ?_)
  refine j_aload_n X (i := 2) dL_feed_0 rfl rfl ?_
  refine j_iconst X (v := (nI 0)) dL_feed_1 (by decide) ?_
  refine j_aload_n X (i := 0) dL_feed_2 rfl rfl ?_
  refine j_iload_n X (i := 1) dL_feed_3 rfl rfl ?_
  refine j_callVX_p X (f_feed hok hst hP hG hK hx) i_X9_feed tw_5_104 tw_5_105 tw_5_106 P0 rfl dL_feed_4 (fun v2 z2 sk2 t2 hp => ?_) (fun E z2 sk2 t2 hp => ?_)
  · obtain ⟨h0, rfl, rfl, rfl, hG2, hf⟩ := hp
    refine j_i2l X dL_feed_7 rfl ?_
    refine j_lastore X hO rfl ⟨by decide, by decide⟩ dL_feed_8 ?_
    refine j_goto X (tgt := 15) dL_feed_9 (by decide) ?_
    refine j_iconst X (v := (nI 0)) dL_feed_15 (by decide) ?_
    exact j_iret_x X dL_feed_16 rfl rfl ⟨by rw [h0], ⟨_, jN_eq _ _ _, fun _ => if_pos rfl⟩, fun c hc => jN_ne _ _ hc, hG2, hf⟩
  · obtain ⟨h0, hE, rfl, rfl, hG2, hf⟩ := hp
    obtain ⟨i, hi⟩ : ∃ i, (a_feed G x).1 = i + 1 := ⟨_, (Nat.succ_pred_eq_of_pos h0).symm⟩
    rw [hi] at hE
    match i, hE, hi with
    | 0, hE, hi =>
      cases hE
      refine j_catch X [] ⟨0, 9, 12, 15⟩ [] rfl (fun z9 h9 => nomatch h9) (by decide) (by decide) tw_2_184 tw_3_62 (pc2 := 12) rfl (fun q9 => ?_)
      refine j_astore_n X (i := 3) dL_feed_12 rfl (by decide) rfl ?_
      refine j_iconst X (v := (nI 1)) dL_feed_13 (by decide) ?_
      exact j_iret_x X dL_feed_14 rfl rfl ⟨by rw [hi], ⟨_, hO, fun h9 => absurd ((congrArg nI hi).symm.trans h9) (by decide)⟩, fun _ _ => rfl, hG2, hf⟩
    | i9 + 1, hE, hi => cases hE
theorem iw_execute : jCaW mL_execute [(0, 8, 11, 13), (0, 8, 14, 74)] 2 := ⟨tw_5_119, tw_1_0, ⟨by decide, by decide⟩, by decide +kernel, by decide +kernel⟩
theorem w_execute {l : Launch} {g : jG} (hok : jOk g) (hst : l.stackTraces = false) {z : Option Nat} {sk : jS} {t : jT} {kw : Nat → Nat} (hP : isPr g kw sk) {G : GS} (hG : RcG t G) (hK : okG G) {a0 : Nat → Int64} (hO : sk 462 = some (kL 1 a0)) {K w9 : Nat} {sa : Nat → Nat} (hK9 : oKw g K kw sa w9) : jMetW l g mL_execute [(0, 8, 11, 13), (0, 8, 14, 74)] 10 3 18 [.ref (jb g + 0), .ref (jb g + 462)] z sk t (wP Int32.toInt64 (a_execute G) sk t) := by
  obtain ⟨P0, P1, P2, P3, P4, P5, P6, P7, P8⟩ := id hP
  refine j_bodyW (lv := [some (.ref (jb g + 0)), some (.ref (jb g + 462)), none]) iw_execute hok hst (fun p e s m args below meth c X => ?_)
  refine j_aload_n X (i := 1) dL_execute_0 rfl rfl ?_
  refine j_iconst X (v := (nI 0)) dL_execute_1 (by decide) ?_
  refine j_aload_n X (i := 0) dL_execute_2 rfl rfl ?_
  refine j_callVX_p X (f_execute hok hst hP hK9 hG hK) i_X9_execute tw_5_120 tw_5_121 tw_5_122 P0 rfl dL_execute_3 (fun v2 z2 sk2 t2 hp => ?_) (fun E z2 sk2 t2 hp => ?_)
  · obtain ⟨h0, rfl, rfl, rfl, hG2, hf⟩ := hp
    refine j_i2l X dL_execute_6 rfl ?_
    refine j_lastore X hO rfl ⟨by decide, by decide⟩ dL_execute_7 ?_
    refine j_goto X (tgt := 17) dL_execute_8 (by decide) ?_
    refine j_iconst X (v := (nI 0)) dL_execute_17 (by decide) ?_
    exact j_iret_x X dL_execute_18 rfl rfl ⟨by rw [h0], ⟨_, jN_eq _ _ _, fun _ => if_pos rfl⟩, fun c hc => jN_ne _ _ hc, hG2, hf⟩
  · obtain ⟨h0, hE, rfl, rfl, hG2, hf⟩ := hp
    obtain ⟨i, hi⟩ : ∃ i, (a_execute G).1 = i + 1 := ⟨_, (Nat.succ_pred_eq_of_pos h0).symm⟩
    rw [hi] at hE
    match i, hE, hi with
    | 0, hE, hi =>
      cases hE
      refine j_catch X [] ⟨0, 8, 11, 13⟩ [⟨0, 8, 14, 74⟩] rfl (fun z9 h9 => nomatch h9) (by decide) (by decide) tw_2_183 tw_3_46 (pc2 := 11) rfl (fun q9 => ?_)
      refine j_astore_n X (i := 2) dL_execute_11 rfl (by decide) rfl ?_
      refine j_iconst X (v := (nI 1)) dL_execute_12 (by decide) ?_
      exact j_iret_x X dL_execute_13 rfl rfl ⟨by rw [hi], ⟨_, hO, fun h9 => absurd ((congrArg nI hi).symm.trans h9) (by decide)⟩, fun _ _ => rfl, hG2, hf⟩
    | 1, hE, hi =>
      cases hE
      refine j_catch X [⟨0, 8, 11, 13⟩] ⟨0, 8, 14, 74⟩ [] rfl (List.forall_mem_cons.mpr ⟨ps_UO_IA _ _ _, fun z9 h9 => nomatch h9⟩) (by decide) (by decide) tw_4_59 tw_3_94 (pc2 := 14) rfl (fun q9 => ?_)
      refine j_astore_n X (i := 2) dL_execute_14 rfl (by decide) rfl ?_
      refine j_iconst X (v := (nI 2)) dL_execute_15 (by decide) ?_
      exact j_iret_x X dL_execute_16 rfl rfl ⟨by rw [hi], ⟨_, hO, fun h9 => absurd ((congrArg nI hi).symm.trans h9) (by decide)⟩, fun _ _ => rfl, hG2, hf⟩
    | i9 + 2, hE, hi => cases hE
theorem iw_errorPosition : jCaW mL_errorPosition [(0, 8, 11, 26)] 2 := ⟨tw_6_16, tw_1_0, ⟨by decide, by decide⟩, by decide +kernel, by decide +kernel⟩
theorem w_errorPosition {l : Launch} {g : jG} (hok : jOk g) (hst : l.stackTraces = false) {z : Option Nat} {sk : jS} {t : jT} {kw : Nat → Nat} (hP : isPr g kw sk) {G : GS} (hG : RcG t G) (hK : okG G) {a0 : Nat → Int64} (hO : sk 462 = some (kL 1 a0)) : jMetW l g mL_errorPosition [(0, 8, 11, 26)] 10 3 18 [.ref (jb g + 0), .ref (jb g + 462)] z sk t (wP Int32.toInt64 (a_errorPos G) sk t) := by
  obtain ⟨P0, P1, P2, P3, P4, P5, P6, P7, P8⟩ := id hP
  refine j_bodyW (lv := [some (.ref (jb g + 0)), some (.ref (jb g + 462)), none]) iw_errorPosition hok hst (fun p e s m args below meth c X => ?_)
  refine j_aload_n X (i := 1) dL_errorPosition_0 rfl rfl ?_
  refine j_iconst X (v := (nI 0)) dL_errorPosition_1 (by decide) ?_
  refine j_aload_n X (i := 0) dL_errorPosition_2 rfl rfl ?_
  refine j_callVX_p X (f_errorPosition hok hst hP hG hK) i_X9_errorPosition tw_6_17 tw_6_18 tw_6_19 P0 rfl dL_errorPosition_3 (fun v2 z2 sk2 t2 hp => ?_) (fun E z2 sk2 t2 hp => ?_)
  · obtain ⟨h0, rfl, rfl, rfl, hG2, hf⟩ := hp
    refine j_i2l X dL_errorPosition_6 rfl ?_
    refine j_lastore X hO rfl ⟨by decide, by decide⟩ dL_errorPosition_7 ?_
    refine j_goto X (tgt := 14) dL_errorPosition_8 (by decide) ?_
    refine j_iconst X (v := (nI 0)) dL_errorPosition_14 (by decide) ?_
    exact j_iret_x X dL_errorPosition_15 rfl rfl ⟨by rw [h0], ⟨_, jN_eq _ _ _, fun _ => if_pos rfl⟩, fun c hc => jN_ne _ _ hc, hG2, hf⟩
  · obtain ⟨h0, hE, rfl, rfl, hG2, hf⟩ := hp
    obtain ⟨i, hi⟩ : ∃ i, (a_errorPos G).1 = i + 1 := ⟨_, (Nat.succ_pred_eq_of_pos h0).symm⟩
    rw [hi] at hE
    match i, hE, hi with
    | 0, hE, hi =>
      cases hE
      refine j_catch X [] ⟨0, 8, 11, 26⟩ [] rfl (fun z9 h9 => nomatch h9) (by decide) (by decide) tw_3_161 tw_3_78 (pc2 := 11) rfl (fun q9 => ?_)
      refine j_astore_n X (i := 2) dL_errorPosition_11 rfl (by decide) rfl ?_
      refine j_iconst X (v := (nI 1)) dL_errorPosition_12 (by decide) ?_
      exact j_iret_x X dL_errorPosition_13 rfl rfl ⟨by rw [hi], ⟨_, hO, fun h9 => absurd ((congrArg nI hi).symm.trans h9) (by decide)⟩, fun _ _ => rfl, hG2, hf⟩
    | i9 + 1, hE, hi => cases hE
theorem iw_failedCommand : jCaW mL_failedCommand [(0, 8, 11, 26)] 2 := ⟨tw_6_24, tw_1_0, ⟨by decide, by decide⟩, by decide +kernel, by decide +kernel⟩
theorem w_failedCommand {l : Launch} {g : jG} (hok : jOk g) (hst : l.stackTraces = false) {z : Option Nat} {sk : jS} {t : jT} {kw : Nat → Nat} (hP : isPr g kw sk) {G : GS} (hG : RcG t G) (hK : okG G) {a0 : Nat → Int64} (hO : sk 462 = some (kL 1 a0)) : jMetW l g mL_failedCommand [(0, 8, 11, 26)] 10 3 18 [.ref (jb g + 0), .ref (jb g + 462)] z sk t (wP Int32.toInt64 (a_failed G) sk t) := by
  obtain ⟨P0, P1, P2, P3, P4, P5, P6, P7, P8⟩ := id hP
  refine j_bodyW (lv := [some (.ref (jb g + 0)), some (.ref (jb g + 462)), none]) iw_failedCommand hok hst (fun p e s m args below meth c X => ?_)
  refine j_aload_n X (i := 1) dL_failedCommand_0 rfl rfl ?_
  refine j_iconst X (v := (nI 0)) dL_failedCommand_1 (by decide) ?_
  refine j_aload_n X (i := 0) dL_failedCommand_2 rfl rfl ?_
  refine j_callVX_p X (f_failedCommand hok hst hP hG hK) i_X9_failedCommand tw_6_25 tw_6_26 tw_6_27 P0 rfl dL_failedCommand_3 (fun v2 z2 sk2 t2 hp => ?_) (fun E z2 sk2 t2 hp => ?_)
  · obtain ⟨h0, rfl, rfl, rfl, hG2, hf⟩ := hp
    refine j_i2l X dL_failedCommand_6 rfl ?_
    refine j_lastore X hO rfl ⟨by decide, by decide⟩ dL_failedCommand_7 ?_
    refine j_goto X (tgt := 14) dL_failedCommand_8 (by decide) ?_
    refine j_iconst X (v := (nI 0)) dL_failedCommand_14 (by decide) ?_
    exact j_iret_x X dL_failedCommand_15 rfl rfl ⟨by rw [h0], ⟨_, jN_eq _ _ _, fun _ => if_pos rfl⟩, fun c hc => jN_ne _ _ hc, hG2, hf⟩
  · obtain ⟨h0, hE, rfl, rfl, hG2, hf⟩ := hp
    obtain ⟨i, hi⟩ : ∃ i, (a_failed G).1 = i + 1 := ⟨_, (Nat.succ_pred_eq_of_pos h0).symm⟩
    rw [hi] at hE
    match i, hE, hi with
    | 0, hE, hi =>
      cases hE
      refine j_catch X [] ⟨0, 8, 11, 26⟩ [] rfl (fun z9 h9 => nomatch h9) (by decide) (by decide) tw_3_161 tw_3_78 (pc2 := 11) rfl (fun q9 => ?_)
      refine j_astore_n X (i := 2) dL_failedCommand_11 rfl (by decide) rfl ?_
      refine j_iconst X (v := (nI 1)) dL_failedCommand_12 (by decide) ?_
      exact j_iret_x X dL_failedCommand_13 rfl rfl ⟨by rw [hi], ⟨_, hO, fun h9 => absurd ((congrArg nI hi).symm.trans h9) (by decide)⟩, fun _ _ => rfl, hG2, hf⟩
    | i9 + 1, hE, hi => cases hE
theorem iw_undo : jCaW mL_undo [(0, 8, 11, 15)] 2 := ⟨tw_6_32, tw_1_0, ⟨by decide, by decide⟩, by decide +kernel, by decide +kernel⟩
theorem w_undo {l : Launch} {g : jG} (hok : jOk g) (hst : l.stackTraces = false) {z : Option Nat} {sk : jS} {t : jT} {kw : Nat → Nat} (hP : isPr g kw sk) {G : GS} (hG : RcG t G) (hK : okG G) {a0 : Nat → Int64} (hO : sk 462 = some (kL 1 a0)) : jMetW l g mL_undo [(0, 8, 11, 15)] 10 3 18 [.ref (jb g + 0), .ref (jb g + 462)] z sk t (wP Int32.toInt64 (a_undo G) sk t) := by
  obtain ⟨P0, P1, P2, P3, P4, P5, P6, P7, P8⟩ := id hP
  refine j_bodyW (lv := [some (.ref (jb g + 0)), some (.ref (jb g + 462)), none]) iw_undo hok hst (fun p e s m args below meth c X => ?_)
  refine j_aload_n X (i := 1) dL_undo_0 rfl rfl ?_
  refine j_iconst X (v := (nI 0)) dL_undo_1 (by decide) ?_
  refine j_aload_n X (i := 0) dL_undo_2 rfl rfl ?_
  refine j_callVX_p X (f_undo hok hst hP hG hK) i_X9_undo tw_6_33 tw_6_34 tw_6_35 P0 rfl dL_undo_3 (fun v2 z2 sk2 t2 hp => ?_) (fun E z2 sk2 t2 hp => ?_)
  · obtain ⟨h0, rfl, rfl, rfl, hG2, hf⟩ := hp
    refine j_i2l X dL_undo_6 rfl ?_
    refine j_lastore X hO rfl ⟨by decide, by decide⟩ dL_undo_7 ?_
    refine j_goto X (tgt := 14) dL_undo_8 (by decide) ?_
    refine j_iconst X (v := (nI 0)) dL_undo_14 (by decide) ?_
    exact j_iret_x X dL_undo_15 rfl rfl ⟨by rw [h0], ⟨_, jN_eq _ _ _, fun _ => if_pos rfl⟩, fun c hc => jN_ne _ _ hc, hG2, hf⟩
  · obtain ⟨h0, hE, rfl, rfl, hG2, hf⟩ := hp
    obtain ⟨i, hi⟩ : ∃ i, (a_undo G).1 = i + 1 := ⟨_, (Nat.succ_pred_eq_of_pos h0).symm⟩
    rw [hi] at hE
    match i, hE, hi with
    | 0, hE, hi =>
      cases hE
      refine j_catch X [] ⟨0, 8, 11, 15⟩ [] rfl (fun z9 h9 => nomatch h9) (by decide) (by decide) tw_2_184 tw_3_62 (pc2 := 11) rfl (fun q9 => ?_)
      refine j_astore_n X (i := 2) dL_undo_11 rfl (by decide) rfl ?_
      refine j_iconst X (v := (nI 1)) dL_undo_12 (by decide) ?_
      exact j_iret_x X dL_undo_13 rfl rfl ⟨by rw [hi], ⟨_, hO, fun h9 => absurd ((congrArg nI hi).symm.trans h9) (by decide)⟩, fun _ _ => rfl, hG2, hf⟩
    | i9 + 1, hE, hi => cases hE
theorem iw_restore : jCaW mL_restore [(0, 8, 11, 15)] 2 := ⟨tw_6_44, tw_1_0, ⟨by decide, by decide⟩, by decide +kernel, by decide +kernel⟩
theorem w_restore {l : Launch} {g : jG} (hok : jOk g) (hst : l.stackTraces = false) {z : Option Nat} {sk : jS} {t : jT} {kw : Nat → Nat} (hP : isPr g kw sk) {G : GS} (hG : RcG t G) (hK : okG G) {a0 : Nat → Int64} (hO : sk 462 = some (kL 1 a0)) : jMetW l g mL_restore [(0, 8, 11, 15)] 10 3 18 [.ref (jb g + 0), .ref (jb g + 462)] z sk t (wP Int32.toInt64 (a_restore G) sk t) := by
  obtain ⟨P0, P1, P2, P3, P4, P5, P6, P7, P8⟩ := id hP
  refine j_bodyW (lv := [some (.ref (jb g + 0)), some (.ref (jb g + 462)), none]) iw_restore hok hst (fun p e s m args below meth c X => ?_)
  refine j_aload_n X (i := 1) dL_restore_0 rfl rfl ?_
  refine j_iconst X (v := (nI 0)) dL_restore_1 (by decide) ?_
  refine j_aload_n X (i := 0) dL_restore_2 rfl rfl ?_
  refine j_callVX_p X (f_restore hok hst hP hG hK) i_X9_restore tw_6_45 tw_6_46 tw_6_47 P0 rfl dL_restore_3 (fun v2 z2 sk2 t2 hp => ?_) (fun E z2 sk2 t2 hp => ?_)
  · obtain ⟨h0, rfl, rfl, rfl, hG2, hf⟩ := hp
    refine j_i2l X dL_restore_6 rfl ?_
    refine j_lastore X hO rfl ⟨by decide, by decide⟩ dL_restore_7 ?_
    refine j_goto X (tgt := 14) dL_restore_8 (by decide) ?_
    refine j_iconst X (v := (nI 0)) dL_restore_14 (by decide) ?_
    exact j_iret_x X dL_restore_15 rfl rfl ⟨by rw [h0], ⟨_, jN_eq _ _ _, fun _ => if_pos rfl⟩, fun c hc => jN_ne _ _ hc, hG2, hf⟩
  · obtain ⟨h0, hE, rfl, rfl, hG2, hf⟩ := hp
    obtain ⟨i, hi⟩ : ∃ i, (a_restore G).1 = i + 1 := ⟨_, (Nat.succ_pred_eq_of_pos h0).symm⟩
    rw [hi] at hE
    match i, hE, hi with
    | 0, hE, hi =>
      cases hE
      refine j_catch X [] ⟨0, 8, 11, 15⟩ [] rfl (fun z9 h9 => nomatch h9) (by decide) (by decide) tw_2_184 tw_3_62 (pc2 := 11) rfl (fun q9 => ?_)
      refine j_astore_n X (i := 2) dL_restore_11 rfl (by decide) rfl ?_
      refine j_iconst X (v := (nI 1)) dL_restore_12 (by decide) ?_
      exact j_iret_x X dL_restore_13 rfl rfl ⟨by rw [hi], ⟨_, hO, fun h9 => absurd ((congrArg nI hi).symm.trans h9) (by decide)⟩, fun _ _ => rfl, hG2, hf⟩
    | i9 + 1, hE, hi => cases hE
