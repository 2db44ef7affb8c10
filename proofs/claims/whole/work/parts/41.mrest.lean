theorem okG.o {G : GS} (h : okG G) : (gO G).1 ≤ 16 ∧ (∀ i, (gO G).2 i < 65536) ∧ (∀ e, gE G = some e → e < 100) ∧ ∀ e, gF G = some e → e < 100 := h.2.2.2.2.2.2
def mPV (M : Nat) (w : WB) (n : Nat) (val : Value) (G2 : GS) (z : Option Nat) (sk : jS) (t : jT) : Option Value → Option Nat → jS → jT → Prop := fun v2 z2 sk2 t2 => v2 = some val ∧ z = z2 ∧ sk = sk2 ∧ t2 M 7 = nI n ∧ RmG t2 M w G2 ∧ ∀ c, (c < M ∨ M + 8 ≤ c ∨ c = M + 4 ∨ c = M + 7) → t2 c = t c
theorem mPV_mk {M : Nat} {w : WB} {z : Option Nat} {sk : jS} {t t2 : jT} {n n2 : Nat} {v v2 : Value} {G2 : GS} (hn : n = n2) (hv : v = v2) (h7 : t2 M 7 = nI n2) (hG : RmG t2 M w G2) (hf : ∀ c, (c < M ∨ M + 8 ≤ c ∨ c = M + 4 ∨ c = M + 7) → t2 c = t c) : mPV M w n v G2 z sk t (some v2) z sk t2 := by
  subst hn hv
  exact ⟨rfl, rfl, rfl, h7, hG, hf⟩
theorem mPV_no {M : Nat} {w : WB} {G : GS} {z : Option Nat} {sk : jS} {t : jT} {n n2 : Nat} {v v2 : Value} (hG : RmG t M w G) (hn : n = n2) (hv : v = v2) : mPV M w n v G z sk t (some v2) z sk (jU t M 7 (nI n2)) :=
  mPV_mk hn hv (by rw [jU_eq]; rfl) (hG.jcode _) (fun c hc => jU_ne _ _ _ (by omega))
def sumW (V : SV) : Nat := fb_sm (fun k => (sh V k).1.1) (ns V)
def smC (V : SV) : Nat := fb_ct (fun k => decide ((0 : Int32) < nI (sh V k).1.2.1)) (ns V)
def a_meanN (G : GS) : Nat := if ns (gV G) = 0 then 1 else 0
def a_mean (G : GS) : UInt64 := if ns (gV G) = 0 then FP.dconst0 else FP.ddiv (FP.i2d (nI (sumW (gV G)))) (FP.i2d (nI (ns (gV G))))
def a_frac (G : GS) : UInt32 := if ns (gV G) = 0 then FP.fconst0 else FP.fdiv (FP.i2f (nI (smC (gV G)))) (FP.i2f (nI (ns (gV G))))
theorem fp_d : ∀ a, a < 41 → ∀ b, b < 9 → 0 < b → vf_n64 (FP.ddiv (FP.i2d (nI a)) (FP.i2d (nI b))) := by
  unfold vf_n64
  decide +kernel
theorem fp_f : ∀ a, a < 9 → ∀ b, b < 9 → 0 < b → vf_n32 (FP.fdiv (FP.i2f (nI a)) (FP.i2f (nI b))) := by
  unfold vf_n32
  decide +kernel
theorem sgn_nc : ∀ c, c < 8 → narrow .char (.int (nI (sgn c))) = .int (nI (sgn c)) := by decide +kernel
theorem sgn_i2c : ∀ c, c < 8 → ((nI (48 + c)).toUInt32 % 65536).toInt32 = nI (48 + c) := by decide +kernel
theorem m_reason {l : Launch} {g : jG} (hok : jOk g) (hst : l.stackTraces = false) {z : Option Nat} {sk : jS} {t : jT} {M : Nat} (hM : isMod g sk M) {w : WB} {G : GS} (hG : RmG t M w G) (hK : okG G) : jMet l g mX10_refusalReason 2 0 0 [.ref (jb g + M)] z sk t (mP M w (a_reason G) z sk t) := by
  refine j_body (lv := [some (.ref (jb g + M))]) i_X10_refusalReason hok hst (fun p e s m args below meth c X => ?_)
  obtain ⟨M0, M1, M2, M3, M4, M5, M6, M7⟩ := id hM
  obtain ⟨r1, r2, r3, r4, r5, r6, r7, r8, r9, r10, r11⟩ := id hG
  obtain ⟨u1, u2, u3, u4, u5, u6, u7⟩ := id r1
  obtain ⟨k1, k2, k3, k4, k5, k6, k7, k8⟩ := id hK.1
  cases hR : gR G with
  | none =>
    rw [hR] at r6
    have r6 : t M 8 = nI 0 := r6
    refine j_aload_n X (i := 0) dX10_refusalReason_0 rfl rfl ?_
    refine j_aload_n X (i := 0) dX10_refusalReason_1 rfl rfl ?_
    refine jFd.get X fd_X10_42 M0 rfl dX10_refusalReason_2 ?_
    rw [r6]
    refine j_if_ne X (tgt := 12) dX10_refusalReason_5 (by decide) (fun q9 => absurd (rfl) q9) (fun _ => ?_)
    refine j_iconst X (v := (nI 1)) dX10_refusalReason_8 (by decide) ?_
    refine j_goto X (tgt := 13) dX10_refusalReason_9 (by decide) ?_
    refine j_callV X (m_fails hok hst hM (n := 1) (by decide)) i_X10_fails tw_6_135 tw_6_137 tp_25 M0 rfl dX10_refusalReason_13 ?_ 
    refine j_if_eq X (tgt := 23) dX10_refusalReason_16 (by decide) (fun q9 => absurd q9 (by decide)) (fun _ => ?_)
    refine j_iconst X (v := (nI 0)) dX10_refusalReason_19 (by decide) ?_
    refine j_goto X (tgt := 27) dX10_refusalReason_20 (by decide) ?_
    exact j_iret X dX10_refusalReason_27 rfl rfl (mP_no hG (by unfold a_reason; rw [hR]))
  | some fd =>
    obtain ⟨a, d⟩ := fd
    rw [hR] at r6
    obtain ⟨q1, q2, q3, q4⟩ : t M 8 = nI a ∧ t M 9 = nI d ∧ 1 ≤ a ∧ a ≤ 3 := r6
    refine j_aload_n X (i := 0) dX10_refusalReason_0 rfl rfl ?_
    refine j_aload_n X (i := 0) dX10_refusalReason_1 rfl rfl ?_
    refine jFd.get X fd_X10_42 M0 rfl dX10_refusalReason_2 ?_
    rw [q1]
    refine j_if_ne X (tgt := 12) dX10_refusalReason_5 (by decide) (fun _ => ?_) (fun q9 => absurd q9 ((fun z9 => by have := (nI_eq (a := a) (b := 0) (by omega) (by decide)).mp z9; omega)))
    refine j_iconst X (v := (nI 0)) dX10_refusalReason_12 (by decide) ?_
    refine j_callV X (m_fails hok hst hM (n := 0) (by decide)) i_X10_fails tw_6_135 tw_6_137 tp_25 M0 rfl dX10_refusalReason_13 ?_ 
    refine j_if_eq X (tgt := 23) dX10_refusalReason_16 (by decide) (fun _ => ?_) (fun q9 => absurd (rfl) q9)
    refine j_aload_n X (i := 0) dX10_refusalReason_23 rfl rfl ?_
    refine jFd.get X fd_X10_42 M0 rfl dX10_refusalReason_24 ?_
    rw [show jU t M 7 (nI 0) M 8 = nI a by rw [jU_eq]; exact q1]
    exact j_iret X dX10_refusalReason_27 rfl rfl (mP_no hG (by unfold a_reason; rw [hR]))

theorem m_detail {l : Launch} {g : jG} (hok : jOk g) (hst : l.stackTraces = false) {z : Option Nat} {sk : jS} {t : jT} {M : Nat} (hM : isMod g sk M) {w : WB} {G : GS} (hG : RmG t M w G) (hK : okG G) : jMet l g mX10_refusalDetail 2 0 0 [.ref (jb g + M)] z sk t (mP M w (a_detail G) z sk t) := by
  refine j_body (lv := [some (.ref (jb g + M))]) i_X10_refusalDetail hok hst (fun p e s m args below meth c X => ?_)
  obtain ⟨M0, M1, M2, M3, M4, M5, M6, M7⟩ := id hM
  obtain ⟨r1, r2, r3, r4, r5, r6, r7, r8, r9, r10, r11⟩ := id hG
  obtain ⟨u1, u2, u3, u4, u5, u6, u7⟩ := id r1
  obtain ⟨k1, k2, k3, k4, k5, k6, k7, k8⟩ := id hK.1
  cases hR : gR G with
  | none =>
    rw [hR] at r6
    have r6 : t M 8 = nI 0 := r6
    refine j_aload_n X (i := 0) dX10_refusalDetail_0 rfl rfl ?_
    refine j_aload_n X (i := 0) dX10_refusalDetail_1 rfl rfl ?_
    refine jFd.get X fd_X10_42 M0 rfl dX10_refusalDetail_2 ?_
    rw [r6]
    refine j_if_ne X (tgt := 12) dX10_refusalDetail_5 (by decide) (fun q9 => absurd (rfl) q9) (fun _ => ?_)
    refine j_iconst X (v := (nI 1)) dX10_refusalDetail_8 (by decide) ?_
    refine j_goto X (tgt := 13) dX10_refusalDetail_9 (by decide) ?_
    refine j_callV X (m_fails hok hst hM (n := 1) (by decide)) i_X10_fails tw_6_135 tw_6_137 tp_25 M0 rfl dX10_refusalDetail_13 ?_ 
    refine j_if_eq X (tgt := 23) dX10_refusalDetail_16 (by decide) (fun q9 => absurd q9 (by decide)) (fun _ => ?_)
    refine j_iconst X (v := (nI 0)) dX10_refusalDetail_19 (by decide) ?_
    refine j_goto X (tgt := 27) dX10_refusalDetail_20 (by decide) ?_
    exact j_iret X dX10_refusalDetail_27 rfl rfl (mP_no hG (by unfold a_detail; rw [hR]))
  | some fd =>
    obtain ⟨a, d⟩ := fd
    rw [hR] at r6
    obtain ⟨q1, q2, q3, q4⟩ : t M 8 = nI a ∧ t M 9 = nI d ∧ 1 ≤ a ∧ a ≤ 3 := r6
    refine j_aload_n X (i := 0) dX10_refusalDetail_0 rfl rfl ?_
    refine j_aload_n X (i := 0) dX10_refusalDetail_1 rfl rfl ?_
    refine jFd.get X fd_X10_42 M0 rfl dX10_refusalDetail_2 ?_
    rw [q1]
    refine j_if_ne X (tgt := 12) dX10_refusalDetail_5 (by decide) (fun _ => ?_) (fun q9 => absurd q9 ((fun z9 => by have := (nI_eq (a := a) (b := 0) (by omega) (by decide)).mp z9; omega)))
    refine j_iconst X (v := (nI 0)) dX10_refusalDetail_12 (by decide) ?_
    refine j_callV X (m_fails hok hst hM (n := 0) (by decide)) i_X10_fails tw_6_135 tw_6_137 tp_25 M0 rfl dX10_refusalDetail_13 ?_ 
    refine j_if_eq X (tgt := 23) dX10_refusalDetail_16 (by decide) (fun _ => ?_) (fun q9 => absurd (rfl) q9)
    refine j_aload_n X (i := 0) dX10_refusalDetail_23 rfl rfl ?_
    refine jFd.get X fd_X10_45 M0 rfl dX10_refusalDetail_24 ?_
    rw [show jU t M 7 (nI 0) M 9 = nI d by rw [jU_eq]; exact q2]
    exact j_iret X dX10_refusalDetail_27 rfl rfl (mP_no hG (by unfold a_detail; rw [hR]))

theorem m_errorPos {l : Launch} {g : jG} (hok : jOk g) (hst : l.stackTraces = false) {z : Option Nat} {sk : jS} {t : jT} {M : Nat} (hM : isMod g sk M) {w : WB} {G : GS} (hG : RmG t M w G) (hK : okG G) : jMet l g mX10_errorPosition 2 0 0 [.ref (jb g + M)] z sk t (mP M w (a_errorPos G) z sk t) := by
  refine j_body (lv := [some (.ref (jb g + M))]) i_X10_errorPosition hok hst (fun p e s m args below meth c X => ?_)
  obtain ⟨M0, M1, M2, M3, M4, M5, M6, M7⟩ := id hM
  obtain ⟨r1, r2, r3, r4, r5, r6, r7, r8, r9, r10, r11⟩ := id hG
  obtain ⟨u1, u2, u3, u4, u5, u6, u7⟩ := id r1
  obtain ⟨k1, k2, k3, k4, k5, k6, k7, k8⟩ := id hK.1
  cases hR : gE G with
  | none =>
    rw [hR] at r8
    have r8 : t M 12 = -1 := r8
    refine j_aload_n X (i := 0) dX10_errorPosition_0 rfl rfl ?_
    refine j_aload_n X (i := 0) dX10_errorPosition_1 rfl rfl ?_
    refine jFd.get X fd_X10_25 M0 rfl dX10_errorPosition_2 ?_
    rw [r8]
    refine j_if_ge X (tgt := 12) dX10_errorPosition_5 (by decide) (fun q9 => absurd q9 (by decide)) (fun _ => ?_)
    refine j_iconst X (v := (nI 1)) dX10_errorPosition_8 (by decide) ?_
    refine j_goto X (tgt := 13) dX10_errorPosition_9 (by decide) ?_
    refine j_callV X (m_fails hok hst hM (n := 1) (by decide)) i_X10_fails tw_6_135 tw_6_137 tp_25 M0 rfl dX10_errorPosition_13 ?_ 
    refine j_if_eq X (tgt := 23) dX10_errorPosition_16 (by decide) (fun q9 => absurd q9 (by decide)) (fun _ => ?_)
    refine j_iconst X (v := (nI 0)) dX10_errorPosition_19 (by decide) ?_
    refine j_goto X (tgt := 27) dX10_errorPosition_20 (by decide) ?_
    exact j_iret X dX10_errorPosition_27 rfl rfl (mP_no hG (by unfold a_errorPos; rw [hR]))
  | some a =>
    have hb := hK.o.2.2.1 a hR
    rw [hR] at r8
    have r8 : t M 12 = nI a := r8
    refine j_aload_n X (i := 0) dX10_errorPosition_0 rfl rfl ?_
    refine j_aload_n X (i := 0) dX10_errorPosition_1 rfl rfl ?_
    refine jFd.get X fd_X10_25 M0 rfl dX10_errorPosition_2 ?_
    rw [r8]
    refine j_if_ge X (tgt := 12) dX10_errorPosition_5 (by decide) (fun _ => ?_) (fun q9 => absurd ((show nI 0 ≤ nI a from nI_le (Nat.zero_le _) (by omega))) q9)
    refine j_iconst X (v := (nI 0)) dX10_errorPosition_12 (by decide) ?_
    refine j_callV X (m_fails hok hst hM (n := 0) (by decide)) i_X10_fails tw_6_135 tw_6_137 tp_25 M0 rfl dX10_errorPosition_13 ?_ 
    refine j_if_eq X (tgt := 23) dX10_errorPosition_16 (by decide) (fun _ => ?_) (fun q9 => absurd (rfl) q9)
    refine j_aload_n X (i := 0) dX10_errorPosition_23 rfl rfl ?_
    refine jFd.get X fd_X10_25 M0 rfl dX10_errorPosition_24 ?_
    rw [show jU t M 7 (nI 0) M 12 = nI a by rw [jU_eq]; exact r8]
    exact j_iret X dX10_errorPosition_27 rfl rfl (mP_no hG (by unfold a_errorPos; rw [hR]))

theorem m_failed {l : Launch} {g : jG} (hok : jOk g) (hst : l.stackTraces = false) {z : Option Nat} {sk : jS} {t : jT} {M : Nat} (hM : isMod g sk M) {w : WB} {G : GS} (hG : RmG t M w G) (hK : okG G) : jMet l g mX10_failedCommand 2 0 0 [.ref (jb g + M)] z sk t (mP M w (a_failed G) z sk t) := by
  refine j_body (lv := [some (.ref (jb g + M))]) i_X10_failedCommand hok hst (fun p e s m args below meth c X => ?_)
  obtain ⟨M0, M1, M2, M3, M4, M5, M6, M7⟩ := id hM
  obtain ⟨r1, r2, r3, r4, r5, r6, r7, r8, r9, r10, r11⟩ := id hG
  obtain ⟨u1, u2, u3, u4, u5, u6, u7⟩ := id r1
  obtain ⟨k1, k2, k3, k4, k5, k6, k7, k8⟩ := id hK.1
  cases hR : gF G with
  | none =>
    rw [hR] at r9
    have r9 : t M 13 = -1 := r9
    refine j_aload_n X (i := 0) dX10_failedCommand_0 rfl rfl ?_
    refine j_aload_n X (i := 0) dX10_failedCommand_1 rfl rfl ?_
    refine jFd.get X fd_X10_29 M0 rfl dX10_failedCommand_2 ?_
    rw [r9]
    refine j_if_ge X (tgt := 12) dX10_failedCommand_5 (by decide) (fun q9 => absurd q9 (by decide)) (fun _ => ?_)
    refine j_iconst X (v := (nI 1)) dX10_failedCommand_8 (by decide) ?_
    refine j_goto X (tgt := 13) dX10_failedCommand_9 (by decide) ?_
    refine j_callV X (m_fails hok hst hM (n := 1) (by decide)) i_X10_fails tw_6_135 tw_6_137 tp_25 M0 rfl dX10_failedCommand_13 ?_ 
    refine j_if_eq X (tgt := 23) dX10_failedCommand_16 (by decide) (fun q9 => absurd q9 (by decide)) (fun _ => ?_)
    refine j_iconst X (v := (nI 0)) dX10_failedCommand_19 (by decide) ?_
    refine j_goto X (tgt := 27) dX10_failedCommand_20 (by decide) ?_
    exact j_iret X dX10_failedCommand_27 rfl rfl (mP_no hG (by unfold a_failed; rw [hR]))
  | some a =>
    have hb := hK.o.2.2.2 a hR
    rw [hR] at r9
    have r9 : t M 13 = nI a := r9
    refine j_aload_n X (i := 0) dX10_failedCommand_0 rfl rfl ?_
    refine j_aload_n X (i := 0) dX10_failedCommand_1 rfl rfl ?_
    refine jFd.get X fd_X10_29 M0 rfl dX10_failedCommand_2 ?_
    rw [r9]
    refine j_if_ge X (tgt := 12) dX10_failedCommand_5 (by decide) (fun _ => ?_) (fun q9 => absurd ((show nI 0 ≤ nI a from nI_le (Nat.zero_le _) (by omega))) q9)
    refine j_iconst X (v := (nI 0)) dX10_failedCommand_12 (by decide) ?_
    refine j_callV X (m_fails hok hst hM (n := 0) (by decide)) i_X10_fails tw_6_135 tw_6_137 tp_25 M0 rfl dX10_failedCommand_13 ?_ 
    refine j_if_eq X (tgt := 23) dX10_failedCommand_16 (by decide) (fun _ => ?_) (fun q9 => absurd (rfl) q9)
    refine j_aload_n X (i := 0) dX10_failedCommand_23 rfl rfl ?_
    refine jFd.get X fd_X10_29 M0 rfl dX10_failedCommand_24 ?_
    rw [show jU t M 7 (nI 0) M 13 = nI a by rw [jU_eq]; exact r9]
    exact j_iret X dX10_failedCommand_27 rfl rfl (mP_no hG (by unfold a_failed; rw [hR]))

theorem m_mean {l : Launch} {g : jG} (hok : jOk g) (hst : l.stackTraces = false) {z : Option Nat} {sk : jS} {t : jT} {M : Nat} (hM : isMod g sk M) {w : WB} {G : GS} (hG : RmG t M w G) (hK : okG G) : jMet l g mX10_meanWetness 2 0 0 [.ref (jb g + M)] z sk t (mPV M w (a_meanN G) (.double (a_mean G)) G z sk t) := by
  refine j_body (lv := [some (.ref (jb g + M)), none, none]) i_X10_meanWetness hok hst (fun p e s m args below meth c X => ?_)
  obtain ⟨M0, M1, M2, M3, M4, M5, M6, M7⟩ := id hM
  obtain ⟨r1, r2, r3, r4, r5, r6, r7, r8, r9, r10, r11⟩ := id hG
  obtain ⟨u1, u2, u3, u4, u5, u6, u7⟩ := id r1
  obtain ⟨k1, k2, k3, k4, k5, k6, k7, k8⟩ := id hK.1
  by_cases h0 : ns (gV G) = 0
  · refine j_aload_n X (i := 0) dX10_meanWetness_0 rfl rfl ?_
    refine j_aload_n X (i := 0) dX10_meanWetness_1 rfl rfl ?_
    refine jFd.get X fd_X10_7 M0 rfl dX10_meanWetness_2 ?_
    refine j_iconst X (v := (nI 1)) dX10_meanWetness_5 (by decide) ?_
    refine j_iald X M1 rfl (by decide) (by decide) dX10_meanWetness_6 ?_
    rw [u2, h0]
    refine j_if_ne X (tgt := 14) dX10_meanWetness_7 (by decide) (fun q9 => absurd (rfl) q9) (fun _ => ?_)
    refine j_iconst X (v := (nI 1)) dX10_meanWetness_10 (by decide) ?_
    refine j_goto X (tgt := 15) dX10_meanWetness_11 (by decide) ?_
    refine j_callV X (m_fails hok hst hM (n := 1) (by decide)) i_X10_fails tw_6_135 tw_6_137 tp_25 M0 rfl dX10_meanWetness_15 ?_ 
    refine j_if_eq X (tgt := 23) dX10_meanWetness_18 (by decide) (fun q9 => absurd q9 (by decide)) (fun _ => ?_)
    refine j_dconst0 X dX10_meanWetness_21 ?_
    exact j_dret X dX10_meanWetness_22 rfl (mPV_no hG (by unfold a_meanN; rw [if_pos h0]) (by unfold a_mean; rw [if_pos h0]))
  · refine j_aload_n X (i := 0) dX10_meanWetness_0 rfl rfl ?_
    refine j_aload_n X (i := 0) dX10_meanWetness_1 rfl rfl ?_
    refine jFd.get X fd_X10_7 M0 rfl dX10_meanWetness_2 ?_
    refine j_iconst X (v := (nI 1)) dX10_meanWetness_5 (by decide) ?_
    refine j_iald X M1 rfl (by decide) (by decide) dX10_meanWetness_6 ?_
    rw [u2]
    refine j_if_ne X (tgt := 14) dX10_meanWetness_7 (by decide) (fun _ => ?_) (fun q9 => absurd q9 ((fun z9 => by have := (nI_eq (a := ns (gV G)) (b := 0) (by omega) (by decide)).mp z9; omega)))
    refine j_iconst X (v := (nI 0)) dX10_meanWetness_14 (by decide) ?_
    refine j_callV X (m_fails hok hst hM (n := 0) (by decide)) i_X10_fails tw_6_135 tw_6_137 tp_25 M0 rfl dX10_meanWetness_15 ?_ 
    refine j_if_eq X (tgt := 23) dX10_meanWetness_18 (by decide) (fun _ => ?_) (fun q9 => absurd (rfl) q9)
    have hG1 := hG.jcode (nI 0)
    have c1 : jU t M 7 (nI 0) M 7 = nI 0 := by rw [jU_eq]; rfl
    have f1 : ∀ c, (c < M ∨ M + 8 ≤ c ∨ c = M + 4 ∨ c = M + 7) → jU t M 7 (nI 0) c = t c := fun c hc => jU_ne _ _ _ (by omega)
    generalize jU t M 7 (nI 0) = t1 at hG1 c1 f1 ⊢
    obtain ⟨w1, w2, w3, w4, w5, w6, w7⟩ := id hG1.1
    have loop : ∀ k, k ≤ ns (gV G) → J p l e (jR 2 0 0) s m args below meth c (jQm below args s g 0 0 (mPV M w (a_meanN G) (.double (a_mean G)) G z sk t)) 3 g 0 0 z sk t1 27 [some (.ref (jb g + M)), some (.int (nI (fb_sm (fun k => (sh (gV G) k).1.1) k))), some (.int (nI k))] [] := by
      refine up_loop ?_ ?_
      · refine j_iload_n X (i := 2) dX10_meanWetness_27 rfl rfl ?_
        refine j_aload_n X (i := 0) dX10_meanWetness_28 rfl rfl ?_
        refine jFd.get X fd_X10_7 M0 rfl dX10_meanWetness_29 ?_
        refine j_iconst X (v := (nI 1)) dX10_meanWetness_32 (by decide) ?_
        refine j_iald X M1 rfl (by decide) (by decide) dX10_meanWetness_33 ?_
        rw [w2]
        refine j_icmp_ge X (tgt := 52) dX10_meanWetness_34 (by decide) (fun _ => ?_) (fun q9 => absurd (nI_le (Nat.le_refl _) (by omega)) q9)
        refine j_iload_n X (i := 1) dX10_meanWetness_52 rfl rfl ?_
        refine j_i2d X dX10_meanWetness_53 ?_
        refine j_aload_n X (i := 0) dX10_meanWetness_54 rfl rfl ?_
        refine jFd.get X fd_X10_7 M0 rfl dX10_meanWetness_55 ?_
        refine j_iconst X (v := (nI 1)) dX10_meanWetness_58 (by decide) ?_
        refine j_iald X M1 rfl (by decide) (by decide) dX10_meanWetness_59 ?_
        refine j_i2d X dX10_meanWetness_60 ?_
        rw [w2]
        have hsum : fb_sm (fun k => (sh (gV G) k).1.1) (ns (gV G)) ≤ ns (gV G) * 5 := fb_sm_bound (fun k hk => (k4 k (by omega)).1)
        refine j_ddiv X dX10_meanWetness_61 (fp_d _ (by omega) _ (by omega) (by omega)) ?_
        exact j_dret X dX10_meanWetness_62 rfl (mPV_mk (by unfold a_meanN; rw [if_neg h0]) (by unfold a_mean sumW; rw [if_neg h0]) c1 hG1 f1)
      · intro k hk ih
        refine j_iload_n X (i := 2) dX10_meanWetness_27 rfl rfl ?_
        refine j_aload_n X (i := 0) dX10_meanWetness_28 rfl rfl ?_
        refine jFd.get X fd_X10_7 M0 rfl dX10_meanWetness_29 ?_
        refine j_iconst X (v := (nI 1)) dX10_meanWetness_32 (by decide) ?_
        refine j_iald X M1 rfl (by decide) (by decide) dX10_meanWetness_33 ?_
        rw [w2]
        refine j_icmp_ge X (tgt := 52) dX10_meanWetness_34 (by decide) (fun q9 => absurd q9 (nI_ge hk (by omega))) (fun _ => ?_)
        refine j_iload_n X (i := 1) dX10_meanWetness_37 rfl rfl ?_
        refine j_aload_n X (i := 0) dX10_meanWetness_38 rfl rfl ?_
        refine j_iload_n X (i := 2) dX10_meanWetness_39 rfl rfl ?_
        refine j_iconst X (v := (nI 0)) dX10_meanWetness_40 (by decide) ?_
        refine j_callV X (m_on hok hst (k := k) (w := 0) hM (by omega)) i_X10_on tw_7_45 tw_7_47 tp_41 M0 rfl dX10_meanWetness_41 ?_ 
        rw [show t1 (M + 1) (51 + 27 * k + 0) = nI (sh (gV G) k).1.1 from (w7 k hk).1]
        refine j_iadd X dX10_meanWetness_44 ?_
        rw [nI_add, ← fb_sm_succ (fun k => (sh (gV G) k).1.1)]
        refine j_istore_n X (i := 1) dX10_meanWetness_45 rfl (by decide) rfl ?_
        refine j_iinc X (i := 2) (v := (nI (k + 1))) dX10_meanWetness_46 rfl (nI_1 k) (by decide) rfl ?_
        refine j_goto X (tgt := 27) dX10_meanWetness_49 (by decide) ?_
        exact ih
    refine j_iconst X (v := (nI 0)) dX10_meanWetness_23 (by decide) ?_
    refine j_istore_n X (i := 1) dX10_meanWetness_24 rfl (by decide) rfl ?_
    refine j_iconst X (v := (nI 0)) dX10_meanWetness_25 (by decide) ?_
    refine j_istore_n X (i := 2) dX10_meanWetness_26 rfl (by decide) rfl ?_
    exact loop 0 (Nat.zero_le _)

theorem m_frac {l : Launch} {g : jG} (hok : jOk g) (hst : l.stackTraces = false) {z : Option Nat} {sk : jS} {t : jT} {M : Nat} (hM : isMod g sk M) {w : WB} {G : GS} (hG : RmG t M w G) (hK : okG G) : jMet l g mX10_smearedFraction 2 0 0 [.ref (jb g + M)] z sk t (mPV M w (a_meanN G) (.float (a_frac G)) G z sk t) := by
  refine j_body (lv := [some (.ref (jb g + M)), none, none]) i_X10_smearedFraction hok hst (fun p e s m args below meth c X => ?_)
  obtain ⟨M0, M1, M2, M3, M4, M5, M6, M7⟩ := id hM
  obtain ⟨r1, r2, r3, r4, r5, r6, r7, r8, r9, r10, r11⟩ := id hG
  obtain ⟨u1, u2, u3, u4, u5, u6, u7⟩ := id r1
  obtain ⟨k1, k2, k3, k4, k5, k6, k7, k8⟩ := id hK.1
  by_cases h0 : ns (gV G) = 0
  · refine j_aload_n X (i := 0) dX10_smearedFraction_0 rfl rfl ?_
    refine j_aload_n X (i := 0) dX10_smearedFraction_1 rfl rfl ?_
    refine jFd.get X fd_X10_7 M0 rfl dX10_smearedFraction_2 ?_
    refine j_iconst X (v := (nI 1)) dX10_smearedFraction_5 (by decide) ?_
    refine j_iald X M1 rfl (by decide) (by decide) dX10_smearedFraction_6 ?_
    rw [u2, h0]
    refine j_if_ne X (tgt := 14) dX10_smearedFraction_7 (by decide) (fun q9 => absurd (rfl) q9) (fun _ => ?_)
    refine j_iconst X (v := (nI 1)) dX10_smearedFraction_10 (by decide) ?_
    refine j_goto X (tgt := 15) dX10_smearedFraction_11 (by decide) ?_
    refine j_callV X (m_fails hok hst hM (n := 1) (by decide)) i_X10_fails tw_6_135 tw_6_137 tp_25 M0 rfl dX10_smearedFraction_15 ?_ 
    refine j_if_eq X (tgt := 23) dX10_smearedFraction_18 (by decide) (fun q9 => absurd q9 (by decide)) (fun _ => ?_)
    refine j_fconst0 X dX10_smearedFraction_21 ?_
    exact j_fret X dX10_smearedFraction_22 rfl (mPV_no hG (by unfold a_meanN; rw [if_pos h0]) (by unfold a_frac; rw [if_pos h0]))
  · refine j_aload_n X (i := 0) dX10_smearedFraction_0 rfl rfl ?_
    refine j_aload_n X (i := 0) dX10_smearedFraction_1 rfl rfl ?_
    refine jFd.get X fd_X10_7 M0 rfl dX10_smearedFraction_2 ?_
    refine j_iconst X (v := (nI 1)) dX10_smearedFraction_5 (by decide) ?_
    refine j_iald X M1 rfl (by decide) (by decide) dX10_smearedFraction_6 ?_
    rw [u2]
    refine j_if_ne X (tgt := 14) dX10_smearedFraction_7 (by decide) (fun _ => ?_) (fun q9 => absurd q9 ((fun z9 => by have := (nI_eq (a := ns (gV G)) (b := 0) (by omega) (by decide)).mp z9; omega)))
    refine j_iconst X (v := (nI 0)) dX10_smearedFraction_14 (by decide) ?_
    refine j_callV X (m_fails hok hst hM (n := 0) (by decide)) i_X10_fails tw_6_135 tw_6_137 tp_25 M0 rfl dX10_smearedFraction_15 ?_ 
    refine j_if_eq X (tgt := 23) dX10_smearedFraction_18 (by decide) (fun _ => ?_) (fun q9 => absurd (rfl) q9)
    have hG1 := hG.jcode (nI 0)
    have c1 : jU t M 7 (nI 0) M 7 = nI 0 := by rw [jU_eq]; rfl
    have f1 : ∀ c, (c < M ∨ M + 8 ≤ c ∨ c = M + 4 ∨ c = M + 7) → jU t M 7 (nI 0) c = t c := fun c hc => jU_ne _ _ _ (by omega)
    generalize jU t M 7 (nI 0) = t1 at hG1 c1 f1 ⊢
    obtain ⟨w1, w2, w3, w4, w5, w6, w7⟩ := id hG1.1
    have loop : ∀ k, k ≤ ns (gV G) → J p l e (jR 2 0 0) s m args below meth c (jQm below args s g 0 0 (mPV M w (a_meanN G) (.float (a_frac G)) G z sk t)) 3 g 0 0 z sk t1 27 [some (.ref (jb g + M)), some (.int (nI (fb_ct (fun k => decide ((0 : Int32) < nI (sh (gV G) k).1.2.1)) k))), some (.int (nI k))] [] := by
      refine up_loop ?_ ?_
      · refine j_iload_n X (i := 2) dX10_smearedFraction_27 rfl rfl ?_
        refine j_aload_n X (i := 0) dX10_smearedFraction_28 rfl rfl ?_
        refine jFd.get X fd_X10_7 M0 rfl dX10_smearedFraction_29 ?_
        refine j_iconst X (v := (nI 1)) dX10_smearedFraction_32 (by decide) ?_
        refine j_iald X M1 rfl (by decide) (by decide) dX10_smearedFraction_33 ?_
        rw [w2]
        refine j_icmp_ge X (tgt := 60) dX10_smearedFraction_34 (by decide) (fun _ => ?_) (fun q9 => absurd (nI_le (Nat.le_refl _) (by omega)) q9)
        refine j_iload_n X (i := 1) dX10_smearedFraction_60 rfl rfl ?_
        refine j_i2f X dX10_smearedFraction_61 ?_
        refine j_aload_n X (i := 0) dX10_smearedFraction_62 rfl rfl ?_
        refine jFd.get X fd_X10_7 M0 rfl dX10_smearedFraction_63 ?_
        refine j_iconst X (v := (nI 1)) dX10_smearedFraction_66 (by decide) ?_
        refine j_iald X M1 rfl (by decide) (by decide) dX10_smearedFraction_67 ?_
        refine j_i2f X dX10_smearedFraction_68 ?_
        rw [w2]
        have hsum : fb_ct (fun k => decide ((0 : Int32) < nI (sh (gV G) k).1.2.1)) (ns (gV G)) ≤ ns (gV G) := fb_ct_le _ _
        refine j_fdiv X dX10_smearedFraction_69 (fp_f _ (by omega) _ (by omega) (by omega)) ?_
        exact j_fret X dX10_smearedFraction_70 rfl (mPV_mk (by unfold a_meanN; rw [if_neg h0]) (by unfold a_frac smC; rw [if_neg h0]) c1 hG1 f1)
      · intro k hk ih
        have hs := fb_ct_succ (fun k => decide ((0 : Int32) < nI (sh (gV G) k).1.2.1)) k
        refine j_iload_n X (i := 2) dX10_smearedFraction_27 rfl rfl ?_
        refine j_aload_n X (i := 0) dX10_smearedFraction_28 rfl rfl ?_
        refine jFd.get X fd_X10_7 M0 rfl dX10_smearedFraction_29 ?_
        refine j_iconst X (v := (nI 1)) dX10_smearedFraction_32 (by decide) ?_
        refine j_iald X M1 rfl (by decide) (by decide) dX10_smearedFraction_33 ?_
        rw [w2]
        refine j_icmp_ge X (tgt := 60) dX10_smearedFraction_34 (by decide) (fun q9 => absurd q9 (nI_ge hk (by omega))) (fun _ => ?_)
        refine j_iload_n X (i := 1) dX10_smearedFraction_37 rfl rfl ?_
        refine j_aload_n X (i := 0) dX10_smearedFraction_38 rfl rfl ?_
        refine j_iload_n X (i := 2) dX10_smearedFraction_39 rfl rfl ?_
        refine j_iconst X (v := (nI 1)) dX10_smearedFraction_40 (by decide) ?_
        refine j_callV X (m_on hok hst (k := k) (w := 1) hM (by omega)) i_X10_on tw_7_45 tw_7_47 tp_41 M0 rfl dX10_smearedFraction_41 ?_ 
        rw [show t1 (M + 1) (51 + 27 * k + 1) = nI (sh (gV G) k).1.2.1 from (w7 k hk).2.1]
        by_cases hp : (0 : Int32) < nI (sh (gV G) k).1.2.1
        · rw [show decide ((0 : Int32) < nI (sh (gV G) k).1.2.1) = true from decide_eq_true hp, if_pos rfl] at hs
          refine j_if_le X (tgt := 51) dX10_smearedFraction_44 (by decide) (fun q9 => absurd q9 ((fun z9 => by rw [fa_le] at z9; rw [fa_lt] at hp; omega))) (fun _ => ?_)
          refine j_iconst X (v := (nI 1)) dX10_smearedFraction_47 (by decide) ?_
          refine j_goto X (tgt := 52) dX10_smearedFraction_48 (by decide) ?_
          refine j_iadd X dX10_smearedFraction_52 ?_
          rw [nI_add, ← hs]
          refine j_istore_n X (i := 1) dX10_smearedFraction_53 rfl (by decide) rfl ?_
          refine j_iinc X (i := 2) (v := (nI (k + 1))) dX10_smearedFraction_54 rfl (nI_1 k) (by decide) rfl ?_
          refine j_goto X (tgt := 27) dX10_smearedFraction_57 (by decide) ?_
          exact ih
        · rw [show decide ((0 : Int32) < nI (sh (gV G) k).1.2.1) = false from decide_eq_false hp, if_neg (by decide)] at hs
          refine j_if_le X (tgt := 51) dX10_smearedFraction_44 (by decide) (fun _ => ?_) (fun q9 => absurd (fa_of_nlt hp) q9)
          refine j_iconst X (v := (nI 0)) dX10_smearedFraction_51 (by decide) ?_
          refine j_iadd X dX10_smearedFraction_52 ?_
          rw [nI_add, ← hs]
          refine j_istore_n X (i := 1) dX10_smearedFraction_53 rfl (by decide) rfl ?_
          refine j_iinc X (i := 2) (v := (nI (k + 1))) dX10_smearedFraction_54 rfl (nI_1 k) (by decide) rfl ?_
          refine j_goto X (tgt := 27) dX10_smearedFraction_57 (by decide) ?_
          exact ih
    refine j_iconst X (v := (nI 0)) dX10_smearedFraction_23 (by decide) ?_
    refine j_istore_n X (i := 1) dX10_smearedFraction_24 rfl (by decide) rfl ?_
    refine j_iconst X (v := (nI 0)) dX10_smearedFraction_25 (by decide) ?_
    refine j_istore_n X (i := 2) dX10_smearedFraction_26 rfl (by decide) rfl ?_
    exact loop 0 (Nat.zero_le _)

theorem m_writeRow {l : Launch} {g : jG} (hok : jOk g) (hst : l.stackTraces = false) {z : Option Nat} {sk : jS} {t : jT} {M : Nat} (hM : isMod g sk M) {w : WB} {G : GS} (hG : RmG t M w G) (hK : okG G) (o y : Int32) : jMet l g mX10_writeRow 3 0 0 [.ref (jb g + M), .int o, .int y] z sk t (mP M w (a_writeRow G o y) z sk t) := by
  refine j_body (lv := [some (.ref (jb g + M)), some (.int o), some (.int y), none, none]) i_X10_writeRow hok hst (fun p e s m args below meth c X => ?_)
  obtain ⟨M0, M1, M2, M3, M4, M5, M6, M7⟩ := id hM
  obtain ⟨r1, r2, r3, r4, r5, r6, r7, r8, r9, r10, r11⟩ := id hG
  obtain ⟨u1, u2, u3, u4, u5, u6, u7⟩ := id r1
  obtain ⟨k1, k2, k3, k4, k5, k6, k7, k8⟩ := id hK.1
  have no : ∀ n : Nat, 0 < n → n < 4 → a_writeRow G o y = (n, nI 0, G) → J p l e (jR 3 0 0) s m args below meth c (jQm below args s g 0 0 (mP M w (a_writeRow G o y) z sk t)) 5 g 0 0 z sk  t 28 [some (.ref (jb g + M)), some (.int o), some (.int y), none, none] [.int (nI n), .ref (jb g + M)] := fun n h0 h4 hr => by
    refine j_callV X (m_fails hok hst hM h4) i_X10_fails tw_6_135 tw_6_137 tp_25 M0 rfl dX10_writeRow_28 ?_ 
    rw [decide_eq_true h0]
    refine j_if_eq X (tgt := 36) dX10_writeRow_31 (by decide) (fun q9 => absurd q9 (by decide)) (fun _ => ?_)
    refine j_iconst X (v := (nI 0)) dX10_writeRow_34 (by decide) ?_
    exact j_iret X dX10_writeRow_35 rfl rfl (mP_no hG hr)
  refine j_aload_n X (i := 0) dX10_writeRow_0 rfl rfl ?_
  refine j_aload_n X (i := 0) dX10_writeRow_1 rfl rfl ?_
  refine j_iload_n X (i := 1) dX10_writeRow_2 rfl rfl ?_
  refine j_callV X (m_isSheet hok hst hM u2 (by omega) o) i_X10_isSheet tw_7_41 tw_7_43 tp_40 M0 rfl dX10_writeRow_3 ?_ 
  cases ho : pIx (ns (gV G)) o with
  | false =>
    refine j_if_ne X (tgt := 13) dX10_writeRow_6 (by decide) (fun q9 => absurd (rfl) q9) (fun _ => ?_)
    refine j_iconst X (v := (nI 1)) dX10_writeRow_9 (by decide) ?_
    refine j_goto X (tgt := 28) dX10_writeRow_10 (by decide) ?_
    exact no 1 (by decide) (by decide) (by unfold a_writeRow; rw [if_pos (show isSg G o = false from ho)])
  | true =>
    refine j_if_ne X (tgt := 13) dX10_writeRow_6 (by decide) (fun _ => ?_) (fun q9 => absurd q9 (by decide))
    refine j_iload_n X (i := 2) dX10_writeRow_13 rfl rfl ?_
    refine j_iconst X (v := (nI 0)) dX10_writeRow_14 (by decide) ?_
    refine j_bipush X (v := (nI 7)) dX10_writeRow_15 (by decide) ?_
    refine j_callS X (m_in hok hst _ _ _) i_X10_in tw_6_154 tw_6_155 dX10_writeRow_17 ?_ 
    rw [in07]
    cases hp : pIx 8 y with
    | false =>
      refine j_if_eq X (tgt := 27) dX10_writeRow_20 (by decide) (fun _ => ?_) (fun q9 => absurd (rfl) q9)
      refine j_iconst X (v := (nI 2)) dX10_writeRow_27 (by decide) ?_
      exact no 2 (by decide) (by decide) (by unfold a_writeRow; rw [if_neg (by rw [show isSg G o = true from ho]; decide), if_pos hp])
    | true =>
      clear no
      obtain ⟨k, hk1, rfl, hkn⟩ := pIx_of (by omega) ho
      obtain ⟨d, hd, rfl, hdn⟩ := pIx_of (by decide) hp
      refine j_if_eq X (tgt := 27) dX10_writeRow_20 (by decide) (fun q9 => absurd q9 (by decide)) (fun _ => ?_)
      refine j_iconst X (v := (nI 0)) dX10_writeRow_23 (by decide) ?_
      refine j_goto X (tgt := 28) dX10_writeRow_24 (by decide) ?_
      refine j_callV X (m_fails hok hst hM (n := 0) (by decide)) i_X10_fails tw_6_135 tw_6_137 tp_25 M0 rfl dX10_writeRow_28 ?_ 
      refine j_if_eq X (tgt := 36) dX10_writeRow_31 (by decide) (fun _ => ?_) (fun q9 => absurd (rfl) q9)
      have hG1 := hG.jcode (nI 0)
      have c1 : jU t M 7 (nI 0) M 7 = nI 0 := by rw [jU_eq]; rfl
      have f1 : ∀ c, (c < M ∨ M + 8 ≤ c ∨ c = M + 4 ∨ c = M + 7) → jU t M 7 (nI 0) c = t c := fun c hc => jU_ne _ _ _ (by omega)
      generalize jU t M 7 (nI 0) = t1 at hG1 c1 f1 ⊢
      obtain ⟨w1, w2, w3, w4, w5, w6, w7⟩ := id hG1.1
      have hr : a_writeRow G (nI k) (nI d) = (0, nI 16, setO G (16, rowV (sh (gV G) k).2.1 d)) := by unfold a_writeRow; rw [if_neg (by rw [show isSg G (nI k) = true from ho]; decide), if_neg (by rw [hp]; decide), sAt_nI hkn, hdn]
      have loop : ∀ x, x ≤ 16 → J p l e (jR 3 0 0) s m args below meth c (jQm below args s g 0 0 (mP M w (a_writeRow G (nI k) (nI d)) z sk t)) 5 g 0 0 z sk  (jUf t1 (M + 6) (fun q => if q < x then nI (rowV (sh (gV G) k).2.1 d q) else t1 (M + 6) q)) 38 [some (.ref (jb g + M)), some (.int (nI k)), some (.int (nI d)), some (.int (nI x)), none] [] := by
        refine up_loop ?_ ?_
        · refine j_iload_n X (i := 3) dX10_writeRow_38 rfl rfl ?_
          refine j_bipush X (v := (nI 16)) dX10_writeRow_39 (by decide) ?_
          refine j_icmp_ge X (tgt := 82) dX10_writeRow_41 (by decide) (fun _ => ?_) (fun q9 => absurd (nI_le (Nat.le_refl _) (by decide)) q9)
          refine j_aload_n X (i := 0) dX10_writeRow_82 rfl rfl ?_
          refine j_bipush X (v := (nI 16)) dX10_writeRow_83 (by decide) ?_
          refine jFd.put X fd_X10_176 M0 rfl rfl rfl rfl dX10_writeRow_85 ?_
          refine j_aload_n X (i := 0) dX10_writeRow_88 rfl rfl ?_
          refine jFd.get X fd_X10_176 M0 rfl dX10_writeRow_89 ?_
          rw [show jU (jUf t1 (M + 6) (fun q => if q < 16 then nI (rowV (sh (gV G) k).2.1 d q) else t1 (M + 6) q)) M 15 (nI 16) M 15 = nI 16 by rw [jU_eq]; rfl]
          have e : ∀ q, q ≠ 15 → jU (jUf t1 (M + 6) (fun q => if q < 16 then nI (rowV (sh (gV G) k).2.1 d q) else t1 (M + 6) q)) M 15 (nI 16) M q = t1 M q := fun q hq => by rw [jU_eq, jUf_ne _ _ (by omega)]; exact if_neg hq
          have o9 : ∀ c, c ≠ M → c ≠ M + 6 → jU (jUf t1 (M + 6) (fun q => if q < 16 then nI (rowV (sh (gV G) k).2.1 d q) else t1 (M + 6) q)) M 15 (nI 16) c = t1 c := fun c h1 h2 => by rw [jU_ne _ _ _ h1, jUf_ne _ _ h2]
          obtain ⟨s1, s2, s3, s4, s5, s6, s7, s8, s9, s10, s11⟩ := hG1
          exact j_iret X dX10_writeRow_92 rfl rfl (mP_mk hr ((e 7 (by decide)).trans c1) ⟨by rw [o9 _ (by omega) (by omega)]; exact s1, s2.cong (e 4 (by decide)) (o9 _ (by omega) (by omega)), (e 5 (by decide)).trans s3, by rw [o9 _ (by omega) (by omega)]; exact s4, ⟨(e 6 (by decide)).trans s5.1, (e 20 (by decide)).trans s5.2⟩, s6.cong (e 8 (by decide)) (e 9 (by decide)), ⟨(e 11 (by decide)).trans s7.1, by rw [o9 _ (by omega) (by omega)]; exact s7.2⟩, (e 12 (by decide)).trans s8, (e 13 (by decide)).trans s9, ⟨by rw [jU_eq]; rfl, fun i hi => by rw [jU_ne _ _ _ (by omega), jUf_eq]; exact if_pos hi⟩, s11.cong (e 16 (by decide)) (e 17 (by decide))⟩ (fun c hc => (o9 c (by omega) (by omega)).trans (f1 c hc)))
        · intro x hx ih
          have e1 : jUf t1 (M + 6) (fun q => if q < x then nI (rowV (sh (gV G) k).2.1 d q) else t1 (M + 6) q) (M + 1) = t1 (M + 1) := jUf_ne _ _ (by omega)
          refine j_iload_n X (i := 3) dX10_writeRow_38 rfl rfl ?_
          refine j_bipush X (v := (nI 16)) dX10_writeRow_39 (by decide) ?_
          refine j_icmp_ge X (tgt := 82) dX10_writeRow_41 (by decide) (fun q9 => absurd q9 (nI_ge hx (by decide))) (fun _ => ?_)
          refine j_aload_n X (i := 0) dX10_writeRow_44 rfl rfl ?_
          refine j_iload_n X (i := 1) dX10_writeRow_45 rfl rfl ?_
          refine j_iconst X (v := (nI 3)) dX10_writeRow_46 (by decide) ?_
          refine j_iload_n X (i := 3) dX10_writeRow_47 rfl rfl ?_
          refine j_iload_n X (i := 2) dX10_writeRow_48 rfl rfl ?_
          refine j_callV X (m_coloured hok hst (k := k) (wt := 3) (x := x) (y := d) (Q := (sh (gV G) k).2.1) hM (by omega) (by decide) (by rw [e1]; exact (w7 k hk1).2.2.2.1) hx hd) i_X10_coloured tw_7_82 tw_7_84 tp_47 M0 rfl dX10_writeRow_49 ?_ 
          have hlt : colN (sh (gV G) k).2.1 (16 * d + x) < 8 := colN_lt _ _
          have hrow : rowV (sh (gV G) k).2.1 d x = sgn (colN (sh (gV G) k).2.1 (16 * d + x)) := rfl
          have done : J p l e (jR 3 0 0) s m args below meth c (jQm below args s g 0 0 (mP M w (a_writeRow G (nI k) (nI d)) z sk t)) 5 g 0 0 z sk  (jUf t1 (M + 6) (fun q => if q < x then nI (rowV (sh (gV G) k).2.1 d q) else t1 (M + 6) q)) 75 [some (.ref (jb g + M)), some (.int (nI k)), some (.int (nI d)), some (.int (nI x)), some (.int (nI (colN (sh (gV G) k).2.1 (16 * d + x))))] [.int (nI (sgn (colN (sh (gV G) k).2.1 (16 * d + x)))), .int (nI x), .ref (jb g + (M + 6))] := by
            refine j_castore X M6 rfl hx (by decide) (sgn_nc _ hlt) dX10_writeRow_75 ?_
            refine j_iinc X (i := 3) (v := (nI (x + 1))) dX10_writeRow_76 rfl (nI_1 x) (by decide) rfl ?_
            refine j_goto X (tgt := 38) dX10_writeRow_79 (by decide) ?_
            have e5 : jU (jUf t1 (M + 6) (fun q => if q < x then nI (rowV (sh (gV G) k).2.1 d q) else t1 (M + 6) q)) (M + 6) x (nI (sgn (colN (sh (gV G) k).2.1 (16 * d + x)))) = jUf t1 (M + 6) (fun q => if q < x + 1 then nI (rowV (sh (gV G) k).2.1 d q) else t1 (M + 6) q) := by
              rw [jU_row, jUf_jUf, jUf_eq]
              congr 1
              funext q
              unfold upd
              by_cases hq : q = x
              · rw [if_pos hq, if_pos (by omega), hq, hrow]
              · rw [if_neg hq]
                show (if q < x then _ else _) = _
                by_cases h2 : q < x
                · rw [if_pos h2, if_pos (by omega)]
                · rw [if_neg h2, if_neg (by omega)]
            rw [e5]
            refine j_drop 4 ?_
            exact ih
          refine j_istore X (i := 4) dX10_writeRow_52 (by decide) rfl ?_
          refine j_aload_n X (i := 0) dX10_writeRow_54 rfl rfl ?_
          refine jFd.get X fd_X10_32 M0 rfl dX10_writeRow_55 ?_
          refine j_iload_n X (i := 3) dX10_writeRow_58 rfl rfl ?_
          refine j_iload X (i := 4) dX10_writeRow_59 rfl ?_
          by_cases hc : colN (sh (gV G) k).2.1 (16 * d + x) = 0
          · rw [show sgn (colN (sh (gV G) k).2.1 (16 * d + x)) = 46 from if_pos hc] at done
            refine j_if_ne X (tgt := 69) dX10_writeRow_61 (by decide) (fun q9 => absurd ((congrArg nI hc)) q9) (fun _ => ?_)
            refine j_bipush X (v := (nI 46)) dX10_writeRow_64 (by decide) ?_
            refine j_goto X (tgt := 74) dX10_writeRow_66 (by decide) ?_
            refine j_i2c X dX10_writeRow_74 rfl ?_
            exact done
          · rw [show sgn (colN (sh (gV G) k).2.1 (16 * d + x)) = 48 + colN (sh (gV G) k).2.1 (16 * d + x) from if_neg hc] at done
            refine j_if_ne X (tgt := 69) dX10_writeRow_61 (by decide) (fun _ => ?_) (fun q9 => absurd q9 ((fun z9 => hc ((nI_eq (by omega) (by decide)).mp z9))))
            refine j_bipush X (v := (nI 48)) dX10_writeRow_69 (by decide) ?_
            refine j_iload X (i := 4) dX10_writeRow_71 rfl ?_
            refine j_iadd X dX10_writeRow_73 ?_
            rw [nI_add]
            refine j_i2c X dX10_writeRow_74 (sgn_i2c _ hlt) ?_
            exact done
      refine j_iconst X (v := (nI 0)) dX10_writeRow_36 (by decide) ?_
      refine j_istore_n X (i := 3) dX10_writeRow_37 rfl (by decide) rfl ?_
      have k0 := loop 0 (Nat.zero_le _)
      rw [show (fun q => if q < 0 then nI (rowV (sh (gV G) k).2.1 d q) else t1 (M + 6) q) = t1 (M + 6) from funext fun q => if_neg (Nat.not_lt_zero q), jUf_self] at k0
      exact k0

theorem m_outChar {l : Launch} {g : jG} (hok : jOk g) (hst : l.stackTraces = false) {z : Option Nat} {sk : jS} {t : jT} {M : Nat} (hM : isMod g sk M) {w : WB} {G : GS} (hG : RmG t M w G) (hK : okG G) (x : Int32) : jMet l g mX10_outputCharacter 2 0 0 [.ref (jb g + M), .int x] z sk t (mP M w (a_outChar G x) z sk t) := by
  refine j_body (lv := [some (.ref (jb g + M)), some (.int x)]) i_X10_outputCharacter hok hst (fun p e s m args below meth c X => ?_)
  obtain ⟨M0, M1, M2, M3, M4, M5, M6, M7⟩ := id hM
  obtain ⟨r1, r2, r3, r4, r5, r6, r7, r8, r9, r10, r11⟩ := id hG
  obtain ⟨u1, u2, u3, u4, u5, u6, u7⟩ := id r1
  obtain ⟨k1, k2, k3, k4, k5, k6, k7, k8⟩ := id hK.1
  obtain ⟨o16, oc, -, -⟩ := hK.o
  refine j_aload_n X (i := 0) dX10_outputCharacter_0 rfl rfl ?_
  refine j_iload_n X (i := 1) dX10_outputCharacter_1 rfl rfl ?_
  refine j_iconst X (v := (nI 0)) dX10_outputCharacter_2 (by decide) ?_
  refine j_aload_n X (i := 0) dX10_outputCharacter_3 rfl rfl ?_
  refine jFd.get X fd_X10_176 M0 rfl dX10_outputCharacter_4 ?_
  rw [r10.1]
  refine j_iconst X (v := (nI 1)) dX10_outputCharacter_7 (by decide) ?_
  refine j_isub X dX10_outputCharacter_8 ?_
  have e1 : nI (gO G).1 - nI 1 = iN (((gO G).1 : Int) - 1) := by rw [← iN_nI, ← iN_nI, iN_sub]; rfl
  have e2 : inB x (nI 0) (iN (((gO G).1 : Int) - 1)) = pIx (gO G).1 x := by
    unfold inB pIx
    rw [iN_toInt (by omega) (by omega), show (nI 0).toInt = 0 by decide]
    exact decide_eq_decide.mpr (by omega)
  rw [e1]
  refine j_callS X (m_in hok hst _ _ _) i_X10_in tw_6_154 tw_6_155 dX10_outputCharacter_9 ?_ 
  rw [e2]
  cases hp : pIx (gO G).1 x with
  | false =>
    refine j_if_eq X (tgt := 19) dX10_outputCharacter_12 (by decide) (fun _ => ?_) (fun q9 => absurd (rfl) q9)
    refine j_iconst X (v := (nI 1)) dX10_outputCharacter_19 (by decide) ?_
    refine j_callV X (m_fails hok hst hM (n := 1) (by decide)) i_X10_fails tw_6_135 tw_6_137 tp_25 M0 rfl dX10_outputCharacter_20 ?_ 
    refine j_if_eq X (tgt := 31) dX10_outputCharacter_23 (by decide) (fun q9 => absurd q9 (by decide)) (fun _ => ?_)
    refine j_bipush X (v := (nI 32)) dX10_outputCharacter_26 (by decide) ?_
    refine j_goto X (tgt := 37) dX10_outputCharacter_28 (by decide) ?_
    exact j_iret X dX10_outputCharacter_37 rfl (pk_charN (by decide)).1 (mP_no hG (by unfold a_outChar; rw [if_neg (by rw [hp]; decide)]))
  | true =>
    obtain ⟨k, hk, rfl, hkn⟩ := pIx_of (by omega) hp
    refine j_if_eq X (tgt := 19) dX10_outputCharacter_12 (by decide) (fun q9 => absurd q9 (by decide)) (fun _ => ?_)
    refine j_iconst X (v := (nI 0)) dX10_outputCharacter_15 (by decide) ?_
    refine j_goto X (tgt := 20) dX10_outputCharacter_16 (by decide) ?_
    refine j_callV X (m_fails hok hst hM (n := 0) (by decide)) i_X10_fails tw_6_135 tw_6_137 tp_25 M0 rfl dX10_outputCharacter_20 ?_ 
    refine j_if_eq X (tgt := 31) dX10_outputCharacter_23 (by decide) (fun _ => ?_) (fun q9 => absurd (rfl) q9)
    refine j_aload_n X (i := 0) dX10_outputCharacter_31 rfl rfl ?_
    refine jFd.get X fd_X10_32 M0 rfl dX10_outputCharacter_32 ?_
    refine j_iload_n X (i := 1) dX10_outputCharacter_35 rfl rfl ?_
    refine j_cald X M6 rfl (by omega) (by decide) dX10_outputCharacter_36 ?_
    rw [jU_ne _ _ _ (by omega), r10.2 k hk]
    exact j_iret X dX10_outputCharacter_37 rfl (pk_charN (oc k)).1 (mP_no hG (by unfold a_outChar; rw [if_pos hp, hkn]))

theorem m_isConsistent {l : Launch} {g : jG} (hok : jOk g) (hst : l.stackTraces = false) {z : Option Nat} {sk : jS} {t : jT} {M : Nat} (hM : isMod g sk M) {w : WB} {G : GS} (hG : RmG t M w G) (hK : okG G) : jMet l g mX10_isConsistent 1 0 0 [.ref (jb g + M)] z sk t (mP M w (a_isConsistent G) z sk t) := by
  refine j_body (lv := [some (.ref (jb g + M))]) i_X10_isConsistent hok hst (fun p e s m args below meth c X => ?_)
  obtain ⟨M0, M1, M2, M3, M4, M5, M6, M7⟩ := id hM
  obtain ⟨r1, r2, r3, r4, r5, r6, r7, r8, r9, r10, r11⟩ := id hG
  obtain ⟨u1, u2, u3, u4, u5, u6, u7⟩ := id r1
  obtain ⟨k1, k2, k3, k4, k5, k6, k7, k8⟩ := id hK.1
  refine j_aload_n X (i := 0) dX10_isConsistent_0 rfl rfl ?_
  refine j_iconst X (v := (nI 0)) dX10_isConsistent_1 (by decide) ?_
  refine jFd.put X fd_X10_39 M0 rfl rfl rfl rfl dX10_isConsistent_2 ?_
  refine j_iconst X (v := (nI 1)) dX10_isConsistent_5 (by decide) ?_
  exact j_iret X dX10_isConsistent_6 rfl rfl (mP_no hG rfl)

theorem m_undoCount {l : Launch} {g : jG} (hok : jOk g) (hst : l.stackTraces = false) {z : Option Nat} {sk : jS} {t : jT} {M : Nat} (hM : isMod g sk M) {w : WB} {G : GS} (hG : RmG t M w G) (hK : okG G) : jMet l g mX10_undoCount 1 0 0 [.ref (jb g + M)] z sk t (mP M w (a_undoCount G) z sk t) := by
  refine j_body (lv := [some (.ref (jb g + M))]) i_X10_undoCount hok hst (fun p e s m args below meth c X => ?_)
  obtain ⟨M0, M1, M2, M3, M4, M5, M6, M7⟩ := id hM
  obtain ⟨r1, r2, r3, r4, r5, r6, r7, r8, r9, r10, r11⟩ := id hG
  obtain ⟨u1, u2, u3, u4, u5, u6, u7⟩ := id r1
  obtain ⟨k1, k2, k3, k4, k5, k6, k7, k8⟩ := id hK.1
  refine j_aload_n X (i := 0) dX10_undoCount_0 rfl rfl ?_
  refine j_iconst X (v := (nI 0)) dX10_undoCount_1 (by decide) ?_
  refine jFd.put X fd_X10_39 M0 rfl rfl rfl rfl dX10_undoCount_2 ?_
  refine j_aload_n X (i := 0) dX10_undoCount_5 rfl rfl ?_
  refine jFd.get X fd_X10_52 M0 rfl dX10_undoCount_6 ?_
  rw [show jU t M 7 (nI 0) M 5 = nI (gH G).1 by rw [jU_eq]; exact r3]
  exact j_iret X dX10_undoCount_9 rfl rfl (mP_no hG rfl)

theorem m_thrown {l : Launch} {g : jG} (hok : jOk g) (hst : l.stackTraces = false) {z : Option Nat} {sk : jS} {t : jT} {M : Nat} (hM : isMod g sk M) : jMet l g mX10_thrown 1 0 0 [.ref (jb g + M)] z sk t (jE (some (.int (t M 7))) z sk t) := by
  refine j_body (lv := [some (.ref (jb g + M))]) i_X10_thrown hok hst (fun p e s m args below meth c X => ?_)
  obtain ⟨M0, M1, M2, M3, M4, M5, M6, M7⟩ := id hM
  refine j_aload_n X (i := 0) dX10_thrown_0 rfl rfl ?_
  refine jFd.get X fd_X10_39 M0 rfl dX10_thrown_1 ?_
  exact j_iret X dX10_thrown_4 rfl rfl ⟨rfl, rfl, rfl, rfl⟩

theorem m_feed {l : Launch} {g : jG} (hok : jOk g) (hst : l.stackTraces = false) {z : Option Nat} {sk : jS} {t : jT} {M : Nat} (hM : isMod g sk M) {w : WB} {G : GS} (hG : RmG t M w G) (hK : okG G) (x : Nat) : jMet l g mX10_feed 2 0 0 [.ref (jb g + M), .int (nI x)] z sk t (mP M w (a_feed G x) z sk t) := by
  refine j_body (lv := [some (.ref (jb g + M)), some (.int (nI x))]) i_X10_feed hok hst (fun p e s m args below meth c X => ?_)
  obtain ⟨M0, M1, M2, M3, M4, M5, M6, M7⟩ := id hM
  obtain ⟨r1, r2, r3, r4, r5, r6, r7, r8, r9, r10, r11⟩ := id hG
  obtain ⟨u1, u2, u3, u4, u5, u6, u7⟩ := id r1
  obtain ⟨k1, k2, k3, k4, k5, k6, k7, k8⟩ := id hK.1
  have h60 := hK.2.2.2.2.1
  refine j_aload_n X (i := 0) dX10_feed_0 rfl rfl ?_
  refine j_aload_n X (i := 0) dX10_feed_1 rfl rfl ?_
  refine jFd.get X fd_X10_179 M0 rfl dX10_feed_2 ?_
  refine j_bipush X (v := (nI 60)) dX10_feed_5 (by decide) ?_
  rw [r7.1]
  by_cases h6 : (gT G).1 = 60
  · refine j_icmp_ne X (tgt := 14) dX10_feed_7 (by decide) (fun q9 => absurd ((congrArg nI h6)) q9) (fun _ => ?_)
    refine j_iconst X (v := (nI 1)) dX10_feed_10 (by decide) ?_
    refine j_goto X (tgt := 15) dX10_feed_11 (by decide) ?_
    refine j_callV X (m_fails hok hst hM (n := 1) (by decide)) i_X10_fails tw_6_135 tw_6_137 tp_25 M0 rfl dX10_feed_15 ?_ 
    refine j_if_eq X (tgt := 23) dX10_feed_18 (by decide) (fun q9 => absurd q9 (by decide)) (fun _ => ?_)
    refine j_iconst X (v := (nI 0)) dX10_feed_21 (by decide) ?_
    exact j_iret X dX10_feed_22 rfl rfl (mP_no hG (by unfold a_feed; rw [if_pos h6]))
  · refine j_icmp_ne X (tgt := 14) dX10_feed_7 (by decide) (fun _ => ?_) (fun q9 => absurd q9 ((fun z9 => h6 ((nI_eq (by omega) (by decide)).mp z9))))
    refine j_iconst X (v := (nI 0)) dX10_feed_14 (by decide) ?_
    refine j_callV X (m_fails hok hst hM (n := 0) (by decide)) i_X10_fails tw_6_135 tw_6_137 tp_25 M0 rfl dX10_feed_15 ?_ 
    refine j_if_eq X (tgt := 23) dX10_feed_18 (by decide) (fun _ => ?_) (fun q9 => absurd (rfl) q9)
    have hG1 := hG.jcode (nI 0)
    have c1 : jU t M 7 (nI 0) M 7 = nI 0 := by rw [jU_eq]; rfl
    have f1 : ∀ c, (c < M ∨ M + 8 ≤ c ∨ c = M + 4 ∨ c = M + 7) → jU t M 7 (nI 0) c = t c := fun c hc => jU_ne _ _ _ (by omega)
    generalize jU t M 7 (nI 0) = t1 at hG1 c1 f1 ⊢
    obtain ⟨w1, w2, w3, w4, w5, w6, w7⟩ := id hG1.1
    obtain ⟨s1, s2, s3, s4, s5, s6, s7, s8, s9, s10, s11⟩ := hG1
    refine j_aload_n X (i := 0) dX10_feed_23 rfl rfl ?_
    refine jFd.get X fd_X10_22 M0 rfl dX10_feed_24 ?_
    refine j_aload_n X (i := 0) dX10_feed_27 rfl rfl ?_
    refine jFd.get X fd_X10_179 M0 rfl dX10_feed_28 ?_
    rw [s7.1]
    refine j_iload_n X (i := 1) dX10_feed_31 rfl rfl ?_
    refine j_iast X M5 rfl (by omega) (by decide) dX10_feed_32 ?_
    refine j_aload_n X (i := 0) dX10_feed_33 rfl rfl ?_
    refine j_dup X dX10_feed_34 rfl ?_
    refine jFd.get X fd_X10_179 M0 rfl dX10_feed_35 ?_
    refine j_iconst X (v := (nI 1)) dX10_feed_38 (by decide) ?_
    rw [jU_ne _ _ _ (show M ≠ M + 5 by omega), s7.1]
    refine j_iadd X dX10_feed_39 ?_
    rw [nI_add]
    refine jFd.put X fd_X10_179 M0 rfl rfl rfl rfl dX10_feed_40 ?_
    refine j_aload_n X (i := 0) dX10_feed_43 rfl rfl ?_
    refine jFd.get X fd_X10_179 M0 rfl dX10_feed_44 ?_
    rw [jU_eq, show upd (jU t1 (M + 5) (gT G).1 (nI x) M) 11 (nI ((gT G).1 + 1)) 11 = nI ((gT G).1 + 1) from if_pos rfl]
    have e : ∀ q, q ≠ 11 → jU (jU t1 (M + 5) (gT G).1 (nI x)) M 11 (nI ((gT G).1 + 1)) M q = t1 M q := fun q hq => by rw [jU_eq, jU_ne _ _ _ (by omega)]; exact if_neg hq
    have o9 : ∀ c, c ≠ M → c ≠ M + 5 → jU (jU t1 (M + 5) (gT G).1 (nI x)) M 11 (nI ((gT G).1 + 1)) c = t1 c := fun c h1 h2 => by rw [jU_ne _ _ _ h1, jU_ne _ _ _ h2]
    have hr : a_feed G x = (0, nI ((gT G).1 + 1), setT G ((gT G).1 + 1, fun i => if i = (gT G).1 then x else (gT G).2 i)) := by unfold a_feed; rw [if_neg h6]
    refine j_iret X dX10_feed_47 rfl rfl (mP_mk hr ((e 7 (by decide)).trans c1) ⟨by rw [o9 _ (by omega) (by omega)]; exact s1, s2.cong (e 4 (by decide)) (o9 _ (by omega) (by omega)), (e 5 (by decide)).trans s3, by rw [o9 _ (by omega) (by omega)]; exact s4, ⟨(e 6 (by decide)).trans s5.1, (e 20 (by decide)).trans s5.2⟩, s6.cong (e 8 (by decide)) (e 9 (by decide)), ⟨by rw [jU_eq]; exact if_pos rfl, fun i hi => ?_⟩, (e 12 (by decide)).trans s8, (e 13 (by decide)).trans s9, ⟨(e 15 (by decide)).trans s10.1, by rw [o9 _ (by omega) (by omega)]; exact s10.2⟩, s11.cong (e 16 (by decide)) (e 17 (by decide))⟩ (fun c hc => (o9 c (by omega) (by omega)).trans (f1 c hc)))
    have hi : i < (gT G).1 + 1 := hi
    rw [jU_ne _ _ _ (by omega), jU_eq]
    show upd _ _ _ _ = nI (if i = (gT G).1 then x else (gT G).2 i)
    unfold upd
    by_cases q : i = (gT G).1
    · rw [if_pos q, if_pos q]
    · rw [if_neg q, if_neg q]; exact s7.2 i (by omega)

theorem m_undo {l : Launch} {g : jG} (hok : jOk g) (hst : l.stackTraces = false) {z : Option Nat} {sk : jS} {t : jT} {M : Nat} (hM : isMod g sk M) {w : WB} {G : GS} (hG : RmG t M w G) (hK : okG G) : jMet l g mX10_undo 2 0 0 [.ref (jb g + M)] z sk t (mP M w (a_undo G) z sk t) := by
  refine j_body (lv := [some (.ref (jb g + M))]) i_X10_undo hok hst (fun p e s m args below meth c X => ?_)
  obtain ⟨M0, M1, M2, M3, M4, M5, M6, M7⟩ := id hM
  obtain ⟨r1, r2, r3, r4, r5, r6, r7, r8, r9, r10, r11⟩ := id hG
  obtain ⟨u1, u2, u3, u4, u5, u6, u7⟩ := id r1
  obtain ⟨k1, k2, k3, k4, k5, k6, k7, k8⟩ := id hK.1
  refine j_aload_n X (i := 0) dX10_undo_0 rfl rfl ?_
  refine j_aload_n X (i := 0) dX10_undo_1 rfl rfl ?_
  refine jFd.get X fd_X10_52 M0 rfl dX10_undo_2 ?_
  rw [r3]
  by_cases h0 : (gH G).1 = 0
  · refine j_if_ne X (tgt := 12) dX10_undo_5 (by decide) (fun q9 => absurd ((congrArg nI h0)) q9) (fun _ => ?_)
    refine j_iconst X (v := (nI 1)) dX10_undo_8 (by decide) ?_
    refine j_goto X (tgt := 13) dX10_undo_9 (by decide) ?_
    refine j_callV X (m_fails hok hst hM (n := 1) (by decide)) i_X10_fails tw_6_135 tw_6_137 tp_25 M0 rfl dX10_undo_13 ?_ 
    refine j_if_eq X (tgt := 21) dX10_undo_16 (by decide) (fun q9 => absurd q9 (by decide)) (fun _ => ?_)
    refine j_iconst X (v := (nI 0)) dX10_undo_19 (by decide) ?_
    exact j_iret X dX10_undo_20 rfl rfl (mP_no hG (by unfold a_undo; rw [if_pos h0]))
  · have h8 := r4.1
    refine j_if_ne X (tgt := 12) dX10_undo_5 (by decide) (fun _ => ?_) (fun q9 => absurd q9 ((fun z9 => h0 ((nI_eq (by omega) (by decide)).mp z9))))
    refine j_iconst X (v := (nI 0)) dX10_undo_12 (by decide) ?_
    refine j_callV X (m_fails hok hst hM (n := 0) (by decide)) i_X10_fails tw_6_135 tw_6_137 tp_25 M0 rfl dX10_undo_13 ?_ 
    refine j_if_eq X (tgt := 21) dX10_undo_16 (by decide) (fun _ => ?_) (fun q9 => absurd (rfl) q9)
    have hG1 := hG.jcode (nI 0)
    have c1 : jU t M 7 (nI 0) M 7 = nI 0 := by rw [jU_eq]; rfl
    have f1 : ∀ c, (c < M ∨ M + 8 ≤ c ∨ c = M + 4 ∨ c = M + 7) → jU t M 7 (nI 0) c = t c := fun c hc => jU_ne _ _ _ (by omega)
    generalize jU t M 7 (nI 0) = t1 at hG1 c1 f1 ⊢
    obtain ⟨w1, w2, w3, w4, w5, w6, w7⟩ := id hG1.1
    obtain ⟨s1, s2, s3, s4, s5, s6, s7, s8, s9, s10, s11⟩ := hG1
    obtain ⟨n, hn⟩ : ∃ n, (gH G).1 = n + 1 := ⟨(gH G).1 - 1, by omega⟩
    have hwin := s4.2 n (by omega)
    have hkn := hK.hh n (by omega)
    refine j_aload_n X (i := 0) dX10_undo_21 rfl rfl ?_
    refine j_dup X dX10_undo_22 rfl ?_
    refine jFd.get X fd_X10_52 M0 rfl dX10_undo_23 ?_
    refine j_iconst X (v := (nI 1)) dX10_undo_26 (by decide) ?_
    rw [s3, hn]
    refine j_isub X dX10_undo_27 ?_
    rw [pk_sub (by omega), Nat.add_sub_cancel]
    refine jFd.put X fd_X10_52 M0 rfl rfl rfl rfl dX10_undo_28 ?_
    refine j_aload_n X (i := 0) dX10_undo_31 rfl rfl ?_
    refine jFd.get X fd_X10_13 M0 rfl dX10_undo_32 ?_
    refine j_sipush X (v := (nI 267)) dX10_undo_35 (by decide) ?_
    refine j_aload_n X (i := 0) dX10_undo_38 rfl rfl ?_
    refine jFd.get X fd_X10_52 M0 rfl dX10_undo_39 ?_
    rw [jU_eq, show upd (t1 M) 5 (nI n) 5 = nI n from if_pos rfl]
    refine j_imul X dX10_undo_42 ?_
    rw [pk_mul]
    refine j_aload_n X (i := 0) dX10_undo_43 rfl rfl ?_
    refine jFd.get X fd_X10_7 M0 rfl dX10_undo_44 ?_
    refine j_iconst X (v := (nI 0)) dX10_undo_47 (by decide) ?_
    refine j_callS X (m_copies hok hst (o0 := 267 * n) (o1 := 0) M2 M1 (by omega) (by omega) (by decide) (by decide) (by decide)) i_X10_copies tw_6_143 tw_6_144 dX10_undo_48 ?_ 
    have e : ∀ q, q ≠ 5 → jUf (jU t1 M 5 (nI n)) (M + 1) (cpM (jU t1 M 5 (nI n)) (M + 2) (267 * n) (M + 1) 0 267) M q = t1 M q := fun q hq => by rw [jUf_ne _ _ (by omega), jU_eq]; exact if_neg hq
    have e5 : jUf (jU t1 M 5 (nI n)) (M + 1) (cpM (jU t1 M 5 (nI n)) (M + 2) (267 * n) (M + 1) 0 267) M 5 = nI n := by rw [jUf_ne _ _ (by omega), jU_eq]; exact if_pos rfl
    have o9 : ∀ c, c ≠ M → c ≠ M + 1 → jUf (jU t1 M 5 (nI n)) (M + 1) (cpM (jU t1 M 5 (nI n)) (M + 2) (267 * n) (M + 1) 0 267) c = t1 c := fun c h1 h2 => by rw [jUf_ne _ _ h2, jU_ne _ _ _ h1]
    have hg9 : ∀ q, q < 267 → jUf (jU t1 M 5 (nI n)) (M + 1) (cpM (jU t1 M 5 (nI n)) (M + 2) (267 * n) (M + 1) 0 267) (M + 1) q = t1 (M + 2) (267 * n + q) := fun q hq => by
      rw [jUf_eq]
      unfold cpM
      rw [if_pos (by omega), jU_ne _ _ _ (by omega)]
      rfl
    generalize jUf (jU t1 M 5 (nI n)) (M + 1) (cpM (jU t1 M 5 (nI n)) (M + 2) (267 * n) (M + 1) 0 267) = t5 at e e5 o9 hg9 ⊢
    have hr : a_undo G = (0, nI n, ((gH G).2 n, gS G, (n, (gH G).2), G.2.2.2)) := by unfold a_undo; rw [if_neg h0, hn, Nat.add_sub_cancel]
    refine j_aload_n X (i := 0) dX10_undo_51 rfl rfl ?_
    refine jFd.get X fd_X10_52 M0 rfl dX10_undo_52 ?_
    rw [e5]
    exact j_iret X dX10_undo_55 rfl rfl (mP_mk hr ((e 7 (by decide)).trans c1) ⟨hwin.cong hkn.1 hkn.2 (fun q hq => hg9 q hq), s2.cong (e 4 (by decide)) (o9 _ (by omega) (by omega)), e5, ⟨show n ≤ 8 by omega, fun i hi => by have hi : i < n := hi; rw [o9 _ (by omega) (by omega)]; exact s4.2 i (by omega)⟩, ⟨(e 6 (by decide)).trans s5.1, (e 20 (by decide)).trans s5.2⟩, s6.cong (e 8 (by decide)) (e 9 (by decide)), ⟨(e 11 (by decide)).trans s7.1, by rw [o9 _ (by omega) (by omega)]; exact s7.2⟩, (e 12 (by decide)).trans s8, (e 13 (by decide)).trans s9, ⟨(e 15 (by decide)).trans s10.1, by rw [o9 _ (by omega) (by omega)]; exact s10.2⟩, s11.cong (e 16 (by decide)) (e 17 (by decide))⟩ (fun c hc => (o9 c (by omega) (by omega)).trans (f1 c hc)))

theorem m_save {l : Launch} {g : jG} (hok : jOk g) (hst : l.stackTraces = false) {z : Option Nat} {sk : jS} {t : jT} {M : Nat} (hM : isMod g sk M) {w : WB} {G : GS} (hG : RmG t M w G) (hK : okG G) : jMet l g mX10_save 2 0 0 [.ref (jb g + M)] z sk t (mP M w (a_save G) z sk t) := by
  refine j_body (lv := [some (.ref (jb g + M))]) i_X10_save hok hst (fun p e s m args below meth c X => ?_)
  obtain ⟨M0, M1, M2, M3, M4, M5, M6, M7⟩ := id hM
  obtain ⟨r1, r2, r3, r4, r5, r6, r7, r8, r9, r10, r11⟩ := id hG
  obtain ⟨u1, u2, u3, u4, u5, u6, u7⟩ := id r1
  obtain ⟨k1, k2, k3, k4, k5, k6, k7, k8⟩ := id hK.1
  refine j_aload_n X (i := 0) dX10_save_0 rfl rfl ?_
  refine j_iconst X (v := (nI 0)) dX10_save_1 (by decide) ?_
  refine jFd.put X fd_X10_39 M0 rfl rfl rfl rfl dX10_save_2 ?_
  have hG1 := hG.jcode (nI 0)
  have c1 : jU t M 7 (nI 0) M 7 = nI 0 := by rw [jU_eq]; rfl
  have f1 : ∀ c, (c < M ∨ M + 8 ≤ c ∨ c = M + 4 ∨ c = M + 7) → jU t M 7 (nI 0) c = t c := fun c hc => jU_ne _ _ _ (by omega)
  generalize jU t M 7 (nI 0) = t1 at hG1 c1 f1 ⊢
  obtain ⟨w1, w2, w3, w4, w5, w6, w7⟩ := id hG1.1
  obtain ⟨s1, s2, s3, s4, s5, s6, s7, s8, s9, s10, s11⟩ := hG1
  refine j_aload_n X (i := 0) dX10_save_5 rfl rfl ?_
  refine j_iconst X (v := (nI 1)) dX10_save_6 (by decide) ?_
  refine jFd.put X fd_X10_268 M0 rfl rfl rfl rfl dX10_save_7 ?_
  refine j_aload_n X (i := 0) dX10_save_10 rfl rfl ?_
  refine jFd.get X fd_X10_7 M0 rfl dX10_save_11 ?_
  refine j_iconst X (v := (nI 0)) dX10_save_14 (by decide) ?_
  refine j_aload_n X (i := 0) dX10_save_15 rfl rfl ?_
  refine jFd.get X fd_X10_16 M0 rfl dX10_save_16 ?_
  refine j_iconst X (v := (nI 0)) dX10_save_19 (by decide) ?_
  refine j_callS X (m_copies hok hst (o0 := 0) (o1 := 0) M1 M3 (by omega) (by decide) (by decide) (by decide) (by decide)) i_X10_copies tw_6_143 tw_6_144 dX10_save_20 ?_ 
  have e : ∀ q, q ≠ 4 → jUf (jU t1 M 4 (nI 1)) (M + 3) (cpM (jU t1 M 4 (nI 1)) (M + 1) 0 (M + 3) 0 267) M q = t1 M q := fun q hq => by rw [jUf_ne _ _ (by omega), jU_eq]; exact if_neg hq
  have e4 : jUf (jU t1 M 4 (nI 1)) (M + 3) (cpM (jU t1 M 4 (nI 1)) (M + 1) 0 (M + 3) 0 267) M 4 = nI 1 := by rw [jUf_ne _ _ (by omega), jU_eq]; exact if_pos rfl
  have o9 : ∀ c, c ≠ M → c ≠ M + 3 → jUf (jU t1 M 4 (nI 1)) (M + 3) (cpM (jU t1 M 4 (nI 1)) (M + 1) 0 (M + 3) 0 267) c = t1 c := fun c h1 h2 => by rw [jUf_ne _ _ h2, jU_ne _ _ _ h1]
  have hg9 : ∀ q, q < 267 → jUf (jU t1 M 4 (nI 1)) (M + 3) (cpM (jU t1 M 4 (nI 1)) (M + 1) 0 (M + 3) 0 267) (M + 3) q = t1 (M + 1) q := fun q hq => by
    rw [jUf_eq]
    unfold cpM
    rw [if_pos (by omega), jU_ne _ _ _ (by omega), Nat.zero_add, Nat.sub_zero]
  generalize jUf (jU t1 M 4 (nI 1)) (M + 3) (cpM (jU t1 M 4 (nI 1)) (M + 1) 0 (M + 3) 0 267) = t5 at e e4 o9 hg9 ⊢
  refine j_aload_n X (i := 0) dX10_save_23 rfl rfl ?_
  refine jFd.get X fd_X10_7 M0 rfl dX10_save_24 ?_
  refine j_iconst X (v := (nI 1)) dX10_save_27 (by decide) ?_
  refine j_iald X M1 rfl (by decide) (by decide) dX10_save_28 ?_
  rw [o9 _ (by omega) (by omega), w2]
  exact j_iret X dX10_save_29 rfl rfl (mP_mk rfl ((e 7 (by decide)).trans c1) ⟨by rw [o9 _ (by omega) (by omega)]; exact s1, ⟨e4, s1.cong k1 k2 hg9⟩, (e 5 (by decide)).trans s3, by rw [o9 _ (by omega) (by omega)]; exact s4, ⟨(e 6 (by decide)).trans s5.1, (e 20 (by decide)).trans s5.2⟩, s6.cong (e 8 (by decide)) (e 9 (by decide)), ⟨(e 11 (by decide)).trans s7.1, by rw [o9 _ (by omega) (by omega)]; exact s7.2⟩, (e 12 (by decide)).trans s8, (e 13 (by decide)).trans s9, ⟨(e 15 (by decide)).trans s10.1, by rw [o9 _ (by omega) (by omega)]; exact s10.2⟩, s11.cong (e 16 (by decide)) (e 17 (by decide))⟩ (fun c hc => (o9 c (by omega) (by omega)).trans (f1 c hc)))

theorem m_restore {l : Launch} {g : jG} (hok : jOk g) (hst : l.stackTraces = false) {z : Option Nat} {sk : jS} {t : jT} {M : Nat} (hM : isMod g sk M) {w : WB} {G : GS} (hG : RmG t M w G) (hK : okG G) : jMet l g mX10_restore 2 0 0 [.ref (jb g + M)] z sk t (mP M w (a_restore G) z sk t) := by
  refine j_body (lv := [some (.ref (jb g + M))]) i_X10_restore hok hst (fun p e s m args below meth c X => ?_)
  obtain ⟨M0, M1, M2, M3, M4, M5, M6, M7⟩ := id hM
  obtain ⟨r1, r2, r3, r4, r5, r6, r7, r8, r9, r10, r11⟩ := id hG
  obtain ⟨u1, u2, u3, u4, u5, u6, u7⟩ := id r1
  obtain ⟨k1, k2, k3, k4, k5, k6, k7, k8⟩ := id hK.1
  cases hS : gS G with
  | none =>
    rw [hS] at r2
    have r2 : t M 4 = nI 0 := r2
    refine j_aload_n X (i := 0) dX10_restore_0 rfl rfl ?_
    refine j_aload_n X (i := 0) dX10_restore_1 rfl rfl ?_
    refine jFd.get X fd_X10_268 M0 rfl dX10_restore_2 ?_
    rw [r2]
    refine j_if_eq X (tgt := 12) dX10_restore_5 (by decide) (fun _ => ?_) (fun q9 => absurd (rfl) q9)
    refine j_iconst X (v := (nI 1)) dX10_restore_12 (by decide) ?_
    refine j_callV X (m_fails hok hst hM (n := 1) (by decide)) i_X10_fails tw_6_135 tw_6_137 tp_25 M0 rfl dX10_restore_13 ?_ 
    refine j_if_eq X (tgt := 21) dX10_restore_16 (by decide) (fun q9 => absurd q9 (by decide)) (fun _ => ?_)
    refine j_iconst X (v := (nI 0)) dX10_restore_19 (by decide) ?_
    exact j_iret X dX10_restore_20 rfl rfl (mP_no hG (by unfold a_restore; rw [hS]))
  | some S =>
    have hSk := hK.2.1 S hS
    rw [hS] at r2
    have r2 : t M 4 = nI 1 ∧ RmV (t (M + 3)) S := r2
    refine j_aload_n X (i := 0) dX10_restore_0 rfl rfl ?_
    refine j_aload_n X (i := 0) dX10_restore_1 rfl rfl ?_
    refine jFd.get X fd_X10_268 M0 rfl dX10_restore_2 ?_
    rw [r2.1]
    refine j_if_eq X (tgt := 12) dX10_restore_5 (by decide) (fun q9 => absurd q9 (by decide)) (fun _ => ?_)
    refine j_iconst X (v := (nI 0)) dX10_restore_8 (by decide) ?_
    refine j_goto X (tgt := 13) dX10_restore_9 (by decide) ?_
    refine j_callV X (m_fails hok hst hM (n := 0) (by decide)) i_X10_fails tw_6_135 tw_6_137 tp_25 M0 rfl dX10_restore_13 ?_ 
    refine j_if_eq X (tgt := 21) dX10_restore_16 (by decide) (fun _ => ?_) (fun q9 => absurd (rfl) q9)
    have hG1 := hG.jcode (nI 0)
    have c1 : jU t M 7 (nI 0) M 7 = nI 0 := by rw [jU_eq]; rfl
    have f1 : ∀ c, (c < M ∨ M + 8 ≤ c ∨ c = M + 4 ∨ c = M + 7) → jU t M 7 (nI 0) c = t c := fun c hc => jU_ne _ _ _ (by omega)
    generalize jU t M 7 (nI 0) = t1 at hG1 c1 f1 ⊢
    obtain ⟨w1, w2, w3, w4, w5, w6, w7⟩ := id hG1.1
    obtain ⟨s1, s2, s3, s4, s5, s6, s7, s8, s9, s10, s11⟩ := hG1
    rw [hS] at s2
    have s2 : t1 M 4 = nI 1 ∧ RmV (t1 (M + 3)) S := s2
    refine j_aload_n X (i := 0) dX10_restore_21 rfl rfl ?_
    refine jFd.get X fd_X10_16 M0 rfl dX10_restore_22 ?_
    refine j_iconst X (v := (nI 0)) dX10_restore_25 (by decide) ?_
    refine j_aload_n X (i := 0) dX10_restore_26 rfl rfl ?_
    refine jFd.get X fd_X10_7 M0 rfl dX10_restore_27 ?_
    refine j_iconst X (v := (nI 0)) dX10_restore_30 (by decide) ?_
    refine j_callS X (m_copies hok hst (o0 := 0) (o1 := 0) M3 M1 (by omega) (by decide) (by decide) (by decide) (by decide)) i_X10_copies tw_6_143 tw_6_144 dX10_restore_31 ?_ 
    refine j_aload_n X (i := 0) dX10_restore_34 rfl rfl ?_
    refine j_iconst X (v := (nI 0)) dX10_restore_35 (by decide) ?_
    refine jFd.put X fd_X10_52 M0 rfl rfl rfl rfl dX10_restore_36 ?_
    have e : ∀ q, q ≠ 5 → jU (jUf t1 (M + 1) (cpM t1 (M + 3) 0 (M + 1) 0 267)) M 5 (nI 0) M q = t1 M q := fun q hq => by rw [jU_eq, jUf_ne _ _ (by omega)]; exact if_neg hq
    have e5 : jU (jUf t1 (M + 1) (cpM t1 (M + 3) 0 (M + 1) 0 267)) M 5 (nI 0) M 5 = nI 0 := by rw [jU_eq]; exact if_pos rfl
    have o9 : ∀ c, c ≠ M → c ≠ M + 1 → jU (jUf t1 (M + 1) (cpM t1 (M + 3) 0 (M + 1) 0 267)) M 5 (nI 0) c = t1 c := fun c h1 h2 => by rw [jU_ne _ _ _ h1, jUf_ne _ _ h2]
    have hg9 : ∀ q, q < 267 → jU (jUf t1 (M + 1) (cpM t1 (M + 3) 0 (M + 1) 0 267)) M 5 (nI 0) (M + 1) q = t1 (M + 3) q := fun q hq => by
      rw [jU_ne _ _ _ (by omega), jUf_eq]
      unfold cpM
      rw [if_pos (by omega), Nat.zero_add, Nat.sub_zero]
    generalize jU (jUf t1 (M + 1) (cpM t1 (M + 3) 0 (M + 1) 0 267)) M 5 (nI 0) = t5 at e e5 o9 hg9 ⊢
    have hV5 : RmV (t5 (M + 1)) S := s2.2.cong hSk.1 hSk.2.1 hg9
    refine j_aload_n X (i := 0) dX10_restore_39 rfl rfl ?_
    refine jFd.get X fd_X10_7 M0 rfl dX10_restore_40 ?_
    refine j_iconst X (v := (nI 1)) dX10_restore_43 (by decide) ?_
    refine j_iald X M1 rfl (by decide) (by decide) dX10_restore_44 ?_
    rw [hV5.2.1]
    have hr : a_restore G = (0, nI (ns S), (S, some S, (0, (gH G).2), G.2.2.2)) := by unfold a_restore; rw [hS]
    exact j_iret X dX10_restore_45 rfl rfl (mP_mk hr ((e 7 (by decide)).trans c1) ⟨hV5, ⟨(e 4 (by decide)).trans s2.1, by rw [o9 _ (by omega) (by omega)]; exact s2.2⟩, e5, ⟨Nat.zero_le _, fun i hi => absurd hi (Nat.not_lt_zero i)⟩, ⟨(e 6 (by decide)).trans s5.1, (e 20 (by decide)).trans s5.2⟩, s6.cong (e 8 (by decide)) (e 9 (by decide)), ⟨(e 11 (by decide)).trans s7.1, by rw [o9 _ (by omega) (by omega)]; exact s7.2⟩, (e 12 (by decide)).trans s8, (e 13 (by decide)).trans s9, ⟨(e 15 (by decide)).trans s10.1, by rw [o9 _ (by omega) (by omega)]; exact s10.2⟩, s11.cong (e 16 (by decide)) (e 17 (by decide))⟩ (fun c hc => (o9 c (by omega) (by omega)).trans (f1 c hc)))

