theorem rkV_same {V : SV} {k : Nat} {s : TV} (h : s.1.2.2 = (sh V k).1.2.2) (a : Int) : rkV (upS V k s) a = rkV V a := by
  unfold rkV
  refine rkG_cong _ _ (fun j _ _ => ?_)
  show (if j = k then s else sh V j).1.2.2 = a ↔ _
  by_cases e : j = k
  · rw [if_pos e, e, h]
  · rw [if_neg e]
theorem RmV.upSD {f f2 : Nat → Int32} {V V2 : SV} (h : RmV f V) (h6 : np V ≤ 6) (h8 : ns V ≤ 8) {k : Nat} (hk : k < ns V) {s : TV} (e1 : V2.1 = V.1) (e2 : pl V2 = pl V) (e3 : sh V2 = fun j => if j = k then s else sh V j) (hd : ∀ i, i < 3 → f2 (3 + i) = nI (dr V2 i)) (hrk : ∀ a, a < 3 → f2 (6 + a) = iN (rkV V2 (a : Int))) (hs : RmS f2 (51 + 27 * k) s) (ho : ∀ j, (j < 3 ∨ 9 ≤ j) → (j < 51 + 27 * k ∨ 51 + 27 * k + 27 ≤ j) → f2 j = f j) : RmV f2 V2 := by
  obtain ⟨h1, h2, h3, h4, h5, h6', h7⟩ := h
  refine ⟨by rw [ho 0 (by omega) (by omega), h1]; unfold np; rw [e1], by rw [ho 1 (by omega) (by omega), h2]; unfold ns; rw [e1], by rw [ho 2 (by omega) (by omega), h3]; unfold hr; rw [e1], hd, hrk, fun j hj => ?_, fun j hj => ?_⟩
  · have e : np V2 = np V := by unfold np; rw [e1]
    have hj : j < np V := by omega
    rw [e2]
    exact (h6' j hj).cong fun i hi => ho _ (by omega) (by omega)
  · have e : ns V2 = ns V := by unfold ns; rw [e1]
    have hj : j < ns V := by omega
    rw [e3]
    show RmS f2 (51 + 27 * j) (if j = k then s else sh V j)
    by_cases e : j = k
    · rw [if_pos e, e]; exact hs
    · rw [if_neg e]
      exact (h7 j hj).cong fun i hi => ho _ (by omega) (by omega)
theorem RmV.upS {f f2 : Nat → Int32} {V : SV} (h : RmV f V) (h6 : np V ≤ 6) (h8 : ns V ≤ 8) {k : Nat} (hk : k < ns V) {s : TV} (hp : s.1.2.2 = (sh V k).1.2.2) (hs : RmS f2 (51 + 27 * k) s) (ho : ∀ j, (j < 51 + 27 * k ∨ 51 + 27 * k + 27 ≤ j) → f2 j = f j) : RmV f2 (upS V k s) :=
  h.upSD h6 h8 hk rfl rfl rfl (fun i hi => (ho _ (by omega)).trans (h.2.2.2.1 i hi)) (fun a ha => by rw [rkV_same hp]; exact (ho _ (by omega)).trans (h.2.2.2.2.1 a ha)) hs (fun j _ hj => ho j hj)
theorem bt_m : ∀ i, i < 32 → bt (-65538) i = decide (1 ≤ i % 16) := by decide +kernel
theorem smW (q : Nat → Bool) : nI (r32 q) ||| (nI (r32 q) <<< (nI 1 &&& 31) &&& (-65538)) = nI (r32 (fun j => q j || (decide (1 ≤ j % 16) && q (j - 1)))) := by
  apply b_ext
  intro i hi
  rw [b_or, b_and, b_shl 1 (by decide) _ hi, bt_m i hi, bt_nI hi, bt_nI hi, r32_bit, r32_bit, decide_eq_true hi, Bool.true_and, Bool.true_and]
  by_cases h : 1 ≤ i
  · rw [decide_eq_true h, Bool.true_and, bt_nI (by omega), r32_bit, decide_eq_true (show i - 1 < 32 by omega), Bool.true_and, Bool.and_comm]
  · rw [decide_eq_false h, decide_eq_false (show ¬ 1 ≤ i % 16 by omega)]
    simp
theorem RmS.w {f : Nat → Int32} {o : Nat} {s : TV} (h : RmS f o s) {i : Nat} (hi : i < 12) : f (o + (3 + i)) = nI (r32 (fun j => s.2.1 (i / 4) (32 * (i % 4) + j))) := by
  have := h.2.2.2.1 (i / 4) (by omega) (i % 4) (by omega)
  rwa [show o + 3 + 4 * (i / 4) + i % 4 = o + (3 + i) by omega] at this
theorem RmS.wm {f : Nat → Int32} {o : Nat} {s : TV} (h : RmS f o s) {i : Nat} (hi : i < 12) : f (o + (15 + i)) = nI (r32 (fun j => s.2.2 (i / 4) (32 * (i % 4) + j))) := by
  have := h.2.2.2.2 (i / 4) (by omega) (i % 4) (by omega)
  rwa [show o + 15 + 4 * (i / 4) + i % 4 = o + (15 + i) by omega] at this
theorem m_coloured {l : Launch} {g : jG} (hok : jOk g) (hst : l.stackTraces = false) {z : Option Nat} {sk : jS} {t : jT} {M : Nat} (hM : isMod g sk M) {k wt : Nat} {Q : Nat → Nat → Bool} (hk : k < 8) (hw : wt + 12 ≤ 27) (hQ : ∀ j, j < 3 → Wd (t (M + 1)) (51 + 27 * k + wt + 4 * j) (Q j)) {x y : Nat} (hx : x < 16) (hy : y < 8) : jMet l g mX10_coloured 2 0 0 [.ref (jb g + M), .int (nI k), .int (nI wt), .int (nI x), .int (nI y)] z sk t (jE (some (.int (nI (colN Q (16 * y + x))))) z sk t) := by
  refine j_body (lv := [some (.ref (jb g + M)), some (.int (nI k)), some (.int (nI wt)), some (.int (nI x)), some (.int (nI y)), none]) i_X10_coloured hok hst (fun p e s m args below meth c X => ?_)
  obtain ⟨M0, M1, M2, M3, M4, M5, M6, M7⟩ := id hM
  have third : ∀ n : Nat, n = (Q 0 (16 * y + x)).toNat + 2 * (Q 1 (16 * y + x)).toNat → J p l e (jR 2 0 0) s m args below meth c (jQm below args s g 0 0 (jE (some (.int (nI (colN Q (16 * y + x))))) z sk t)) 6 g 0 0 z sk t 48 [some (.ref (jb g + M)), some (.int (nI k)), some (.int (nI wt)), some (.int (nI x)), some (.int (nI y)), some (.int (nI (51 + 27 * k + wt)))] [.int (nI n)] := fun n hn => by
    refine j_aload_n X (i := 0) dX10_coloured_48 rfl rfl ?_
    refine j_iload X (i := 5) dX10_coloured_49 rfl ?_
    refine j_bipush X (v := (nI 8)) dX10_coloured_51 (by decide) ?_
    refine j_iadd X dX10_coloured_53 ?_
    rw [nI_add]
    refine j_iload_n X (i := 3) dX10_coloured_54 rfl rfl ?_
    refine j_iload X (i := 4) dX10_coloured_55 rfl ?_
    refine j_callV X (m_has hok hst (o := 51 + 27 * k + wt + 8) (x := x) (y := y) hM (hQ 2 (by decide)) (by omega) hx hy) i_X10_has tw_6_164 tw_6_166 tp_29 M0 rfl dX10_coloured_57 ?_ 
    have e : colN Q (16 * y + x) = n + 4 * (Q 2 (16 * y + x)).toNat := by unfold colN; omega
    cases h2 : Q 2 (16 * y + x) with
    | false =>
      rw [h2] at e
      refine j_if_eq X (tgt := 67) dX10_coloured_60 (by decide) (fun _ => ?_) (fun q9 => absurd (rfl) q9)
      refine j_iconst X (v := (nI 0)) dX10_coloured_67 (by decide) ?_
      refine j_iadd X dX10_coloured_68 ?_
      rw [nI_add]
      exact j_iret X dX10_coloured_69 rfl rfl ⟨by rw [e]; rfl, rfl, rfl, rfl⟩
    | true =>
      rw [h2] at e
      refine j_if_eq X (tgt := 67) dX10_coloured_60 (by decide) (fun q9 => absurd q9 (by decide)) (fun _ => ?_)
      refine j_iconst X (v := (nI 4)) dX10_coloured_63 (by decide) ?_
      refine j_goto X (tgt := 68) dX10_coloured_64 (by decide) ?_
      refine j_iadd X dX10_coloured_68 ?_
      rw [nI_add]
      exact j_iret X dX10_coloured_69 rfl rfl ⟨by rw [e]; rfl, rfl, rfl, rfl⟩
  have second : ∀ n : Nat, n = (Q 0 (16 * y + x)).toNat → J p l e (jR 2 0 0) s m args below meth c (jQm below args s g 0 0 (jE (some (.int (nI (colN Q (16 * y + x))))) z sk t)) 6 g 0 0 z sk t 28 [some (.ref (jb g + M)), some (.int (nI k)), some (.int (nI wt)), some (.int (nI x)), some (.int (nI y)), some (.int (nI (51 + 27 * k + wt)))] [.int (nI n)] := fun n hn => by
    refine j_aload_n X (i := 0) dX10_coloured_28 rfl rfl ?_
    refine j_iload X (i := 5) dX10_coloured_29 rfl ?_
    refine j_iconst X (v := (nI 4)) dX10_coloured_31 (by decide) ?_
    refine j_iadd X dX10_coloured_32 ?_
    rw [nI_add]
    refine j_iload_n X (i := 3) dX10_coloured_33 rfl rfl ?_
    refine j_iload X (i := 4) dX10_coloured_34 rfl ?_
    refine j_callV X (m_has hok hst (o := 51 + 27 * k + wt + 4) (x := x) (y := y) hM (hQ 1 (by decide)) (by omega) hx hy) i_X10_has tw_6_164 tw_6_166 tp_29 M0 rfl dX10_coloured_36 ?_ 
    cases h1 : Q 1 (16 * y + x) with
    | false =>
      rw [h1] at third
      refine j_if_eq X (tgt := 46) dX10_coloured_39 (by decide) (fun _ => ?_) (fun q9 => absurd (rfl) q9)
      refine j_iconst X (v := (nI 0)) dX10_coloured_46 (by decide) ?_
      refine j_iadd X dX10_coloured_47 ?_
      rw [nI_add]
      exact third _ (by rw [hn]; rfl)
    | true =>
      rw [h1] at third
      refine j_if_eq X (tgt := 46) dX10_coloured_39 (by decide) (fun q9 => absurd q9 (by decide)) (fun _ => ?_)
      refine j_iconst X (v := (nI 2)) dX10_coloured_42 (by decide) ?_
      refine j_goto X (tgt := 47) dX10_coloured_43 (by decide) ?_
      refine j_iadd X dX10_coloured_47 ?_
      rw [nI_add]
      exact third _ (by rw [hn]; rfl)
  refine j_bipush X (v := (nI 51)) dX10_coloured_0 (by decide) ?_
  refine j_bipush X (v := (nI 27)) dX10_coloured_2 (by decide) ?_
  refine j_iload_n X (i := 1) dX10_coloured_4 rfl rfl ?_
  refine j_imul X dX10_coloured_5 ?_
  refine j_iadd X dX10_coloured_6 ?_
  refine j_iload_n X (i := 2) dX10_coloured_7 rfl rfl ?_
  refine j_iadd X dX10_coloured_8 ?_
  rw [pk_mul, nI_add, nI_add]
  refine j_istore X (i := 5) dX10_coloured_9 (by decide) rfl ?_
  refine j_aload_n X (i := 0) dX10_coloured_11 rfl rfl ?_
  refine j_iload X (i := 5) dX10_coloured_12 rfl ?_
  refine j_iload_n X (i := 3) dX10_coloured_14 rfl rfl ?_
  refine j_iload X (i := 4) dX10_coloured_15 rfl ?_
  refine j_callV X (m_has hok hst (o := 51 + 27 * k + wt) (x := x) (y := y) hM (hQ 0 (by decide)) (by omega) hx hy) i_X10_has tw_6_164 tw_6_166 tp_29 M0 rfl dX10_coloured_17 ?_ 
  cases h0 : Q 0 (16 * y + x) with
  | false =>
    rw [h0] at second
    refine j_if_eq X (tgt := 27) dX10_coloured_20 (by decide) (fun _ => ?_) (fun q9 => absurd (rfl) q9)
    refine j_iconst X (v := (nI 0)) dX10_coloured_27 (by decide) ?_
    exact second 0 rfl
  | true =>
    rw [h0] at second
    refine j_if_eq X (tgt := 27) dX10_coloured_20 (by decide) (fun q9 => absurd q9 (by decide)) (fun _ => ?_)
    refine j_iconst X (v := (nI 1)) dX10_coloured_23 (by decide) ?_
    refine j_goto X (tgt := 28) dX10_coloured_24 (by decide) ?_
    exact second 1 rfl

theorem m_wrong {l : Launch} {g : jG} (hok : jOk g) (hst : l.stackTraces = false) {z : Option Nat} {sk : jS} {t : jT} {M : Nat} (hM : isMod g sk M) {k : Nat} (hk : k < 8) {v : TV} (hS : RmS (t (M + 1)) (51 + 27 * k) v) : jMet l g mX10_wrong 2 0 0 [.ref (jb g + M), .int (nI k)] z sk t (jE (some (.int (nI (misB v.2.1 v.2.2)))) z sk t) := by
  refine j_body (lv := [some (.ref (jb g + M)), some (.int (nI k)), none, none]) i_X10_wrong hok hst (fun p e s m args below meth c X => ?_)
  obtain ⟨M0, M1, M2, M3, M4, M5, M6, M7⟩ := id hM
  have e4 : ∀ n, fb_ct (misK v.2.1 v.2.2) (32 * n) = fb_sm (fun w => fb_ct (fun j => misK v.2.1 v.2.2 (32 * w + j)) 32) n := by
    intro n
    induction n with
    | zero => rfl
    | succ n ih => rw [fb_sm_succ, ← ih, show 32 * (n + 1) = 32 * n + 32 by omega, fb_ct_split]
  have wA : ∀ w j, w < 4 → j < 3 → t (M + 1) (51 + 27 * k + (3 + 4 * j + w)) = nI (r32 (fun i => v.2.1 j (32 * w + i))) := fun w j hw hj => by
    have := hS.2.2.2.1 j hj w hw
    rwa [show 51 + 27 * k + 3 + 4 * j + w = 51 + 27 * k + (3 + 4 * j + w) by omega] at this
  have wB : ∀ w j, w < 4 → j < 3 → t (M + 1) (51 + 27 * k + (15 + 4 * j + w)) = nI (r32 (fun i => v.2.2 j (32 * w + i))) := fun w j hw hj => by
    have := hS.2.2.2.2 j hj w hw
    rwa [show 51 + 27 * k + 15 + 4 * j + w = 51 + 27 * k + (15 + 4 * j + w) by omega] at this
  have key : ∀ w, w ≤ 4 → J p l e (jR 2 0 0) s m args below meth c (jQm below args s g 0 0 (jE (some (.int (nI (misB v.2.1 v.2.2)))) z sk t)) 4 g 0 0 z sk t 4 [some (.ref (jb g + M)), some (.int (nI k)), some (.int (nI (fb_ct (misK v.2.1 v.2.2) (32 * w)))), some (.int (nI w))] [] := by
    refine up_loop ?_ ?_
    · refine j_iload_n X (i := 3) dX10_wrong_4 rfl rfl ?_
      refine j_iconst X (v := (nI 4)) dX10_wrong_5 (by decide) ?_
      refine j_icmp_ge X (tgt := 79) dX10_wrong_6 (by decide) (fun _ => ?_) (fun q9 => absurd (nI_le (Nat.le_refl _) (by decide)) q9)
      refine j_iload_n X (i := 2) dX10_wrong_79 rfl rfl ?_
      exact j_iret X dX10_wrong_80 rfl rfl ⟨rfl, rfl, rfl, rfl⟩
    · intro w hw ih
      refine j_iload_n X (i := 3) dX10_wrong_4 rfl rfl ?_
      refine j_iconst X (v := (nI 4)) dX10_wrong_5 (by decide) ?_
      refine j_icmp_ge X (tgt := 79) dX10_wrong_6 (by decide) (fun q9 => absurd q9 (nI_ge hw (by decide))) (fun _ => ?_)
      refine j_iload_n X (i := 2) dX10_wrong_9 rfl rfl ?_
      refine j_aload_n X (i := 0) dX10_wrong_10 rfl rfl ?_
      refine j_iload_n X (i := 1) dX10_wrong_11 rfl rfl ?_
      refine j_iconst X (v := (nI 3)) dX10_wrong_12 (by decide) ?_
      refine j_iload_n X (i := 3) dX10_wrong_13 rfl rfl ?_
      refine j_iadd X dX10_wrong_14 ?_
      rw [nI_add]
      refine j_callV X (m_on hok hst (k := k) (w := 3 + w) hM (by omega)) i_X10_on tw_7_45 tw_7_47 tp_41 M0 rfl dX10_wrong_15 ?_ 
      refine j_aload_n X (i := 0) dX10_wrong_18 rfl rfl ?_
      refine j_iload_n X (i := 1) dX10_wrong_19 rfl rfl ?_
      refine j_bipush X (v := (nI 15)) dX10_wrong_20 (by decide) ?_
      refine j_iload_n X (i := 3) dX10_wrong_22 rfl rfl ?_
      refine j_iadd X dX10_wrong_23 ?_
      rw [show t (M + 1) (51 + 27 * k + (3 + w)) = _ from wA w 0 hw (by decide), nI_add]
      refine j_callV X (m_on hok hst (k := k) (w := 15 + w) hM (by omega)) i_X10_on tw_7_45 tw_7_47 tp_41 M0 rfl dX10_wrong_24 ?_ 
      rw [show t (M + 1) (51 + 27 * k + (15 + w)) = _ from wB w 0 hw (by decide)]
      refine j_ixor X dX10_wrong_27 ?_
      refine j_aload_n X (i := 0) dX10_wrong_28 rfl rfl ?_
      refine j_iload_n X (i := 1) dX10_wrong_29 rfl rfl ?_
      refine j_bipush X (v := (nI 7)) dX10_wrong_30 (by decide) ?_
      refine j_iload_n X (i := 3) dX10_wrong_32 rfl rfl ?_
      refine j_iadd X dX10_wrong_33 ?_
      rw [nI_add, nx_xor, r32_xor]
      refine j_callV X (m_on hok hst (k := k) (w := 7 + w) hM (by omega)) i_X10_on tw_7_45 tw_7_47 tp_41 M0 rfl dX10_wrong_34 ?_ 
      refine j_aload_n X (i := 0) dX10_wrong_37 rfl rfl ?_
      refine j_iload_n X (i := 1) dX10_wrong_38 rfl rfl ?_
      refine j_bipush X (v := (nI 19)) dX10_wrong_39 (by decide) ?_
      refine j_iload_n X (i := 3) dX10_wrong_41 rfl rfl ?_
      refine j_iadd X dX10_wrong_42 ?_
      rw [show t (M + 1) (51 + 27 * k + (7 + w)) = _ from wA w 1 hw (by decide), nI_add]
      refine j_callV X (m_on hok hst (k := k) (w := 19 + w) hM (by omega)) i_X10_on tw_7_45 tw_7_47 tp_41 M0 rfl dX10_wrong_43 ?_ 
      rw [show t (M + 1) (51 + 27 * k + (19 + w)) = _ from wB w 1 hw (by decide)]
      refine j_ixor X dX10_wrong_46 ?_
      rw [nx_xor, r32_xor]
      refine j_ior X dX10_wrong_47 ?_
      rw [fa_or, r32_or]
      refine j_aload_n X (i := 0) dX10_wrong_48 rfl rfl ?_
      refine j_iload_n X (i := 1) dX10_wrong_49 rfl rfl ?_
      refine j_bipush X (v := (nI 11)) dX10_wrong_50 (by decide) ?_
      refine j_iload_n X (i := 3) dX10_wrong_52 rfl rfl ?_
      refine j_iadd X dX10_wrong_53 ?_
      rw [nI_add]
      refine j_callV X (m_on hok hst (k := k) (w := 11 + w) hM (by omega)) i_X10_on tw_7_45 tw_7_47 tp_41 M0 rfl dX10_wrong_54 ?_ 
      refine j_aload_n X (i := 0) dX10_wrong_57 rfl rfl ?_
      refine j_iload_n X (i := 1) dX10_wrong_58 rfl rfl ?_
      refine j_bipush X (v := (nI 23)) dX10_wrong_59 (by decide) ?_
      refine j_iload_n X (i := 3) dX10_wrong_61 rfl rfl ?_
      refine j_iadd X dX10_wrong_62 ?_
      rw [show t (M + 1) (51 + 27 * k + (11 + w)) = _ from wA w 2 hw (by decide), nI_add]
      refine j_callV X (m_on hok hst (k := k) (w := 23 + w) hM (by omega)) i_X10_on tw_7_45 tw_7_47 tp_41 M0 rfl dX10_wrong_63 ?_ 
      rw [show t (M + 1) (51 + 27 * k + (23 + w)) = _ from wB w 2 hw (by decide)]
      refine j_ixor X dX10_wrong_66 ?_
      rw [nx_xor, r32_xor]
      refine j_ior X dX10_wrong_67 ?_
      rw [fa_or, r32_or]
      refine j_callS X (m_bits hok hst _) i_X10_bits tw_6_172 tw_6_173 dX10_wrong_68 ?_ 
      have e5 : fb_ct (fun x => ((v.2.1 0 (32 * w + x) ^^ v.2.2 0 (32 * w + x)) || (v.2.1 1 (32 * w + x) ^^ v.2.2 1 (32 * w + x))) || (v.2.1 2 (32 * w + x) ^^ v.2.2 2 (32 * w + x))) 32 = fb_ct (fun j => misK v.2.1 v.2.2 (32 * w + j)) 32 := fb_ct_cong fun j _ => by
        unfold misK
        rw [Bool.or_assoc]
      rw [e5]
      refine j_iadd X dX10_wrong_71 ?_
      rw [nI_add, ← fb_ct_split, show 32 * w + 32 = 32 * (w + 1) by omega]
      refine j_istore_n X (i := 2) dX10_wrong_72 rfl (by decide) rfl ?_
      refine j_iinc X (i := 3) (v := (nI (w + 1))) dX10_wrong_73 rfl (nI_1 w) (by decide) rfl ?_
      refine j_goto X (tgt := 4) dX10_wrong_76 (by decide) ?_
      exact ih
  refine j_iconst X (v := (nI 0)) dX10_wrong_0 (by decide) ?_
  refine j_istore_n X (i := 2) dX10_wrong_1 rfl (by decide) rfl ?_
  refine j_iconst X (v := (nI 0)) dX10_wrong_2 (by decide) ?_
  refine j_istore_n X (i := 3) dX10_wrong_3 rfl (by decide) rfl ?_
  exact key 0 (Nat.zero_le _)

theorem m_smear {l : Launch} {g : jG} (hok : jOk g) (hst : l.stackTraces = false) {z : Option Nat} {sk : jS} {t : jT} {M : Nat} (hM : isMod g sk M) {k : Nat} (hk : k < 8) {v : TV} (hS : RmS (t (M + 1)) (51 + 27 * k) v) : jMet l g mX10_smear 2 0 0 [.ref (jb g + M), .int (nI k)] z sk t (fun v2 z2 sk2 t2 => v2 = none ∧ z = z2 ∧ sk = sk2 ∧ RmS (t2 (M + 1)) (51 + 27 * k) (smV v) ∧ (∀ j, (j < 51 + 27 * k ∨ 51 + 27 * k + 27 ≤ j) → t2 (M + 1) j = t (M + 1) j) ∧ ∀ c, c ≠ M + 1 → t2 c = t c) := by
  refine j_body (lv := [some (.ref (jb g + M)), some (.int (nI k)), none]) i_X10_smear hok hst (fun p e s m args below meth c X => ?_)
  obtain ⟨M0, M1, M2, M3, M4, M5, M6, M7⟩ := id hM
  obtain ⟨s1, s2, s3, s4, s5⟩ := id hS
  refine j_aload_n X (i := 0) dX10_smear_0 rfl rfl ?_
  refine j_iload_n X (i := 1) dX10_smear_1 rfl rfl ?_
  refine j_iconst X (v := (nI 1)) dX10_smear_2 (by decide) ?_
  refine j_aload_n X (i := 0) dX10_smear_3 rfl rfl ?_
  refine j_iload_n X (i := 1) dX10_smear_4 rfl rfl ?_
  refine j_iconst X (v := (nI 1)) dX10_smear_5 (by decide) ?_
  refine j_callV X (m_on hok hst (k := k) (w := 1) hM (by omega)) i_X10_on tw_7_45 tw_7_47 tp_41 M0 rfl dX10_smear_6 ?_ 
  rw [show t (M + 1) (51 + 27 * k + 1) = _ from s2]
  refine j_iconst X (v := (nI 1)) dX10_smear_9 (by decide) ?_
  refine j_iadd X dX10_smear_10 ?_
  rw [nI_add]
  refine j_callV X (m_lays hok hst (k := k) (w := 1) hM (by omega) _) i_X10_lays tw_7_33 tw_7_35 tp_39 M0 rfl dX10_smear_11 ?_ 
  obtain ⟨t0, ht0⟩ : ∃ t0, t0 = jU t (M + 1) (51 + 27 * k + 1) (nI (v.1.2.1 + 1)) := ⟨_, rfl⟩
  have o0 : ∀ c, c ≠ M + 1 → t0 c = t c := fun c hc => by rw [ht0]; exact jU_ne _ _ _ hc
  have e0 : t0 (M + 1) = upd (t (M + 1)) (51 + 27 * k + 1) (nI (v.1.2.1 + 1)) := by rw [ht0, jU_eq]
  have n0 : ∀ j, j ≠ 51 + 27 * k + 1 → t0 (M + 1) j = t (M + 1) j := fun j hj => by rw [e0]; exact if_neg hj
  rw [← ht0]
  clear ht0
  have key : ∀ i, i ≤ 12 → J p l e (jR 2 0 0) s m args below meth c (jQm below args s g 0 0 (fun v2 z2 sk2 t2 => v2 = none ∧ z = z2 ∧ sk = sk2 ∧ RmS (t2 (M + 1)) (51 + 27 * k) (smV v) ∧ (∀ j, (j < 51 + 27 * k ∨ 51 + 27 * k + 27 ≤ j) → t2 (M + 1) j = t (M + 1) j) ∧ ∀ c, c ≠ M + 1 → t2 c = t c)) 3 g (0 + 0 + 0) (0 + 0 + 0) z sk  (jUf t0 (M + 1) (fun q => if 51 + 27 * k + 3 ≤ q ∧ q < 51 + 27 * k + 3 + i then nI (r32 (fun j => smrP v.2.1 ((q - (51 + 27 * k + 3)) / 4) (32 * ((q - (51 + 27 * k + 3)) % 4) + j))) else t0 (M + 1) q)) 16 [some (.ref (jb g + M)), some (.int (nI k)), some (.int (nI (3 + i)))] [] := by
    refine up_loop ?_ ?_
    · refine j_iload_n X (i := 2) dX10_smear_16 rfl rfl ?_
      refine j_bipush X (v := (nI 15)) dX10_smear_17 (by decide) ?_
      refine j_icmp_ge X (tgt := 52) dX10_smear_19 (by decide) (fun _ => ?_) (fun q9 => absurd (nI_le (Nat.le_refl _) (by decide)) q9)
      refine j_vret X dX10_smear_52 rfl ⟨rfl, rfl, rfl, ?_, ?_, ?_⟩
      · rw [jUf_eq]
        refine ⟨?_, ?_, ?_, fun j hj w hw => ?_, fun j hj w hw => ?_⟩
        · show (if _ then _ else _) = _
          rw [if_neg (by omega), n0 _ (by omega)]; exact s1
        · show (if _ then _ else _) = _
          rw [if_neg (by omega), e0]; exact if_pos rfl
        · show (if _ then _ else _) = _
          rw [if_neg (by omega), n0 _ (by omega)]; exact s3
        · show (if _ then _ else _) = _
          rw [if_pos (by omega), show (51 + 27 * k + 3 + 4 * j + w - (51 + 27 * k + 3)) / 4 = j by omega, show (51 + 27 * k + 3 + 4 * j + w - (51 + 27 * k + 3)) % 4 = w by omega]
          rfl
        · show (if _ then _ else _) = _
          rw [if_neg (by omega), n0 _ (by omega)]; exact s5 j hj w hw
      · intro j hj
        rw [jUf_eq]
        show (if _ then _ else _) = _
        rw [if_neg (by omega)]
        exact n0 _ (by omega)
      · intro c hc
        rw [jUf_ne _ _ hc]
        exact o0 c hc
    · intro i hi ih
      obtain ⟨F, hF⟩ : ∃ F : Nat → Int32, F = (fun q => if 51 + 27 * k + 3 ≤ q ∧ q < 51 + 27 * k + 3 + i then nI (r32 (fun j => smrP v.2.1 ((q - (51 + 27 * k + 3)) / 4) (32 * ((q - (51 + 27 * k + 3)) % 4) + j))) else t0 (M + 1) q) := ⟨_, rfl⟩
      rw [← hF]
      have eF : F (51 + 27 * k + (3 + i)) = nI (r32 (fun j => v.2.1 (i / 4) (32 * (i % 4) + j))) := by
        rw [hF]
        show (if _ then _ else _) = _
        rw [if_neg (by omega), n0 _ (by omega)]
        exact hS.w hi
      refine j_iload_n X (i := 2) dX10_smear_16 rfl rfl ?_
      refine j_bipush X (v := (nI 15)) dX10_smear_17 (by decide) ?_
      refine j_icmp_ge X (tgt := 52) dX10_smear_19 (by decide) (fun q9 => absurd q9 (nI_ge (show 3 + i < 15 by omega) (by decide))) (fun _ => ?_)
      refine j_aload_n X (i := 0) dX10_smear_22 rfl rfl ?_
      refine j_iload_n X (i := 1) dX10_smear_23 rfl rfl ?_
      refine j_iload_n X (i := 2) dX10_smear_24 rfl rfl ?_
      refine j_aload_n X (i := 0) dX10_smear_25 rfl rfl ?_
      refine j_iload_n X (i := 1) dX10_smear_26 rfl rfl ?_
      refine j_iload_n X (i := 2) dX10_smear_27 rfl rfl ?_
      refine j_callV X (m_on hok hst (k := k) (w := 3 + i) hM (by omega)) i_X10_on tw_7_45 tw_7_47 tp_41 M0 rfl dX10_smear_28 ?_ 
      rw [jUf_eq, eF]
      refine j_aload_n X (i := 0) dX10_smear_31 rfl rfl ?_
      refine j_iload_n X (i := 1) dX10_smear_32 rfl rfl ?_
      refine j_iload_n X (i := 2) dX10_smear_33 rfl rfl ?_
      refine j_callV X (m_on hok hst (k := k) (w := 3 + i) hM (by omega)) i_X10_on tw_7_45 tw_7_47 tp_41 M0 rfl dX10_smear_34 ?_ 
      rw [jUf_eq, eF]
      refine j_iconst X (v := (nI 1)) dX10_smear_37 (by decide) ?_
      refine j_ishl X dX10_smear_38 ?_
      refine j_ldc X dX10_smear_39 tw_7_57 ?_
      refine j_iand X dX10_smear_41 ?_
      refine j_ior X dX10_smear_42 ?_
      rw [smW]
      refine j_callV X (m_lays hok hst (k := k) (w := 3 + i) hM (by omega) _) i_X10_lays tw_7_33 tw_7_35 tp_39 M0 rfl dX10_smear_43 ?_ 
      refine j_iinc X (i := 2) (v := (nI (3 + (i + 1)))) dX10_smear_46 rfl (nI_1 (3 + i)) (by decide) rfl ?_
      refine j_goto X (tgt := 16) dX10_smear_49 (by decide) ?_
      have e : jU (jUf t0 (M + 1) F) (M + 1) (51 + 27 * k + (3 + i)) (nI (r32 (fun j => v.2.1 (i / 4) (32 * (i % 4) + j) || (decide (1 ≤ j % 16) && v.2.1 (i / 4) (32 * (i % 4) + (j - 1)))))) = jUf t0 (M + 1) (fun q => if 51 + 27 * k + 3 ≤ q ∧ q < 51 + 27 * k + 3 + (i + 1) then nI (r32 (fun j => smrP v.2.1 ((q - (51 + 27 * k + 3)) / 4) (32 * ((q - (51 + 27 * k + 3)) % 4) + j))) else t0 (M + 1) q) := by
        rw [jU_row, jUf_jUf, jUf_eq]
        congr 1
        funext q
        unfold upd
        by_cases hq : q = 51 + 27 * k + (3 + i)
        · rw [if_pos hq, if_pos (by omega), show (q - (51 + 27 * k + 3)) = i by omega]
          refine congrArg nI (r32_cong fun j hj => ?_)
          unfold smrP
          rw [show (32 * (i % 4) + j) % 16 = j % 16 by omega]
          by_cases h1 : 1 ≤ j % 16
          · rw [show 32 * (i % 4) + (j - 1) = 32 * (i % 4) + j - 1 by omega]
          · rw [decide_eq_false h1]; rfl
        · rw [if_neg hq, hF]
          show (if _ then _ else _) = _
          by_cases h2 : 51 + 27 * k + 3 ≤ q ∧ q < 51 + 27 * k + 3 + i
          · rw [if_pos h2, if_pos (by omega)]
          · rw [if_neg h2, if_neg (by omega)]
      rw [e]
      exact ih
  refine j_iconst X (v := (nI 3)) dX10_smear_14 (by decide) ?_
  refine j_istore_n X (i := 2) dX10_smear_15 rfl (by decide) rfl ?_
  have k0 := key 0 (Nat.zero_le _)
  rw [show (fun q => if 51 + 27 * k + 3 ≤ q ∧ q < 51 + 27 * k + 3 + 0 then nI (r32 (fun j => smrP v.2.1 ((q - (51 + 27 * k + 3)) / 4) (32 * ((q - (51 + 27 * k + 3)) % 4) + j))) else t0 (M + 1) q) = t0 (M + 1) from funext fun q => if_neg (by omega), jUf_self] at k0
  exact k0

