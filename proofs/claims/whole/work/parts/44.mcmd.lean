/-- a command in the orders -/
def oA (f : Nat → Int32) (o : Nat) (x : Nat × A3) : Prop := f o = nI x.1 ∧ (x.1 ≠ 3 → f (o + 1) = iN x.2.1) ∧ ((x.1 = 1 ∨ x.1 = 2 ∨ x.1 = 4) → f (o + 2) = iN x.2.2.1) ∧ ((x.1 = 1 ∨ x.1 = 2) → f (o + 3) = iN x.2.2.2)
def cP (M : Nat) (T : TXV) (om : Nat) (u : CM) (z : Option Nat) (sk : jS) (t : jT) : Option Value → Option Nat → jS → jT → Prop := rP M T u.1 (fun f => (∀ j, (j < 4 * om ∨ 4 * om + 4 ≤ j) → f j = t (M + 7) j) ∧ (u.1.1 = true → oA f (4 * om) u.2)) z sk t
theorem cP_mk {M : Nat} {T : TXV} {om : Nat} {u : CM} {z : Option Nat} {sk : jS} {t t2 : jT} {b : Bool} {q : Nat} (hu : u.1 = (b, q)) (hx : RX t2 M T q) (e : ∀ k, k ≠ 18 → t2 M k = t M k) (f : ∀ c, c ≠ M → c ≠ M + 7 → t2 c = t c) (h : ∀ j, (j < 4 * om ∨ 4 * om + 4 ≤ j) → t2 (M + 7) j = t (M + 7) j) (o : b = true → oA (t2 (M + 7)) (4 * om) u.2) : cP M T om u z sk t (some (.int (nI b.toNat))) z sk t2 := by
  obtain ⟨u1, u2⟩ := u
  have hu : u1 = (b, q) := hu
  subst hu
  exact ⟨rfl, rfl, rfl, hx, e, f, h, o⟩
def cfl (p : Nat) : CM := ((false, p), (0, (0, 0, 0)))
def wcR (T : TXV) (k q : Nat) (w : List Nat) : CM := if lcp T w q = w.length then ((agR T k (true, q + w.length)).1, (k, (agR T k (true, q + w.length)).2)) else cfl (q + lcp T w q)
/-- behind an s -/
def csR (T : TXV) (p : Nat) : CM := if chT T p = 116 then wcR T 1 (p + 1) ([97, 114] ++ [32]) else if chT T p = 104 then (if chT T (p + 1) = 105 then wcR T 2 (p + 2) ([102, 116] ++ [32]) else wcR T 3 (p + 1) [101, 101, 116]) else cfl p
/-- a command, character by character -/
def cmT (T : TXV) (p : Nat) : CM := if chT T p = 115 then csR T (p + 1) else if chT T p = 114 then wcR T 5 (p + 1) ([97, 99, 107] ++ [32]) else if chT T p = 111 then wcR T 6 (p + 1) ([117, 116] ++ [32]) else if chT T p = 104 then wcR T 7 (p + 1) ([111, 117, 114] ++ [32]) else if chT T p = 112 then (if chT T (p + 1) = 114 then wcR T 4 (p + 2) ([105, 110, 116] ++ [32]) else wcR T 0 (p + 1) [108, 97, 116, 101, 32]) else cfl p
def cmO (T : TXV) (p : Nat) (r : Option Nat × Nat) : CM := match r.1 with
  | none => ((false, p + r.2), (0, (0, 0, 0)))
  | some k => ((agR T k (true, p + r.2)).1, (k, (agR T k (true, p + r.2)).2))
theorem cmO_wd (T : TXV) (p k n : Nat) (w : List Nat) : cmO T p (wdR T p k n w) = wcR T k (p + n) w := by
  unfold wdR wcR
  by_cases h : lcp T w (p + n) = w.length
  · rw [if_pos h, if_pos h]
    show ((agR T k (true, p + (n + w.length))).1, (k, (agR T k (true, p + (n + w.length))).2)) = _
    rw [Nat.add_assoc]
  · rw [if_neg h, if_neg h]
    show ((false, p + (n + lcp T w (p + n))), (0, (0, 0, 0))) = cfl (p + n + lcp T w (p + n))
    rw [Nat.add_assoc]
    rfl
theorem cmR_T (T : TXV) (p : Nat) : cmR T p = cmT T p := by
  rw [show cmR T p = cmO T p (kwR T p) from rfl, kw_tr]
  unfold trR cmT csR
  by_cases c1 : chT T p = 115
  · rw [if_pos c1, if_pos c1]
    by_cases d1 : chT T (p + 1) = 116
    · rw [if_pos d1, if_pos d1, cmO_wd]; rfl
    · rw [if_neg d1, if_neg d1]
      by_cases d2 : chT T (p + 1) = 104
      · rw [if_pos d2, if_pos d2]
        by_cases e1 : chT T (p + 2) = 105
        · rw [if_pos e1, if_pos (show chT T (p + 1 + 1) = 105 from e1), cmO_wd]; rfl
        · rw [if_neg e1, if_neg (show ¬ chT T (p + 1 + 1) = 105 from e1), cmO_wd]
      · rw [if_neg d2, if_neg d2]; rfl
  · rw [if_neg c1, if_neg c1]
    by_cases c2 : chT T p = 114
    · rw [if_pos c2, if_pos c2, cmO_wd]; rfl
    · rw [if_neg c2, if_neg c2]
      by_cases c3 : chT T p = 111
      · rw [if_pos c3, if_pos c3, cmO_wd]; rfl
      · rw [if_neg c3, if_neg c3]
        by_cases c4 : chT T p = 104
        · rw [if_pos c4, if_pos c4, cmO_wd]; rfl
        · rw [if_neg c4, if_neg c4]
          by_cases c5 : chT T p = 112
          · rw [if_pos c5, if_pos c5]
            by_cases d1 : chT T (p + 1) = 114
            · rw [if_pos d1, if_pos d1, cmO_wd]; rfl
            · rw [if_neg d1, if_neg d1, cmO_wd]
          · rw [if_neg c5, if_neg c5]; rfl
theorem ag1_1 {T : TXV} {s : RS} {q : Nat} {v : Int} (h : dgR T s = ((false, q), v)) : (agR T 1 s).1 = (false, q) := by simp only [agR, h, sgR_f, dgR_f, nbR_f]
theorem ag1_2 {T : TXV} {s : RS} {q r : Nat} {v w : Int} (h : dgR T s = ((true, q), v)) (h2 : nbR T (sgR T 32 (true, q)) = ((false, r), w)) : (agR T 1 s).1 = (false, r) := by simp only [agR, h, h2, sgR_f, dgR_f, nbR_f]
theorem ag1_3 {T : TXV} {s u : RS} {q r : Nat} {v w x : Int} (h : dgR T s = ((true, q), v)) (h2 : nbR T (sgR T 32 (true, q)) = ((true, r), w)) (h3 : dgR T (sgR T 44 (true, r)) = (u, x)) : agR T 1 s = (u, (v, w, x)) := by simp only [agR, h, h2, h3]
theorem ag2_1 {T : TXV} {s : RS} {q : Nat} {v : Int} (h : dgR T s = ((false, q), v)) : (agR T 2 s).1 = (false, q) := by simp only [agR, h, sdR_f]
theorem ag2_2 {T : TXV} {s : RS} {q r : Nat} {v w : Int} (h : dgR T s = ((true, q), v)) (h2 : sdR T (true, q) = ((false, r), w)) : (agR T 2 s).1 = (false, r) := by simp only [agR, h, h2, sdR_f]
theorem ag2_3 {T : TXV} {s u : RS} {q r : Nat} {v w x : Int} (h : dgR T s = ((true, q), v)) (h2 : sdR T (true, q) = ((true, r), w)) (h3 : sdR T (true, r) = (u, x)) : agR T 2 s = (u, (v, w, x)) := by simp only [agR, h, h2, h3]
theorem ag4_1 {T : TXV} {s : RS} {q : Nat} {v : Int} (h : dgR T s = ((false, q), v)) : (agR T 4 s).1 = (false, q) := by simp only [agR, h, sgR_f, dgR_f]
theorem ag4_2 {T : TXV} {s u : RS} {q : Nat} {v x : Int} (h : dgR T s = ((true, q), v)) (h2 : dgR T (sgR T 62 (true, q)) = (u, x)) : agR T 4 s = (u, (v, x, 0)) := by simp only [agR, h, h2]
theorem ag5_1 {T : TXV} {s u : RS} {v : Int} (h : dgR T s = (u, v)) : agR T 5 s = (u, (v, 0, 0)) := by simp only [agR, h]
theorem ag6_1 {T : TXV} {s u : RS} {v : Int} (h : dgR T s = (u, v)) : agR T 6 s = (u, (v, 0, 0)) := by simp only [agR, h]
theorem ag7_1 {T : TXV} {s u : RS} {v : Int} (h : nbR T s = (u, v)) : agR T 7 s = (u, (v, 0, 0)) := by simp only [agR, h]
theorem ikR_f (T : TXV) (q : Nat) : ikR T (false, q) = ((false, q), 4) := (if_neg fun x => absurd (show false = true from x.1) (by decide)).trans ((if_neg fun x => absurd (show false = true from x.1) (by decide)).trans (if_neg fun x => absurd (show false = true from x.1) (by decide)))
theorem ag_f {T : TXV} {k q : Nat} (hk : k ≠ 3) : (agR T k (false, q)).1 = (false, q) := by
  match k with
  | 0 => exact congrArg Prod.fst (ikR_f T q)
  | 1 => exact ag1_1 (dgR_f T q)
  | 2 => exact ag2_1 (dgR_f T q)
  | 3 => exact absurd rfl hk
  | 4 => exact ag4_1 (dgR_f T q)
  | 5 => rw [ag5_1 (dgR_f T q)]
  | 6 => rw [ag6_1 (dgR_f T q)]
  | k + 7 =>
    show (nbR T (false, q)).1 = _
    rw [nbR_f]
theorem wc_y {T : TXV} {k q : Nat} {w : List Nat} (hk : k ≠ 3) (h : lcp T w q = w.length) : (wcR T k q (w ++ [32])).1 = (agR T k (sgR T 32 (true, q + w.length))).1 ∧ ((wcR T k q (w ++ [32])).1.1 = true → (wcR T k q (w ++ [32])).2 = (k, (agR T k (sgR T 32 (true, q + w.length))).2)) := by
  have hl : (w ++ [32]).length = w.length + 1 := by rw [List.length_append]; rfl
  have h2 := lcp_snoc T 32 w q
  rw [if_pos h] at h2
  unfold wcR
  rw [hl]
  by_cases c : chT T (q + w.length) = 32
  · rw [if_pos (show chT T (q + w.length) = ((32 : Nat) : Int) from c)] at h2
    rw [if_pos h2, sgR_y c]
    exact ⟨rfl, fun _ => rfl⟩
  · rw [if_neg (show ¬ chT T (q + w.length) = ((32 : Nat) : Int) from c)] at h2
    rw [if_neg (show ¬ lcp T (w ++ [32]) q = w.length + 1 by omega), sgR_n c, ag_f hk, h2]
    exact ⟨rfl, fun x => absurd (show false = true from x) (by decide)⟩
theorem wc_n {T : TXV} {k q : Nat} {w : List Nat} (h : ¬ lcp T w q = w.length) : (wcR T k q (w ++ [32])).1 = (false, q + lcp T w q) := by
  have hl : (w ++ [32]).length = w.length + 1 := by rw [List.length_append]; rfl
  have h2 := lcp_snoc T 32 w q
  have h3 := (lcp_le T w q).1
  rw [if_neg h] at h2
  unfold wcR
  rw [hl, if_neg (by omega), h2]
  rfl
theorem m_withS {l : Launch} {g : jG} (hok : jOk g) (hst : l.stackTraces = false) {z : Option Nat} {sk : jS} {t : jT} {M : Nat} (hM : isMod g sk M) {T : TXV} {p0 : Nat} (hx : RX t M T p0) {om : Nat} (hom : t M 20 = nI om) (ho : om ≤ 20) : jMet l g mX10_withS 6 0 0 [.ref (jb g + M), .int (nI (4 * om + 1))] z sk t (cP M T om (csR T p0) z sk t) := by
  refine j_body (lv := [some (.ref (jb g + M)), some (.int (nI (4 * om + 1)))]) i_X10_withS hok hst (fun p e s m args below meth c X => ?_)
  obtain ⟨M0, M1, M2, M3, M4, M5, M6, M7⟩ := id hM
  have x0 := hx
  have e0 : ∀ k, k ≠ 18 → t M k = t M k := fun _ _ => rfl
  have f0 : ∀ c, c ≠ M → c ≠ M + 7 → t c = t c := fun _ _ _ => rfl
  have g0 : ∀ j, (j < 4 * om ∨ 4 * om + 4 ≤ j) → t (M + 7) j = t (M + 7) j := fun _ _ => rfl
  refine j_aload_n X (i := 0) dX10_withS_0 rfl rfl ?_
  refine j_bipush X (v := (nI 116)) dX10_withS_1 (by decide) ?_
  refine j_callV_p X (m_skips hok hst hM x0 (c0 := 116) (by decide) (ci := 116) rfl) i_X10_skips tw_7_214 tw_7_216 tp_54 M0 rfl dX10_withS_3 (fun v2 z2 sk2 t1 hp => ?_) 
  by_cases c1 : chT T p0 = 116
  · rw [sgR_y c1] at hp
    obtain ⟨rfl, rfl, rfl, x1, e10, f10, o1⟩ := hp
    have e1 : ∀ k, k ≠ 18 → t1 M k = t M k := fun k hk => (e10 k hk).trans (e0 k hk)
    have f1 : ∀ c, c ≠ M → c ≠ M + 7 → t1 c = t c := fun c h1 h2 => (f10 c h1 h2).trans (f0 c h1 h2)
    have g1 : ∀ j, (j < 4 * om ∨ 4 * om + 4 ≤ j) → t1 (M + 7) j = t (M + 7) j := fun j hj => (congrFun o1 j).trans (g0 j hj)
    clear e10 f10 o1
    rw [show csR T p0 = wcR T 1 (p0 + 1) ([97, 114] ++ [32]) from if_pos c1]
    refine j_if_eq X (tgt := 62) dX10_withS_6 (by decide) (fun q9 => absurd q9 ((show ¬ nI (true : Bool).toNat = 0 by decide))) (fun _ => ?_)
    obtain ⟨a9, hr9, hs9⟩ := hok.s205
    refine j_aload_n X (i := 0) dX10_withS_9 rfl rfl ?_
    refine j_iconst X (v := (nI 1)) dX10_withS_10 (by decide) ?_
    refine j_ldcS X hr9 dX10_withS_11 ?_
    refine j_callV_p X (m_word hok hst hM x1 (k0 := 1) hs9 ((e1 20 (by decide)).trans hom) ho) i_X10_isWord tw_7_227 tw_7_229 tp_57 M0 rfl dX10_withS_13 (fun v2 z2 sk2 ta hp => ?_) 
    obtain ⟨rfl, rfl, rfl, xa, ea0, fa0, oa⟩ := hp
    have xa : RX ta M T (p0 + 1 + lcp T [97, 114] (p0 + 1)) := xa
    have ea : ∀ k, k ≠ 18 → ta M k = t M k := fun k hk => (ea0 k hk).trans (e1 k hk)
    have fa : ∀ c, c ≠ M → c ≠ M + 7 → ta c = t c := fun c h1 h2 => (fa0 c h1 h2).trans (f1 c h1 h2)
    have ga : ∀ j, (j < 4 * om ∨ 4 * om + 4 ≤ j) → ta (M + 7) j = t (M + 7) j := fun j hj => by rw [oa]; exact (if_neg (by omega)).trans (g1 j hj)
    have va : ta (M + 7) (4 * om) = nI 1 := by rw [oa]; exact if_pos rfl
    clear ea0 fa0 oa
    by_cases hw : lcp T [97, 114] (p0 + 1) = ([97, 114] : List Nat).length
    · rw [decide_eq_true hw]
      have xa : RX ta M T (p0 + 1 + 2) := by rw [hw] at xa; exact xa
      obtain ⟨hR1, hR2⟩ := wc_y (T := T) (k := 1) (by decide) hw
      rw [show p0 + 1 + ([97, 114] : List Nat).length = p0 + 1 + 2 from rfl] at hR1 hR2
      refine j_if_eq X (tgt := 60) dX10_withS_16 (by decide) (fun q9 => absurd q9 ((show ¬ nI (true : Bool).toNat = 0 by decide))) (fun _ => ?_)
      refine j_aload_n X (i := 0) dX10_withS_19 rfl rfl ?_
      refine j_bipush X (v := (nI 32)) dX10_withS_20 (by decide) ?_
      refine j_iload_n X (i := 1) dX10_withS_22 rfl rfl ?_
      refine j_iconst X (v := (nI 1)) dX10_withS_23 (by decide) ?_
      refine j_callV_p X (m_fig hok hst hM xa (c0 := 32) (by decide) (si := 32) rfl (n := 1) (Or.inl rfl) (o := 4 * om + 1) (by omega)) i_X10_figures tw_7_233 tw_7_235 tp_58 M0 rfl dX10_withS_24 (fun v2 z2 sk2 tb hp => ?_) 
      obtain ⟨rfl, rfl, rfl, xb, eb0, fb0, gb0, vb⟩ := hp
      rw [show fgR T 1 (sgR T 32 (true, p0 + 1 + 2)) = dgR T (sgR T 32 (true, p0 + 1 + 2)) from rfl] at xb vb ⊢
      generalize hub : dgR T (sgR T 32 (true, p0 + 1 + 2)) = u at xb vb ⊢
      obtain ⟨⟨b, qb⟩, wb⟩ := u
      have eb : ∀ k, k ≠ 18 → tb M k = t M k := fun k hk => (eb0 k hk).trans (ea k hk)
      have fb : ∀ c, c ≠ M → c ≠ M + 7 → tb c = t c := fun c h1 h2 => (fb0 c h1 h2).trans (fa c h1 h2)
      have gb : ∀ j, (j < 4 * om ∨ 4 * om + 4 ≤ j) → tb (M + 7) j = t (M + 7) j := fun j hj => (gb0 j (by omega)).trans (ga j hj)
      cases b with
      | false =>
        refine j_if_eq X (tgt := 60) dX10_withS_27 (by decide) (fun _ => ?_) (fun q9 => absurd (rfl) q9)
        refine j_iconst X (v := (nI 0)) dX10_withS_60 (by decide) ?_
        exact j_iret X dX10_withS_61 rfl rfl (cP_mk (b := false) (hR1.trans (ag1_1 hub)) xb eb fb gb (fun z9 => absurd (show false = true from z9) (by decide)))
      | true =>
        refine j_if_eq X (tgt := 60) dX10_withS_27 (by decide) (fun q9 => absurd q9 ((show ¬ nI (true : Bool).toNat = 0 by decide))) (fun _ => ?_)
        refine j_aload_n X (i := 0) dX10_withS_30 rfl rfl ?_
        refine j_bipush X (v := (nI 32)) dX10_withS_31 (by decide) ?_
        refine j_iload_n X (i := 1) dX10_withS_33 rfl rfl ?_
        refine j_iconst X (v := (nI 1)) dX10_withS_34 (by decide) ?_
        refine j_iadd X dX10_withS_35 ?_
        rw [nI_add]
        refine j_iconst X (v := (nI 2)) dX10_withS_36 (by decide) ?_
        refine j_callV_p X (m_fig hok hst hM xb (c0 := 32) (by decide) (si := 32) rfl (n := 2) (Or.inr rfl) (o := 4 * om + 1 + 1) (by omega)) i_X10_figures tw_7_233 tw_7_235 tp_58 M0 rfl dX10_withS_37 (fun v2 z2 sk2 tc hp => ?_) 
        obtain ⟨rfl, rfl, rfl, xc, ec0, fc0, gc0, vc⟩ := hp
        rw [show fgR T 2 (sgR T 32 (true, qb)) = nbR T (sgR T 32 (true, qb)) from rfl] at xc vc ⊢
        generalize huc : nbR T (sgR T 32 (true, qb)) = u at xc vc ⊢
        obtain ⟨⟨b, qc⟩, wc⟩ := u
        have ec : ∀ k, k ≠ 18 → tc M k = t M k := fun k hk => (ec0 k hk).trans (eb k hk)
        have fc : ∀ c, c ≠ M → c ≠ M + 7 → tc c = t c := fun c h1 h2 => (fc0 c h1 h2).trans (fb c h1 h2)
        have gc : ∀ j, (j < 4 * om ∨ 4 * om + 4 ≤ j) → tc (M + 7) j = t (M + 7) j := fun j hj => (gc0 j (by omega)).trans (gb j hj)
        cases b with
        | false =>
          refine j_if_eq X (tgt := 60) dX10_withS_40 (by decide) (fun _ => ?_) (fun q9 => absurd (rfl) q9)
          refine j_iconst X (v := (nI 0)) dX10_withS_60 (by decide) ?_
          exact j_iret X dX10_withS_61 rfl rfl (cP_mk (b := false) (hR1.trans (ag1_2 hub huc)) xc ec fc gc (fun z9 => absurd (show false = true from z9) (by decide)))
        | true =>
          refine j_if_eq X (tgt := 60) dX10_withS_40 (by decide) (fun q9 => absurd q9 ((show ¬ nI (true : Bool).toNat = 0 by decide))) (fun _ => ?_)
          refine j_aload_n X (i := 0) dX10_withS_43 rfl rfl ?_
          refine j_bipush X (v := (nI 44)) dX10_withS_44 (by decide) ?_
          refine j_iload_n X (i := 1) dX10_withS_46 rfl rfl ?_
          refine j_iconst X (v := (nI 2)) dX10_withS_47 (by decide) ?_
          refine j_iadd X dX10_withS_48 ?_
          rw [nI_add]
          refine j_iconst X (v := (nI 1)) dX10_withS_49 (by decide) ?_
          refine j_callV_p X (m_fig hok hst hM xc (c0 := 44) (by decide) (si := 44) rfl (n := 1) (Or.inl rfl) (o := 4 * om + 1 + 2) (by omega)) i_X10_figures tw_7_233 tw_7_235 tp_58 M0 rfl dX10_withS_50 (fun v2 z2 sk2 td hp => ?_) 
          obtain ⟨rfl, rfl, rfl, xd, ed0, fd0, gd0, vd⟩ := hp
          rw [show fgR T 1 (sgR T 44 (true, qc)) = dgR T (sgR T 44 (true, qc)) from rfl] at xd vd ⊢
          generalize hud : dgR T (sgR T 44 (true, qc)) = u at xd vd ⊢
          obtain ⟨⟨b, qd⟩, wd⟩ := u
          have ed : ∀ k, k ≠ 18 → td M k = t M k := fun k hk => (ed0 k hk).trans (ec k hk)
          have fd : ∀ c, c ≠ M → c ≠ M + 7 → td c = t c := fun c h1 h2 => (fd0 c h1 h2).trans (fc c h1 h2)
          have gd : ∀ j, (j < 4 * om ∨ 4 * om + 4 ≤ j) → td (M + 7) j = t (M + 7) j := fun j hj => (gd0 j (by omega)).trans (gc j hj)
          have hag := ag1_3 hub huc hud
          rw [hag] at hR1 hR2
          cases b with
          | false =>
            refine j_if_eq X (tgt := 60) dX10_withS_53 (by decide) (fun _ => ?_) (fun q9 => absurd (rfl) q9)
            refine j_iconst X (v := (nI 0)) dX10_withS_60 (by decide) ?_
            exact j_iret X dX10_withS_61 rfl rfl (cP_mk (b := false) hR1 xd ed fd gd (fun z9 => absurd (show false = true from z9) (by decide)))
          | true =>
            refine j_if_eq X (tgt := 60) dX10_withS_53 (by decide) (fun q9 => absurd q9 ((show ¬ nI (true : Bool).toNat = 0 by decide))) (fun _ => ?_)
            refine j_iconst X (v := (nI 1)) dX10_withS_56 (by decide) ?_
            refine j_goto X (tgt := 61) dX10_withS_57 (by decide) ?_
            exact j_iret X dX10_withS_61 rfl rfl (cP_mk (b := true) hR1 xd ed fd gd (fun _ => by rw [hR2 (by rw [hR1])]; exact ⟨(gd0 _ (by omega)).trans ((gc0 _ (by omega)).trans ((gb0 _ (by omega)).trans (va))), fun _ => (gd0 _ (by omega)).trans ((gc0 _ (by omega)).trans (vb rfl)), fun _ => (gd0 _ (by omega)).trans (vc rfl), fun _ => vd rfl⟩))
    · rw [decide_eq_false hw]
      refine j_if_eq X (tgt := 60) dX10_withS_16 (by decide) (fun _ => ?_) (fun q9 => absurd (rfl) q9)
      refine j_iconst X (v := (nI 0)) dX10_withS_60 (by decide) ?_
      exact j_iret X dX10_withS_61 rfl rfl (cP_mk (b := false) (wc_n hw) xa ea fa ga (fun z9 => absurd (show false = true from z9) (by decide)))
  · rw [sgR_n c1] at hp
    obtain ⟨rfl, rfl, rfl, x1, e10, f10, o1⟩ := hp
    have e1 : ∀ k, k ≠ 18 → t1 M k = t M k := fun k hk => (e10 k hk).trans (e0 k hk)
    have f1 : ∀ c, c ≠ M → c ≠ M + 7 → t1 c = t c := fun c h1 h2 => (f10 c h1 h2).trans (f0 c h1 h2)
    have g1 : ∀ j, (j < 4 * om ∨ 4 * om + 4 ≤ j) → t1 (M + 7) j = t (M + 7) j := fun j hj => (congrFun o1 j).trans (g0 j hj)
    clear e10 f10 o1
    refine j_if_eq X (tgt := 62) dX10_withS_6 (by decide) (fun _ => ?_) (fun q9 => absurd (rfl) q9)
    refine j_aload_n X (i := 0) dX10_withS_62 rfl rfl ?_
    refine j_bipush X (v := (nI 104)) dX10_withS_63 (by decide) ?_
    refine j_callV_p X (m_skips hok hst hM x1 (c0 := 104) (by decide) (ci := 104) rfl) i_X10_skips tw_7_214 tw_7_216 tp_54 M0 rfl dX10_withS_65 (fun v2 z2 sk2 t3 hp => ?_) 
    rw [show (false, p0).2 = p0 from rfl] at hp
    by_cases c2 : chT T p0 = 104
    · rw [sgR_y c2] at hp
      obtain ⟨rfl, rfl, rfl, x3, e30, f30, o3⟩ := hp
      have e3 : ∀ k, k ≠ 18 → t3 M k = t M k := fun k hk => (e30 k hk).trans (e1 k hk)
      have f3 : ∀ c, c ≠ M → c ≠ M + 7 → t3 c = t c := fun c h1 h2 => (f30 c h1 h2).trans (f1 c h1 h2)
      have g3 : ∀ j, (j < 4 * om ∨ 4 * om + 4 ≤ j) → t3 (M + 7) j = t (M + 7) j := fun j hj => (congrFun o3 j).trans (g1 j hj)
      clear e30 f30 o3
      refine j_if_ne X (tgt := 73) dX10_withS_68 (by decide) (fun _ => ?_) (fun q9 => absurd q9 ((show ¬ nI (true : Bool).toNat = 0 by decide)))
      refine j_aload_n X (i := 0) dX10_withS_73 rfl rfl ?_
      refine j_bipush X (v := (nI 105)) dX10_withS_74 (by decide) ?_
      refine j_callV_p X (m_skips hok hst hM x3 (c0 := 105) (by decide) (ci := 105) rfl) i_X10_skips tw_7_214 tw_7_216 tp_54 M0 rfl dX10_withS_76 (fun v2 z2 sk2 t4 hp => ?_) 
      rw [show (true, p0 + 1).2 = p0 + 1 from rfl] at hp
      by_cases c3 : chT T (p0 + 1) = 105
      · rw [sgR_y c3] at hp
        obtain ⟨rfl, rfl, rfl, x4, e40, f40, o4⟩ := hp
        have e4 : ∀ k, k ≠ 18 → t4 M k = t M k := fun k hk => (e40 k hk).trans (e3 k hk)
        have f4 : ∀ c, c ≠ M → c ≠ M + 7 → t4 c = t c := fun c h1 h2 => (f40 c h1 h2).trans (f3 c h1 h2)
        have g4 : ∀ j, (j < 4 * om ∨ 4 * om + 4 ≤ j) → t4 (M + 7) j = t (M + 7) j := fun j hj => (congrFun o4 j).trans (g3 j hj)
        clear e40 f40 o4
        rw [show csR T p0 = wcR T 2 (p0 + 2) ([102, 116] ++ [32]) from (if_neg c1).trans ((if_pos c2).trans (if_pos c3))]
        refine j_if_eq X (tgt := 131) dX10_withS_79 (by decide) (fun q9 => absurd q9 ((show ¬ nI (true : Bool).toNat = 0 by decide))) (fun _ => ?_)
        have x4 : RX t4 M T (p0 + 2) := x4
        obtain ⟨a9, hr9, hs9⟩ := hok.s211
        refine j_aload_n X (i := 0) dX10_withS_82 rfl rfl ?_
        refine j_iconst X (v := (nI 2)) dX10_withS_83 (by decide) ?_
        refine j_ldcS X hr9 dX10_withS_84 ?_
        refine j_callV_p X (m_word hok hst hM x4 (k0 := 2) hs9 ((e4 20 (by decide)).trans hom) ho) i_X10_isWord tw_7_227 tw_7_229 tp_57 M0 rfl dX10_withS_86 (fun v2 z2 sk2 ta hp => ?_) 
        obtain ⟨rfl, rfl, rfl, xa, ea0, fa0, oa⟩ := hp
        have xa : RX ta M T (p0 + 2 + lcp T [102, 116] (p0 + 2)) := xa
        have ea : ∀ k, k ≠ 18 → ta M k = t M k := fun k hk => (ea0 k hk).trans (e4 k hk)
        have fa : ∀ c, c ≠ M → c ≠ M + 7 → ta c = t c := fun c h1 h2 => (fa0 c h1 h2).trans (f4 c h1 h2)
        have ga : ∀ j, (j < 4 * om ∨ 4 * om + 4 ≤ j) → ta (M + 7) j = t (M + 7) j := fun j hj => by rw [oa]; exact (if_neg (by omega)).trans (g4 j hj)
        have va : ta (M + 7) (4 * om) = nI 2 := by rw [oa]; exact if_pos rfl
        clear ea0 fa0 oa
        by_cases hw : lcp T [102, 116] (p0 + 2) = ([102, 116] : List Nat).length
        · rw [decide_eq_true hw]
          have xa : RX ta M T (p0 + 2 + 2) := by rw [hw] at xa; exact xa
          obtain ⟨hR1, hR2⟩ := wc_y (T := T) (k := 2) (by decide) hw
          rw [show p0 + 2 + ([102, 116] : List Nat).length = p0 + 2 + 2 from rfl] at hR1 hR2
          refine j_if_eq X (tgt := 127) dX10_withS_89 (by decide) (fun q9 => absurd q9 ((show ¬ nI (true : Bool).toNat = 0 by decide))) (fun _ => ?_)
          refine j_aload_n X (i := 0) dX10_withS_92 rfl rfl ?_
          refine j_bipush X (v := (nI 32)) dX10_withS_93 (by decide) ?_
          refine j_iload_n X (i := 1) dX10_withS_95 rfl rfl ?_
          refine j_iconst X (v := (nI 1)) dX10_withS_96 (by decide) ?_
          refine j_callV_p X (m_fig hok hst hM xa (c0 := 32) (by decide) (si := 32) rfl (n := 1) (Or.inl rfl) (o := 4 * om + 1) (by omega)) i_X10_figures tw_7_233 tw_7_235 tp_58 M0 rfl dX10_withS_97 (fun v2 z2 sk2 tb hp => ?_) 
          obtain ⟨rfl, rfl, rfl, xb, eb0, fb0, gb0, vb⟩ := hp
          rw [show fgR T 1 (sgR T 32 (true, p0 + 2 + 2)) = dgR T (sgR T 32 (true, p0 + 2 + 2)) from rfl] at xb vb ⊢
          generalize hub : dgR T (sgR T 32 (true, p0 + 2 + 2)) = u at xb vb ⊢
          obtain ⟨⟨b, qb⟩, wb⟩ := u
          have eb : ∀ k, k ≠ 18 → tb M k = t M k := fun k hk => (eb0 k hk).trans (ea k hk)
          have fb : ∀ c, c ≠ M → c ≠ M + 7 → tb c = t c := fun c h1 h2 => (fb0 c h1 h2).trans (fa c h1 h2)
          have gb : ∀ j, (j < 4 * om ∨ 4 * om + 4 ≤ j) → tb (M + 7) j = t (M + 7) j := fun j hj => (gb0 j (by omega)).trans (ga j hj)
          cases b with
          | false =>
            refine j_if_eq X (tgt := 127) dX10_withS_100 (by decide) (fun _ => ?_) (fun q9 => absurd (rfl) q9)
            refine j_iconst X (v := (nI 0)) dX10_withS_127 (by decide) ?_
            refine j_goto X (tgt := 138) dX10_withS_128 (by decide) ?_
            exact j_iret X dX10_withS_138 rfl rfl (cP_mk (b := false) (hR1.trans (ag2_1 hub)) xb eb fb gb (fun z9 => absurd (show false = true from z9) (by decide)))
          | true =>
            refine j_if_eq X (tgt := 127) dX10_withS_100 (by decide) (fun q9 => absurd q9 ((show ¬ nI (true : Bool).toNat = 0 by decide))) (fun _ => ?_)
            refine j_aload_n X (i := 0) dX10_withS_103 rfl rfl ?_
            refine j_iload_n X (i := 1) dX10_withS_104 rfl rfl ?_
            refine j_iconst X (v := (nI 1)) dX10_withS_105 (by decide) ?_
            refine j_iadd X dX10_withS_106 ?_
            rw [nI_add]
            refine j_callV_p X (m_signed hok hst hM xb (o := 4 * om + 1 + 1) (by omega)) i_X10_signed tw_7_238 tw_8_0 tp_59 M0 rfl dX10_withS_107 (fun v2 z2 sk2 tc hp => ?_) 
            obtain ⟨rfl, rfl, rfl, xc, ec0, fc0, gc0, vc⟩ := hp
            generalize huc : sdR T (true, qb) = u at xc vc ⊢
            obtain ⟨⟨b, qc⟩, wc⟩ := u
            have ec : ∀ k, k ≠ 18 → tc M k = t M k := fun k hk => (ec0 k hk).trans (eb k hk)
            have fc : ∀ c, c ≠ M → c ≠ M + 7 → tc c = t c := fun c h1 h2 => (fc0 c h1 h2).trans (fb c h1 h2)
            have gc : ∀ j, (j < 4 * om ∨ 4 * om + 4 ≤ j) → tc (M + 7) j = t (M + 7) j := fun j hj => (gc0 j (by omega)).trans (gb j hj)
            cases b with
            | false =>
              refine j_if_eq X (tgt := 127) dX10_withS_110 (by decide) (fun _ => ?_) (fun q9 => absurd (rfl) q9)
              refine j_iconst X (v := (nI 0)) dX10_withS_127 (by decide) ?_
              refine j_goto X (tgt := 138) dX10_withS_128 (by decide) ?_
              exact j_iret X dX10_withS_138 rfl rfl (cP_mk (b := false) (hR1.trans (ag2_2 hub huc)) xc ec fc gc (fun z9 => absurd (show false = true from z9) (by decide)))
            | true =>
              refine j_if_eq X (tgt := 127) dX10_withS_110 (by decide) (fun q9 => absurd q9 ((show ¬ nI (true : Bool).toNat = 0 by decide))) (fun _ => ?_)
              refine j_aload_n X (i := 0) dX10_withS_113 rfl rfl ?_
              refine j_iload_n X (i := 1) dX10_withS_114 rfl rfl ?_
              refine j_iconst X (v := (nI 2)) dX10_withS_115 (by decide) ?_
              refine j_iadd X dX10_withS_116 ?_
              rw [nI_add]
              refine j_callV_p X (m_signed hok hst hM xc (o := 4 * om + 1 + 2) (by omega)) i_X10_signed tw_7_238 tw_8_0 tp_59 M0 rfl dX10_withS_117 (fun v2 z2 sk2 td hp => ?_) 
              obtain ⟨rfl, rfl, rfl, xd, ed0, fd0, gd0, vd⟩ := hp
              generalize hud : sdR T (true, qc) = u at xd vd ⊢
              obtain ⟨⟨b, qd⟩, wd⟩ := u
              have ed : ∀ k, k ≠ 18 → td M k = t M k := fun k hk => (ed0 k hk).trans (ec k hk)
              have fd : ∀ c, c ≠ M → c ≠ M + 7 → td c = t c := fun c h1 h2 => (fd0 c h1 h2).trans (fc c h1 h2)
              have gd : ∀ j, (j < 4 * om ∨ 4 * om + 4 ≤ j) → td (M + 7) j = t (M + 7) j := fun j hj => (gd0 j (by omega)).trans (gc j hj)
              have hag := ag2_3 hub huc hud
              rw [hag] at hR1 hR2
              cases b with
              | false =>
                refine j_if_eq X (tgt := 127) dX10_withS_120 (by decide) (fun _ => ?_) (fun q9 => absurd (rfl) q9)
                refine j_iconst X (v := (nI 0)) dX10_withS_127 (by decide) ?_
                refine j_goto X (tgt := 138) dX10_withS_128 (by decide) ?_
                exact j_iret X dX10_withS_138 rfl rfl (cP_mk (b := false) hR1 xd ed fd gd (fun z9 => absurd (show false = true from z9) (by decide)))
              | true =>
                refine j_if_eq X (tgt := 127) dX10_withS_120 (by decide) (fun q9 => absurd q9 ((show ¬ nI (true : Bool).toNat = 0 by decide))) (fun _ => ?_)
                refine j_iconst X (v := (nI 1)) dX10_withS_123 (by decide) ?_
                refine j_goto X (tgt := 138) dX10_withS_124 (by decide) ?_
                exact j_iret X dX10_withS_138 rfl rfl (cP_mk (b := true) hR1 xd ed fd gd (fun _ => by rw [hR2 (by rw [hR1])]; exact ⟨(gd0 _ (by omega)).trans ((gc0 _ (by omega)).trans ((gb0 _ (by omega)).trans (va))), fun _ => (gd0 _ (by omega)).trans ((gc0 _ (by omega)).trans (vb rfl)), fun _ => (gd0 _ (by omega)).trans (vc rfl), fun _ => vd rfl⟩))
        · rw [decide_eq_false hw]
          refine j_if_eq X (tgt := 127) dX10_withS_89 (by decide) (fun _ => ?_) (fun q9 => absurd (rfl) q9)
          refine j_iconst X (v := (nI 0)) dX10_withS_127 (by decide) ?_
          refine j_goto X (tgt := 138) dX10_withS_128 (by decide) ?_
          exact j_iret X dX10_withS_138 rfl rfl (cP_mk (b := false) (wc_n hw) xa ea fa ga (fun z9 => absurd (show false = true from z9) (by decide)))
      · rw [sgR_n c3] at hp
        obtain ⟨rfl, rfl, rfl, x4, e40, f40, o4⟩ := hp
        have e4 : ∀ k, k ≠ 18 → t4 M k = t M k := fun k hk => (e40 k hk).trans (e3 k hk)
        have f4 : ∀ c, c ≠ M → c ≠ M + 7 → t4 c = t c := fun c h1 h2 => (f40 c h1 h2).trans (f3 c h1 h2)
        have g4 : ∀ j, (j < 4 * om ∨ 4 * om + 4 ≤ j) → t4 (M + 7) j = t (M + 7) j := fun j hj => (congrFun o4 j).trans (g3 j hj)
        clear e40 f40 o4
        rw [show csR T p0 = wcR T 3 (p0 + 1) [101, 101, 116] from (if_neg c1).trans ((if_pos c2).trans (if_neg c3))]
        refine j_if_eq X (tgt := 131) dX10_withS_79 (by decide) (fun _ => ?_) (fun q9 => absurd (rfl) q9)
        have x4 : RX t4 M T (p0 + 1) := x4
        obtain ⟨a9, hr9, hs9⟩ := hok.s216
        refine j_aload_n X (i := 0) dX10_withS_131 rfl rfl ?_
        refine j_iconst X (v := (nI 3)) dX10_withS_132 (by decide) ?_
        refine j_ldcS X hr9 dX10_withS_133 ?_
        refine j_callV_p X (m_word hok hst hM x4 (k0 := 3) hs9 ((e4 20 (by decide)).trans hom) ho) i_X10_isWord tw_7_227 tw_7_229 tp_57 M0 rfl dX10_withS_135 (fun v2 z2 sk2 ta hp => ?_) 
        obtain ⟨rfl, rfl, rfl, xa, ea0, fa0, oa⟩ := hp
        have xa : RX ta M T (p0 + 1 + lcp T [101, 101, 116] (p0 + 1)) := xa
        have ea : ∀ k, k ≠ 18 → ta M k = t M k := fun k hk => (ea0 k hk).trans (e4 k hk)
        have fa : ∀ c, c ≠ M → c ≠ M + 7 → ta c = t c := fun c h1 h2 => (fa0 c h1 h2).trans (f4 c h1 h2)
        have ga : ∀ j, (j < 4 * om ∨ 4 * om + 4 ≤ j) → ta (M + 7) j = t (M + 7) j := fun j hj => by rw [oa]; exact (if_neg (by omega)).trans (g4 j hj)
        have va : ta (M + 7) (4 * om) = nI 3 := by rw [oa]; exact if_pos rfl
        clear ea0 fa0 oa
        by_cases hw : lcp T [101, 101, 116] (p0 + 1) = ([101, 101, 116] : List Nat).length
        · rw [decide_eq_true hw]
          have xa : RX ta M T (p0 + 1 + 3) := by rw [hw] at xa; exact xa
          exact j_iret X dX10_withS_138 rfl (nbB _) (cP_mk (b := true) (by unfold wcR; rw [if_pos hw]; rfl) xa ea fa ga (fun _ => by unfold wcR; rw [if_pos hw]; exact ⟨va, fun z9 => absurd rfl z9, fun z9 => absurd (show (3 : Nat) = 1 ∨ (3 : Nat) = 2 ∨ (3 : Nat) = 4 from z9) (by decide), fun z9 => absurd (show (3 : Nat) = 1 ∨ (3 : Nat) = 2 from z9) (by decide)⟩))
        · rw [decide_eq_false hw]
          exact j_iret X dX10_withS_138 rfl (nbB _) (cP_mk (b := false) (by unfold wcR; rw [if_neg hw]; rfl) xa ea fa ga (fun z9 => absurd (show false = true from z9) (by decide)))
    · rw [sgR_n c2] at hp
      obtain ⟨rfl, rfl, rfl, x3, e30, f30, o3⟩ := hp
      have e3 : ∀ k, k ≠ 18 → t3 M k = t M k := fun k hk => (e30 k hk).trans (e1 k hk)
      have f3 : ∀ c, c ≠ M → c ≠ M + 7 → t3 c = t c := fun c h1 h2 => (f30 c h1 h2).trans (f1 c h1 h2)
      have g3 : ∀ j, (j < 4 * om ∨ 4 * om + 4 ≤ j) → t3 (M + 7) j = t (M + 7) j := fun j hj => (congrFun o3 j).trans (g1 j hj)
      clear e30 f30 o3
      rw [show csR T p0 = cfl p0 from (if_neg c1).trans (if_neg c2)]
      refine j_if_ne X (tgt := 73) dX10_withS_68 (by decide) (fun q9 => absurd (rfl) q9) (fun _ => ?_)
      refine j_iconst X (v := (nI 0)) dX10_withS_71 (by decide) ?_
      exact j_iret X dX10_withS_72 rfl rfl (cP_mk (b := false) rfl x3 e3 f3 g3 (fun z9 => absurd (show false = true from z9) (by decide)))

theorem m_command {l : Launch} {g : jG} (hok : jOk g) (hst : l.stackTraces = false) {z : Option Nat} {sk : jS} {t : jT} {M : Nat} (hM : isMod g sk M) {T : TXV} {p0 : Nat} (hx : RX t M T p0) {om : Nat} (hom : t M 20 = nI om) (ho : om ≤ 20) : jMet l g mX10_commandHere 7 0 0 [.ref (jb g + M)] z sk t (cP M T om (cmT T p0) z sk t) := by
  refine j_body (lv := [some (.ref (jb g + M)), none]) i_X10_commandHere hok hst (fun p e s m args below meth c X => ?_)
  obtain ⟨M0, M1, M2, M3, M4, M5, M6, M7⟩ := id hM
  refine j_iconst X (v := (nI 4)) dX10_commandHere_0 (by decide) ?_
  refine j_aload_n X (i := 0) dX10_commandHere_1 rfl rfl ?_
  refine jFd.get X fd_X10_188 M0 rfl dX10_commandHere_2 ?_
  rw [hom]
  refine j_imul X dX10_commandHere_5 ?_
  rw [pk_mul]
  refine j_iconst X (v := (nI 1)) dX10_commandHere_6 (by decide) ?_
  refine j_iadd X dX10_commandHere_7 ?_
  rw [nI_add]
  refine j_istore_n X (i := 1) dX10_commandHere_8 rfl (by decide) rfl ?_
  have x0 := hx
  have e0 : ∀ k, k ≠ 18 → t M k = t M k := fun _ _ => rfl
  have f0 : ∀ c, c ≠ M → c ≠ M + 7 → t c = t c := fun _ _ _ => rfl
  have g0 : ∀ j, (j < 4 * om ∨ 4 * om + 4 ≤ j) → t (M + 7) j = t (M + 7) j := fun _ _ => rfl
  refine j_aload_n X (i := 0) dX10_commandHere_9 rfl rfl ?_
  refine j_bipush X (v := (nI 115)) dX10_commandHere_10 (by decide) ?_
  refine j_callV_p X (m_skips hok hst hM x0 (c0 := 115) (by decide) (ci := 115) rfl) i_X10_skips tw_7_214 tw_7_216 tp_54 M0 rfl dX10_commandHere_12 (fun v2 z2 sk2 t1 hp => ?_) 
  by_cases c1 : chT T p0 = 115
  · rw [sgR_y c1] at hp
    obtain ⟨rfl, rfl, rfl, x1, e10, f10, o1⟩ := hp
    have e1 : ∀ k, k ≠ 18 → t1 M k = t M k := fun k hk => (e10 k hk).trans (e0 k hk)
    have f1 : ∀ c, c ≠ M → c ≠ M + 7 → t1 c = t c := fun c h1 h2 => (f10 c h1 h2).trans (f0 c h1 h2)
    have g1 : ∀ j, (j < 4 * om ∨ 4 * om + 4 ≤ j) → t1 (M + 7) j = t (M + 7) j := fun j hj => (congrFun o1 j).trans (g0 j hj)
    clear e10 f10 o1
    rw [show cmT T p0 = csR T (p0 + 1) from if_pos c1]
    refine j_if_eq X (tgt := 24) dX10_commandHere_15 (by decide) (fun q9 => absurd q9 ((show ¬ nI (true : Bool).toNat = 0 by decide))) (fun _ => ?_)
    refine j_aload_n X (i := 0) dX10_commandHere_18 rfl rfl ?_
    refine j_iload_n X (i := 1) dX10_commandHere_19 rfl rfl ?_
    refine j_callV_p X (m_withS hok hst hM x1 ((e1 20 (by decide)).trans hom) ho) i_X10_withS tw_7_222 tw_7_224 tp_56 M0 rfl dX10_commandHere_20 (fun v2 z2 sk2 t9 hp => ?_) 
    obtain ⟨rfl, rfl, rfl, x9, e9, f9, g9, o9⟩ := hp
    exact j_iret X dX10_commandHere_23 rfl (nbB _) ⟨rfl, rfl, rfl, x9, fun k hk => (e9 k hk).trans (e1 k hk), fun c h1 h2 => (f9 c h1 h2).trans (f1 c h1 h2), fun j hj => (g9 j hj).trans (g1 j hj), o9⟩
  · rw [sgR_n c1] at hp
    obtain ⟨rfl, rfl, rfl, x1, e10, f10, o1⟩ := hp
    have e1 : ∀ k, k ≠ 18 → t1 M k = t M k := fun k hk => (e10 k hk).trans (e0 k hk)
    have f1 : ∀ c, c ≠ M → c ≠ M + 7 → t1 c = t c := fun c h1 h2 => (f10 c h1 h2).trans (f0 c h1 h2)
    have g1 : ∀ j, (j < 4 * om ∨ 4 * om + 4 ≤ j) → t1 (M + 7) j = t (M + 7) j := fun j hj => (congrFun o1 j).trans (g0 j hj)
    clear e10 f10 o1
    have x1 : RX t1 M T p0 := x1
    refine j_if_eq X (tgt := 24) dX10_commandHere_15 (by decide) (fun _ => ?_) (fun q9 => absurd (rfl) q9)
    refine j_aload_n X (i := 0) dX10_commandHere_24 rfl rfl ?_
    refine j_bipush X (v := (nI 114)) dX10_commandHere_25 (by decide) ?_
    refine j_callV_p X (m_skips hok hst hM x1 (c0 := 114) (by decide) (ci := 114) rfl) i_X10_skips tw_7_214 tw_7_216 tp_54 M0 rfl dX10_commandHere_27 (fun v2 z2 sk2 t2 hp => ?_) 
    by_cases c2 : chT T p0 = 114
    · rw [sgR_y c2] at hp
      obtain ⟨rfl, rfl, rfl, x2, e20, f20, o2⟩ := hp
      have e2 : ∀ k, k ≠ 18 → t2 M k = t M k := fun k hk => (e20 k hk).trans (e1 k hk)
      have f2 : ∀ c, c ≠ M → c ≠ M + 7 → t2 c = t c := fun c h1 h2 => (f20 c h1 h2).trans (f1 c h1 h2)
      have g2 : ∀ j, (j < 4 * om ∨ 4 * om + 4 ≤ j) → t2 (M + 7) j = t (M + 7) j := fun j hj => (congrFun o2 j).trans (g1 j hj)
      clear e20 f20 o2
      rw [show cmT T p0 = wcR T 5 (p0 + 1) ([97, 99, 107] ++ [32]) from ((if_neg c1).trans (if_pos c2))]
      refine j_if_eq X (tgt := 60) dX10_commandHere_30 (by decide) (fun q9 => absurd q9 ((show ¬ nI (true : Bool).toNat = 0 by decide))) (fun _ => ?_)
      have x2 : RX t2 M T (p0 + 1) := x2
      obtain ⟨a9, hr9, hs9⟩ := hok.s221
      refine j_aload_n X (i := 0) dX10_commandHere_33 rfl rfl ?_
      refine j_iconst X (v := (nI 5)) dX10_commandHere_34 (by decide) ?_
      refine j_ldcS X hr9 dX10_commandHere_35 ?_
      refine j_callV_p X (m_word hok hst hM x2 (k0 := 5) hs9 ((e2 20 (by decide)).trans hom) ho) i_X10_isWord tw_7_227 tw_7_229 tp_57 M0 rfl dX10_commandHere_37 (fun v2 z2 sk2 ta hp => ?_) 
      obtain ⟨rfl, rfl, rfl, xa, ea0, fa0, oa⟩ := hp
      have xa : RX ta M T (p0 + 1 + lcp T [97, 99, 107] (p0 + 1)) := xa
      have ea : ∀ k, k ≠ 18 → ta M k = t M k := fun k hk => (ea0 k hk).trans (e2 k hk)
      have fa : ∀ c, c ≠ M → c ≠ M + 7 → ta c = t c := fun c h1 h2 => (fa0 c h1 h2).trans (f2 c h1 h2)
      have ga : ∀ j, (j < 4 * om ∨ 4 * om + 4 ≤ j) → ta (M + 7) j = t (M + 7) j := fun j hj => by rw [oa]; exact (if_neg (by omega)).trans (g2 j hj)
      have va : ta (M + 7) (4 * om) = nI 5 := by rw [oa]; exact if_pos rfl
      clear ea0 fa0 oa
      by_cases hw : lcp T [97, 99, 107] (p0 + 1) = ([97, 99, 107] : List Nat).length
      · rw [decide_eq_true hw]
        have xa : RX ta M T (p0 + 1 + 3) := by rw [hw] at xa; exact xa
        obtain ⟨hR1, hR2⟩ := wc_y (T := T) (k := 5) (by decide) hw
        rw [show p0 + 1 + ([97, 99, 107] : List Nat).length = p0 + 1 + 3 from rfl] at hR1 hR2
        refine j_if_eq X (tgt := 58) dX10_commandHere_40 (by decide) (fun q9 => absurd q9 ((show ¬ nI (true : Bool).toNat = 0 by decide))) (fun _ => ?_)
        refine j_aload_n X (i := 0) dX10_commandHere_43 rfl rfl ?_
        refine j_bipush X (v := (nI 32)) dX10_commandHere_44 (by decide) ?_
        refine j_iload_n X (i := 1) dX10_commandHere_46 rfl rfl ?_
        refine j_iconst X (v := (nI 1)) dX10_commandHere_47 (by decide) ?_
        refine j_callV_p X (m_fig hok hst hM xa (c0 := 32) (by decide) (si := 32) rfl (n := 1) (Or.inl rfl) (o := 4 * om + 1) (by omega)) i_X10_figures tw_7_233 tw_7_235 tp_58 M0 rfl dX10_commandHere_48 (fun v2 z2 sk2 tb hp => ?_) 
        obtain ⟨rfl, rfl, rfl, xb, eb0, fb0, gb0, vb⟩ := hp
        rw [show fgR T 1 (sgR T 32 (true, p0 + 1 + 3)) = dgR T (sgR T 32 (true, p0 + 1 + 3)) from rfl] at xb vb ⊢
        generalize hub : dgR T (sgR T 32 (true, p0 + 1 + 3)) = u at xb vb ⊢
        obtain ⟨⟨b, qb⟩, wb⟩ := u
        have eb : ∀ k, k ≠ 18 → tb M k = t M k := fun k hk => (eb0 k hk).trans (ea k hk)
        have fb : ∀ c, c ≠ M → c ≠ M + 7 → tb c = t c := fun c h1 h2 => (fb0 c h1 h2).trans (fa c h1 h2)
        have gb : ∀ j, (j < 4 * om ∨ 4 * om + 4 ≤ j) → tb (M + 7) j = t (M + 7) j := fun j hj => (gb0 j (by omega)).trans (ga j hj)
        have hag := ag5_1 hub
        rw [hag] at hR1 hR2
        cases b with
        | false =>
          refine j_if_eq X (tgt := 58) dX10_commandHere_51 (by decide) (fun _ => ?_) (fun q9 => absurd (rfl) q9)
          refine j_iconst X (v := (nI 0)) dX10_commandHere_58 (by decide) ?_
          exact j_iret X dX10_commandHere_59 rfl rfl (cP_mk (b := false) hR1 xb eb fb gb (fun z9 => absurd (show false = true from z9) (by decide)))
        | true =>
          refine j_if_eq X (tgt := 58) dX10_commandHere_51 (by decide) (fun q9 => absurd q9 ((show ¬ nI (true : Bool).toNat = 0 by decide))) (fun _ => ?_)
          refine j_iconst X (v := (nI 1)) dX10_commandHere_54 (by decide) ?_
          refine j_goto X (tgt := 59) dX10_commandHere_55 (by decide) ?_
          exact j_iret X dX10_commandHere_59 rfl rfl (cP_mk (b := true) hR1 xb eb fb gb (fun _ => by rw [hR2 (by rw [hR1])]; exact ⟨(gb0 _ (by omega)).trans (va), fun _ => vb rfl, fun z9 => absurd (show (5 : Nat) = 1 ∨ (5 : Nat) = 2 ∨ (5 : Nat) = 4 from z9) (by decide), fun z9 => absurd (show (5 : Nat) = 1 ∨ (5 : Nat) = 2 from z9) (by decide)⟩))
      · rw [decide_eq_false hw]
        refine j_if_eq X (tgt := 58) dX10_commandHere_40 (by decide) (fun _ => ?_) (fun q9 => absurd (rfl) q9)
        refine j_iconst X (v := (nI 0)) dX10_commandHere_58 (by decide) ?_
        exact j_iret X dX10_commandHere_59 rfl rfl (cP_mk (b := false) (wc_n hw) xa ea fa ga (fun z9 => absurd (show false = true from z9) (by decide)))
    · rw [sgR_n c2] at hp
      obtain ⟨rfl, rfl, rfl, x2, e20, f20, o2⟩ := hp
      have e2 : ∀ k, k ≠ 18 → t2 M k = t M k := fun k hk => (e20 k hk).trans (e1 k hk)
      have f2 : ∀ c, c ≠ M → c ≠ M + 7 → t2 c = t c := fun c h1 h2 => (f20 c h1 h2).trans (f1 c h1 h2)
      have g2 : ∀ j, (j < 4 * om ∨ 4 * om + 4 ≤ j) → t2 (M + 7) j = t (M + 7) j := fun j hj => (congrFun o2 j).trans (g1 j hj)
      clear e20 f20 o2
      have x2 : RX t2 M T p0 := x2
      refine j_if_eq X (tgt := 60) dX10_commandHere_30 (by decide) (fun _ => ?_) (fun q9 => absurd (rfl) q9)
      refine j_aload_n X (i := 0) dX10_commandHere_60 rfl rfl ?_
      refine j_bipush X (v := (nI 111)) dX10_commandHere_61 (by decide) ?_
      refine j_callV_p X (m_skips hok hst hM x2 (c0 := 111) (by decide) (ci := 111) rfl) i_X10_skips tw_7_214 tw_7_216 tp_54 M0 rfl dX10_commandHere_63 (fun v2 z2 sk2 t3 hp => ?_) 
      by_cases c3 : chT T p0 = 111
      · rw [sgR_y c3] at hp
        obtain ⟨rfl, rfl, rfl, x3, e30, f30, o3⟩ := hp
        have e3 : ∀ k, k ≠ 18 → t3 M k = t M k := fun k hk => (e30 k hk).trans (e2 k hk)
        have f3 : ∀ c, c ≠ M → c ≠ M + 7 → t3 c = t c := fun c h1 h2 => (f30 c h1 h2).trans (f2 c h1 h2)
        have g3 : ∀ j, (j < 4 * om ∨ 4 * om + 4 ≤ j) → t3 (M + 7) j = t (M + 7) j := fun j hj => (congrFun o3 j).trans (g2 j hj)
        clear e30 f30 o3
        rw [show cmT T p0 = wcR T 6 (p0 + 1) ([117, 116] ++ [32]) from ((if_neg c1).trans ((if_neg c2).trans (if_pos c3)))]
        refine j_if_eq X (tgt := 97) dX10_commandHere_66 (by decide) (fun q9 => absurd q9 ((show ¬ nI (true : Bool).toNat = 0 by decide))) (fun _ => ?_)
        have x3 : RX t3 M T (p0 + 1) := x3
        obtain ⟨a9, hr9, hs9⟩ := hok.s223
        refine j_aload_n X (i := 0) dX10_commandHere_69 rfl rfl ?_
        refine j_bipush X (v := (nI 6)) dX10_commandHere_70 (by decide) ?_
        refine j_ldcS X hr9 dX10_commandHere_72 ?_
        refine j_callV_p X (m_word hok hst hM x3 (k0 := 6) hs9 ((e3 20 (by decide)).trans hom) ho) i_X10_isWord tw_7_227 tw_7_229 tp_57 M0 rfl dX10_commandHere_74 (fun v2 z2 sk2 ta hp => ?_) 
        obtain ⟨rfl, rfl, rfl, xa, ea0, fa0, oa⟩ := hp
        have xa : RX ta M T (p0 + 1 + lcp T [117, 116] (p0 + 1)) := xa
        have ea : ∀ k, k ≠ 18 → ta M k = t M k := fun k hk => (ea0 k hk).trans (e3 k hk)
        have fa : ∀ c, c ≠ M → c ≠ M + 7 → ta c = t c := fun c h1 h2 => (fa0 c h1 h2).trans (f3 c h1 h2)
        have ga : ∀ j, (j < 4 * om ∨ 4 * om + 4 ≤ j) → ta (M + 7) j = t (M + 7) j := fun j hj => by rw [oa]; exact (if_neg (by omega)).trans (g3 j hj)
        have va : ta (M + 7) (4 * om) = nI 6 := by rw [oa]; exact if_pos rfl
        clear ea0 fa0 oa
        by_cases hw : lcp T [117, 116] (p0 + 1) = ([117, 116] : List Nat).length
        · rw [decide_eq_true hw]
          have xa : RX ta M T (p0 + 1 + 2) := by rw [hw] at xa; exact xa
          obtain ⟨hR1, hR2⟩ := wc_y (T := T) (k := 6) (by decide) hw
          rw [show p0 + 1 + ([117, 116] : List Nat).length = p0 + 1 + 2 from rfl] at hR1 hR2
          refine j_if_eq X (tgt := 95) dX10_commandHere_77 (by decide) (fun q9 => absurd q9 ((show ¬ nI (true : Bool).toNat = 0 by decide))) (fun _ => ?_)
          refine j_aload_n X (i := 0) dX10_commandHere_80 rfl rfl ?_
          refine j_bipush X (v := (nI 32)) dX10_commandHere_81 (by decide) ?_
          refine j_iload_n X (i := 1) dX10_commandHere_83 rfl rfl ?_
          refine j_iconst X (v := (nI 1)) dX10_commandHere_84 (by decide) ?_
          refine j_callV_p X (m_fig hok hst hM xa (c0 := 32) (by decide) (si := 32) rfl (n := 1) (Or.inl rfl) (o := 4 * om + 1) (by omega)) i_X10_figures tw_7_233 tw_7_235 tp_58 M0 rfl dX10_commandHere_85 (fun v2 z2 sk2 tb hp => ?_) 
          obtain ⟨rfl, rfl, rfl, xb, eb0, fb0, gb0, vb⟩ := hp
          rw [show fgR T 1 (sgR T 32 (true, p0 + 1 + 2)) = dgR T (sgR T 32 (true, p0 + 1 + 2)) from rfl] at xb vb ⊢
          generalize hub : dgR T (sgR T 32 (true, p0 + 1 + 2)) = u at xb vb ⊢
          obtain ⟨⟨b, qb⟩, wb⟩ := u
          have eb : ∀ k, k ≠ 18 → tb M k = t M k := fun k hk => (eb0 k hk).trans (ea k hk)
          have fb : ∀ c, c ≠ M → c ≠ M + 7 → tb c = t c := fun c h1 h2 => (fb0 c h1 h2).trans (fa c h1 h2)
          have gb : ∀ j, (j < 4 * om ∨ 4 * om + 4 ≤ j) → tb (M + 7) j = t (M + 7) j := fun j hj => (gb0 j (by omega)).trans (ga j hj)
          have hag := ag6_1 hub
          rw [hag] at hR1 hR2
          cases b with
          | false =>
            refine j_if_eq X (tgt := 95) dX10_commandHere_88 (by decide) (fun _ => ?_) (fun q9 => absurd (rfl) q9)
            refine j_iconst X (v := (nI 0)) dX10_commandHere_95 (by decide) ?_
            exact j_iret X dX10_commandHere_96 rfl rfl (cP_mk (b := false) hR1 xb eb fb gb (fun z9 => absurd (show false = true from z9) (by decide)))
          | true =>
            refine j_if_eq X (tgt := 95) dX10_commandHere_88 (by decide) (fun q9 => absurd q9 ((show ¬ nI (true : Bool).toNat = 0 by decide))) (fun _ => ?_)
            refine j_iconst X (v := (nI 1)) dX10_commandHere_91 (by decide) ?_
            refine j_goto X (tgt := 96) dX10_commandHere_92 (by decide) ?_
            exact j_iret X dX10_commandHere_96 rfl rfl (cP_mk (b := true) hR1 xb eb fb gb (fun _ => by rw [hR2 (by rw [hR1])]; exact ⟨(gb0 _ (by omega)).trans (va), fun _ => vb rfl, fun z9 => absurd (show (6 : Nat) = 1 ∨ (6 : Nat) = 2 ∨ (6 : Nat) = 4 from z9) (by decide), fun z9 => absurd (show (6 : Nat) = 1 ∨ (6 : Nat) = 2 from z9) (by decide)⟩))
        · rw [decide_eq_false hw]
          refine j_if_eq X (tgt := 95) dX10_commandHere_77 (by decide) (fun _ => ?_) (fun q9 => absurd (rfl) q9)
          refine j_iconst X (v := (nI 0)) dX10_commandHere_95 (by decide) ?_
          exact j_iret X dX10_commandHere_96 rfl rfl (cP_mk (b := false) (wc_n hw) xa ea fa ga (fun z9 => absurd (show false = true from z9) (by decide)))
      · rw [sgR_n c3] at hp
        obtain ⟨rfl, rfl, rfl, x3, e30, f30, o3⟩ := hp
        have e3 : ∀ k, k ≠ 18 → t3 M k = t M k := fun k hk => (e30 k hk).trans (e2 k hk)
        have f3 : ∀ c, c ≠ M → c ≠ M + 7 → t3 c = t c := fun c h1 h2 => (f30 c h1 h2).trans (f2 c h1 h2)
        have g3 : ∀ j, (j < 4 * om ∨ 4 * om + 4 ≤ j) → t3 (M + 7) j = t (M + 7) j := fun j hj => (congrFun o3 j).trans (g2 j hj)
        clear e30 f30 o3
        have x3 : RX t3 M T p0 := x3
        refine j_if_eq X (tgt := 97) dX10_commandHere_66 (by decide) (fun _ => ?_) (fun q9 => absurd (rfl) q9)
        refine j_aload_n X (i := 0) dX10_commandHere_97 rfl rfl ?_
        refine j_bipush X (v := (nI 104)) dX10_commandHere_98 (by decide) ?_
        refine j_callV_p X (m_skips hok hst hM x3 (c0 := 104) (by decide) (ci := 104) rfl) i_X10_skips tw_7_214 tw_7_216 tp_54 M0 rfl dX10_commandHere_100 (fun v2 z2 sk2 t4 hp => ?_) 
        by_cases c4 : chT T p0 = 104
        · rw [sgR_y c4] at hp
          obtain ⟨rfl, rfl, rfl, x4, e40, f40, o4⟩ := hp
          have e4 : ∀ k, k ≠ 18 → t4 M k = t M k := fun k hk => (e40 k hk).trans (e3 k hk)
          have f4 : ∀ c, c ≠ M → c ≠ M + 7 → t4 c = t c := fun c h1 h2 => (f40 c h1 h2).trans (f3 c h1 h2)
          have g4 : ∀ j, (j < 4 * om ∨ 4 * om + 4 ≤ j) → t4 (M + 7) j = t (M + 7) j := fun j hj => (congrFun o4 j).trans (g3 j hj)
          clear e40 f40 o4
          rw [show cmT T p0 = wcR T 7 (p0 + 1) ([111, 117, 114] ++ [32]) from ((if_neg c1).trans ((if_neg c2).trans ((if_neg c3).trans (if_pos c4))))]
          refine j_if_eq X (tgt := 134) dX10_commandHere_103 (by decide) (fun q9 => absurd q9 ((show ¬ nI (true : Bool).toNat = 0 by decide))) (fun _ => ?_)
          have x4 : RX t4 M T (p0 + 1) := x4
          obtain ⟨a9, hr9, hs9⟩ := hok.s225
          refine j_aload_n X (i := 0) dX10_commandHere_106 rfl rfl ?_
          refine j_bipush X (v := (nI 7)) dX10_commandHere_107 (by decide) ?_
          refine j_ldcS X hr9 dX10_commandHere_109 ?_
          refine j_callV_p X (m_word hok hst hM x4 (k0 := 7) hs9 ((e4 20 (by decide)).trans hom) ho) i_X10_isWord tw_7_227 tw_7_229 tp_57 M0 rfl dX10_commandHere_111 (fun v2 z2 sk2 ta hp => ?_) 
          obtain ⟨rfl, rfl, rfl, xa, ea0, fa0, oa⟩ := hp
          have xa : RX ta M T (p0 + 1 + lcp T [111, 117, 114] (p0 + 1)) := xa
          have ea : ∀ k, k ≠ 18 → ta M k = t M k := fun k hk => (ea0 k hk).trans (e4 k hk)
          have fa : ∀ c, c ≠ M → c ≠ M + 7 → ta c = t c := fun c h1 h2 => (fa0 c h1 h2).trans (f4 c h1 h2)
          have ga : ∀ j, (j < 4 * om ∨ 4 * om + 4 ≤ j) → ta (M + 7) j = t (M + 7) j := fun j hj => by rw [oa]; exact (if_neg (by omega)).trans (g4 j hj)
          have va : ta (M + 7) (4 * om) = nI 7 := by rw [oa]; exact if_pos rfl
          clear ea0 fa0 oa
          by_cases hw : lcp T [111, 117, 114] (p0 + 1) = ([111, 117, 114] : List Nat).length
          · rw [decide_eq_true hw]
            have xa : RX ta M T (p0 + 1 + 3) := by rw [hw] at xa; exact xa
            obtain ⟨hR1, hR2⟩ := wc_y (T := T) (k := 7) (by decide) hw
            rw [show p0 + 1 + ([111, 117, 114] : List Nat).length = p0 + 1 + 3 from rfl] at hR1 hR2
            refine j_if_eq X (tgt := 132) dX10_commandHere_114 (by decide) (fun q9 => absurd q9 ((show ¬ nI (true : Bool).toNat = 0 by decide))) (fun _ => ?_)
            refine j_aload_n X (i := 0) dX10_commandHere_117 rfl rfl ?_
            refine j_bipush X (v := (nI 32)) dX10_commandHere_118 (by decide) ?_
            refine j_iload_n X (i := 1) dX10_commandHere_120 rfl rfl ?_
            refine j_iconst X (v := (nI 2)) dX10_commandHere_121 (by decide) ?_
            refine j_callV_p X (m_fig hok hst hM xa (c0 := 32) (by decide) (si := 32) rfl (n := 2) (Or.inr rfl) (o := 4 * om + 1) (by omega)) i_X10_figures tw_7_233 tw_7_235 tp_58 M0 rfl dX10_commandHere_122 (fun v2 z2 sk2 tb hp => ?_) 
            obtain ⟨rfl, rfl, rfl, xb, eb0, fb0, gb0, vb⟩ := hp
            rw [show fgR T 2 (sgR T 32 (true, p0 + 1 + 3)) = nbR T (sgR T 32 (true, p0 + 1 + 3)) from rfl] at xb vb ⊢
            generalize hub : nbR T (sgR T 32 (true, p0 + 1 + 3)) = u at xb vb ⊢
            obtain ⟨⟨b, qb⟩, wb⟩ := u
            have eb : ∀ k, k ≠ 18 → tb M k = t M k := fun k hk => (eb0 k hk).trans (ea k hk)
            have fb : ∀ c, c ≠ M → c ≠ M + 7 → tb c = t c := fun c h1 h2 => (fb0 c h1 h2).trans (fa c h1 h2)
            have gb : ∀ j, (j < 4 * om ∨ 4 * om + 4 ≤ j) → tb (M + 7) j = t (M + 7) j := fun j hj => (gb0 j (by omega)).trans (ga j hj)
            have hag := ag7_1 hub
            rw [hag] at hR1 hR2
            cases b with
            | false =>
              refine j_if_eq X (tgt := 132) dX10_commandHere_125 (by decide) (fun _ => ?_) (fun q9 => absurd (rfl) q9)
              refine j_iconst X (v := (nI 0)) dX10_commandHere_132 (by decide) ?_
              exact j_iret X dX10_commandHere_133 rfl rfl (cP_mk (b := false) hR1 xb eb fb gb (fun z9 => absurd (show false = true from z9) (by decide)))
            | true =>
              refine j_if_eq X (tgt := 132) dX10_commandHere_125 (by decide) (fun q9 => absurd q9 ((show ¬ nI (true : Bool).toNat = 0 by decide))) (fun _ => ?_)
              refine j_iconst X (v := (nI 1)) dX10_commandHere_128 (by decide) ?_
              refine j_goto X (tgt := 133) dX10_commandHere_129 (by decide) ?_
              exact j_iret X dX10_commandHere_133 rfl rfl (cP_mk (b := true) hR1 xb eb fb gb (fun _ => by rw [hR2 (by rw [hR1])]; exact ⟨(gb0 _ (by omega)).trans (va), fun _ => vb rfl, fun z9 => absurd (show (7 : Nat) = 1 ∨ (7 : Nat) = 2 ∨ (7 : Nat) = 4 from z9) (by decide), fun z9 => absurd (show (7 : Nat) = 1 ∨ (7 : Nat) = 2 from z9) (by decide)⟩))
          · rw [decide_eq_false hw]
            refine j_if_eq X (tgt := 132) dX10_commandHere_114 (by decide) (fun _ => ?_) (fun q9 => absurd (rfl) q9)
            refine j_iconst X (v := (nI 0)) dX10_commandHere_132 (by decide) ?_
            exact j_iret X dX10_commandHere_133 rfl rfl (cP_mk (b := false) (wc_n hw) xa ea fa ga (fun z9 => absurd (show false = true from z9) (by decide)))
        · rw [sgR_n c4] at hp
          obtain ⟨rfl, rfl, rfl, x4, e40, f40, o4⟩ := hp
          have e4 : ∀ k, k ≠ 18 → t4 M k = t M k := fun k hk => (e40 k hk).trans (e3 k hk)
          have f4 : ∀ c, c ≠ M → c ≠ M + 7 → t4 c = t c := fun c h1 h2 => (f40 c h1 h2).trans (f3 c h1 h2)
          have g4 : ∀ j, (j < 4 * om ∨ 4 * om + 4 ≤ j) → t4 (M + 7) j = t (M + 7) j := fun j hj => (congrFun o4 j).trans (g3 j hj)
          clear e40 f40 o4
          have x4 : RX t4 M T p0 := x4
          refine j_if_eq X (tgt := 134) dX10_commandHere_103 (by decide) (fun _ => ?_) (fun q9 => absurd (rfl) q9)
          refine j_aload_n X (i := 0) dX10_commandHere_134 rfl rfl ?_
          refine j_bipush X (v := (nI 112)) dX10_commandHere_135 (by decide) ?_
          refine j_callV_p X (m_skips hok hst hM x4 (c0 := 112) (by decide) (ci := 112) rfl) i_X10_skips tw_7_214 tw_7_216 tp_54 M0 rfl dX10_commandHere_137 (fun v2 z2 sk2 t5 hp => ?_) 
          by_cases c5 : chT T p0 = 112
          · rw [sgR_y c5] at hp
            obtain ⟨rfl, rfl, rfl, x5, e50, f50, o5⟩ := hp
            have e5 : ∀ k, k ≠ 18 → t5 M k = t M k := fun k hk => (e50 k hk).trans (e4 k hk)
            have f5 : ∀ c, c ≠ M → c ≠ M + 7 → t5 c = t c := fun c h1 h2 => (f50 c h1 h2).trans (f4 c h1 h2)
            have g5 : ∀ j, (j < 4 * om ∨ 4 * om + 4 ≤ j) → t5 (M + 7) j = t (M + 7) j := fun j hj => (congrFun o5 j).trans (g4 j hj)
            clear e50 f50 o5
            refine j_if_ne X (tgt := 145) dX10_commandHere_140 (by decide) (fun _ => ?_) (fun q9 => absurd q9 ((show ¬ nI (true : Bool).toNat = 0 by decide)))
            have x5 : RX t5 M T (p0 + 1) := x5
            refine j_aload_n X (i := 0) dX10_commandHere_145 rfl rfl ?_
            refine j_bipush X (v := (nI 114)) dX10_commandHere_146 (by decide) ?_
            refine j_callV_p X (m_skips hok hst hM x5 (c0 := 114) (by decide) (ci := 114) rfl) i_X10_skips tw_7_214 tw_7_216 tp_54 M0 rfl dX10_commandHere_148 (fun v2 z2 sk2 t6 hp => ?_) 
            by_cases c6 : chT T (p0 + 1) = 114
            · rw [sgR_y c6] at hp
              obtain ⟨rfl, rfl, rfl, x6, e60, f60, o6⟩ := hp
              have e6 : ∀ k, k ≠ 18 → t6 M k = t M k := fun k hk => (e60 k hk).trans (e5 k hk)
              have f6 : ∀ c, c ≠ M → c ≠ M + 7 → t6 c = t c := fun c h1 h2 => (f60 c h1 h2).trans (f5 c h1 h2)
              have g6 : ∀ j, (j < 4 * om ∨ 4 * om + 4 ≤ j) → t6 (M + 7) j = t (M + 7) j := fun j hj => (congrFun o6 j).trans (g5 j hj)
              clear e60 f60 o6
              rw [show cmT T p0 = wcR T 4 (p0 + 2) ([105, 110, 116] ++ [32]) from ((if_neg c1).trans ((if_neg c2).trans ((if_neg c3).trans ((if_neg c4).trans ((if_pos c5).trans (if_pos c6))))))]
              refine j_if_eq X (tgt := 196) dX10_commandHere_151 (by decide) (fun q9 => absurd q9 ((show ¬ nI (true : Bool).toNat = 0 by decide))) (fun _ => ?_)
              have x6 : RX t6 M T (p0 + 2) := x6
              obtain ⟨a9, hr9, hs9⟩ := hok.s227
              refine j_aload_n X (i := 0) dX10_commandHere_154 rfl rfl ?_
              refine j_iconst X (v := (nI 4)) dX10_commandHere_155 (by decide) ?_
              refine j_ldcS X hr9 dX10_commandHere_156 ?_
              refine j_callV_p X (m_word hok hst hM x6 (k0 := 4) hs9 ((e6 20 (by decide)).trans hom) ho) i_X10_isWord tw_7_227 tw_7_229 tp_57 M0 rfl dX10_commandHere_158 (fun v2 z2 sk2 ta hp => ?_) 
              obtain ⟨rfl, rfl, rfl, xa, ea0, fa0, oa⟩ := hp
              have xa : RX ta M T (p0 + 2 + lcp T [105, 110, 116] (p0 + 2)) := xa
              have ea : ∀ k, k ≠ 18 → ta M k = t M k := fun k hk => (ea0 k hk).trans (e6 k hk)
              have fa : ∀ c, c ≠ M → c ≠ M + 7 → ta c = t c := fun c h1 h2 => (fa0 c h1 h2).trans (f6 c h1 h2)
              have ga : ∀ j, (j < 4 * om ∨ 4 * om + 4 ≤ j) → ta (M + 7) j = t (M + 7) j := fun j hj => by rw [oa]; exact (if_neg (by omega)).trans (g6 j hj)
              have va : ta (M + 7) (4 * om) = nI 4 := by rw [oa]; exact if_pos rfl
              clear ea0 fa0 oa
              by_cases hw : lcp T [105, 110, 116] (p0 + 2) = ([105, 110, 116] : List Nat).length
              · rw [decide_eq_true hw]
                have xa : RX ta M T (p0 + 2 + 3) := by rw [hw] at xa; exact xa
                obtain ⟨hR1, hR2⟩ := wc_y (T := T) (k := 4) (by decide) hw
                rw [show p0 + 2 + ([105, 110, 116] : List Nat).length = p0 + 2 + 3 from rfl] at hR1 hR2
                refine j_if_eq X (tgt := 192) dX10_commandHere_161 (by decide) (fun q9 => absurd q9 ((show ¬ nI (true : Bool).toNat = 0 by decide))) (fun _ => ?_)
                refine j_aload_n X (i := 0) dX10_commandHere_164 rfl rfl ?_
                refine j_bipush X (v := (nI 32)) dX10_commandHere_165 (by decide) ?_
                refine j_iload_n X (i := 1) dX10_commandHere_167 rfl rfl ?_
                refine j_iconst X (v := (nI 1)) dX10_commandHere_168 (by decide) ?_
                refine j_callV_p X (m_fig hok hst hM xa (c0 := 32) (by decide) (si := 32) rfl (n := 1) (Or.inl rfl) (o := 4 * om + 1) (by omega)) i_X10_figures tw_7_233 tw_7_235 tp_58 M0 rfl dX10_commandHere_169 (fun v2 z2 sk2 tb hp => ?_) 
                obtain ⟨rfl, rfl, rfl, xb, eb0, fb0, gb0, vb⟩ := hp
                rw [show fgR T 1 (sgR T 32 (true, p0 + 2 + 3)) = dgR T (sgR T 32 (true, p0 + 2 + 3)) from rfl] at xb vb ⊢
                generalize hub : dgR T (sgR T 32 (true, p0 + 2 + 3)) = u at xb vb ⊢
                obtain ⟨⟨b, qb⟩, wb⟩ := u
                have eb : ∀ k, k ≠ 18 → tb M k = t M k := fun k hk => (eb0 k hk).trans (ea k hk)
                have fb : ∀ c, c ≠ M → c ≠ M + 7 → tb c = t c := fun c h1 h2 => (fb0 c h1 h2).trans (fa c h1 h2)
                have gb : ∀ j, (j < 4 * om ∨ 4 * om + 4 ≤ j) → tb (M + 7) j = t (M + 7) j := fun j hj => (gb0 j (by omega)).trans (ga j hj)
                cases b with
                | false =>
                  refine j_if_eq X (tgt := 192) dX10_commandHere_172 (by decide) (fun _ => ?_) (fun q9 => absurd (rfl) q9)
                  refine j_iconst X (v := (nI 0)) dX10_commandHere_192 (by decide) ?_
                  refine j_goto X (tgt := 219) dX10_commandHere_193 (by decide) ?_
                  exact j_iret X dX10_commandHere_219 rfl rfl (cP_mk (b := false) (hR1.trans (ag4_1 hub)) xb eb fb gb (fun z9 => absurd (show false = true from z9) (by decide)))
                | true =>
                  refine j_if_eq X (tgt := 192) dX10_commandHere_172 (by decide) (fun q9 => absurd q9 ((show ¬ nI (true : Bool).toNat = 0 by decide))) (fun _ => ?_)
                  refine j_aload_n X (i := 0) dX10_commandHere_175 rfl rfl ?_
                  refine j_bipush X (v := (nI 62)) dX10_commandHere_176 (by decide) ?_
                  refine j_iload_n X (i := 1) dX10_commandHere_178 rfl rfl ?_
                  refine j_iconst X (v := (nI 1)) dX10_commandHere_179 (by decide) ?_
                  refine j_iadd X dX10_commandHere_180 ?_
                  rw [nI_add]
                  refine j_iconst X (v := (nI 1)) dX10_commandHere_181 (by decide) ?_
                  refine j_callV_p X (m_fig hok hst hM xb (c0 := 62) (by decide) (si := 62) rfl (n := 1) (Or.inl rfl) (o := 4 * om + 1 + 1) (by omega)) i_X10_figures tw_7_233 tw_7_235 tp_58 M0 rfl dX10_commandHere_182 (fun v2 z2 sk2 tc hp => ?_) 
                  obtain ⟨rfl, rfl, rfl, xc, ec0, fc0, gc0, vc⟩ := hp
                  rw [show fgR T 1 (sgR T 62 (true, qb)) = dgR T (sgR T 62 (true, qb)) from rfl] at xc vc ⊢
                  generalize huc : dgR T (sgR T 62 (true, qb)) = u at xc vc ⊢
                  obtain ⟨⟨b, qc⟩, wc⟩ := u
                  have ec : ∀ k, k ≠ 18 → tc M k = t M k := fun k hk => (ec0 k hk).trans (eb k hk)
                  have fc : ∀ c, c ≠ M → c ≠ M + 7 → tc c = t c := fun c h1 h2 => (fc0 c h1 h2).trans (fb c h1 h2)
                  have gc : ∀ j, (j < 4 * om ∨ 4 * om + 4 ≤ j) → tc (M + 7) j = t (M + 7) j := fun j hj => (gc0 j (by omega)).trans (gb j hj)
                  have hag := ag4_2 hub huc
                  rw [hag] at hR1 hR2
                  cases b with
                  | false =>
                    refine j_if_eq X (tgt := 192) dX10_commandHere_185 (by decide) (fun _ => ?_) (fun q9 => absurd (rfl) q9)
                    refine j_iconst X (v := (nI 0)) dX10_commandHere_192 (by decide) ?_
                    refine j_goto X (tgt := 219) dX10_commandHere_193 (by decide) ?_
                    exact j_iret X dX10_commandHere_219 rfl rfl (cP_mk (b := false) hR1 xc ec fc gc (fun z9 => absurd (show false = true from z9) (by decide)))
                  | true =>
                    refine j_if_eq X (tgt := 192) dX10_commandHere_185 (by decide) (fun q9 => absurd q9 ((show ¬ nI (true : Bool).toNat = 0 by decide))) (fun _ => ?_)
                    refine j_iconst X (v := (nI 1)) dX10_commandHere_188 (by decide) ?_
                    refine j_goto X (tgt := 219) dX10_commandHere_189 (by decide) ?_
                    exact j_iret X dX10_commandHere_219 rfl rfl (cP_mk (b := true) hR1 xc ec fc gc (fun _ => by rw [hR2 (by rw [hR1])]; exact ⟨(gc0 _ (by omega)).trans ((gb0 _ (by omega)).trans (va)), fun _ => (gc0 _ (by omega)).trans (vb rfl), fun _ => vc rfl, fun z9 => absurd (show (4 : Nat) = 1 ∨ (4 : Nat) = 2 from z9) (by decide)⟩))
              · rw [decide_eq_false hw]
                refine j_if_eq X (tgt := 192) dX10_commandHere_161 (by decide) (fun _ => ?_) (fun q9 => absurd (rfl) q9)
                refine j_iconst X (v := (nI 0)) dX10_commandHere_192 (by decide) ?_
                refine j_goto X (tgt := 219) dX10_commandHere_193 (by decide) ?_
                exact j_iret X dX10_commandHere_219 rfl rfl (cP_mk (b := false) (wc_n hw) xa ea fa ga (fun z9 => absurd (show false = true from z9) (by decide)))
            · rw [sgR_n c6] at hp
              obtain ⟨rfl, rfl, rfl, x6, e60, f60, o6⟩ := hp
              have e6 : ∀ k, k ≠ 18 → t6 M k = t M k := fun k hk => (e60 k hk).trans (e5 k hk)
              have f6 : ∀ c, c ≠ M → c ≠ M + 7 → t6 c = t c := fun c h1 h2 => (f60 c h1 h2).trans (f5 c h1 h2)
              have g6 : ∀ j, (j < 4 * om ∨ 4 * om + 4 ≤ j) → t6 (M + 7) j = t (M + 7) j := fun j hj => (congrFun o6 j).trans (g5 j hj)
              clear e60 f60 o6
              rw [show cmT T p0 = wcR T 0 (p0 + 1) [108, 97, 116, 101, 32] from ((if_neg c1).trans ((if_neg c2).trans ((if_neg c3).trans ((if_neg c4).trans ((if_pos c5).trans (if_neg c6))))))]
              refine j_if_eq X (tgt := 196) dX10_commandHere_151 (by decide) (fun _ => ?_) (fun q9 => absurd (rfl) q9)
              have x6 : RX t6 M T (p0 + 1) := x6
              obtain ⟨a9, hr9, hs9⟩ := hok.s229
              refine j_aload_n X (i := 0) dX10_commandHere_196 rfl rfl ?_
              refine j_iconst X (v := (nI 0)) dX10_commandHere_197 (by decide) ?_
              refine j_ldcS X hr9 dX10_commandHere_198 ?_
              refine j_callV_p X (m_word hok hst hM x6 (k0 := 0) hs9 ((e6 20 (by decide)).trans hom) ho) i_X10_isWord tw_7_227 tw_7_229 tp_57 M0 rfl dX10_commandHere_200 (fun v2 z2 sk2 ta hp => ?_) 
              obtain ⟨rfl, rfl, rfl, xa, ea0, fa0, oa⟩ := hp
              have xa : RX ta M T (p0 + 1 + lcp T [108, 97, 116, 101, 32] (p0 + 1)) := xa
              have ea : ∀ k, k ≠ 18 → ta M k = t M k := fun k hk => (ea0 k hk).trans (e6 k hk)
              have fa : ∀ c, c ≠ M → c ≠ M + 7 → ta c = t c := fun c h1 h2 => (fa0 c h1 h2).trans (f6 c h1 h2)
              have ga : ∀ j, (j < 4 * om ∨ 4 * om + 4 ≤ j) → ta (M + 7) j = t (M + 7) j := fun j hj => by rw [oa]; exact (if_neg (by omega)).trans (g6 j hj)
              have va : ta (M + 7) (4 * om) = nI 0 := by rw [oa]; exact if_pos rfl
              clear ea0 fa0 oa
              by_cases hw : lcp T [108, 97, 116, 101, 32] (p0 + 1) = ([108, 97, 116, 101, 32] : List Nat).length
              · rw [decide_eq_true hw]
                have xa : RX ta M T (p0 + 1 + 5) := by rw [hw] at xa; exact xa
                have hag : (wcR T 0 (p0 + 1) [108, 97, 116, 101, 32]) = ((ikR T (true, p0 + 1 + 5)).1, (0, ((ikR T (true, p0 + 1 + 5)).2, 0, 0))) := if_pos hw
                rw [hag]
                refine j_if_eq X (tgt := 218) dX10_commandHere_203 (by decide) (fun q9 => absurd q9 ((show ¬ nI (true : Bool).toNat = 0 by decide))) (fun _ => ?_)
                refine j_aload_n X (i := 0) dX10_commandHere_206 rfl rfl ?_
                refine j_iload_n X (i := 1) dX10_commandHere_207 rfl rfl ?_
                refine j_callV_p X (m_ink hok hst hM xa (o := 4 * om + 1) (by omega)) i_X10_inkHere tw_8_8 tw_8_10 tp_60 M0 rfl dX10_commandHere_208 (fun v2 z2 sk2 tb hp => ?_) 
                obtain ⟨rfl, rfl, rfl, xb, eb0, fb0, gb0, vb⟩ := hp
                have eb : ∀ k, k ≠ 18 → tb M k = t M k := fun k hk => (eb0 k hk).trans (ea k hk)
                have fb : ∀ c, c ≠ M → c ≠ M + 7 → tb c = t c := fun c h1 h2 => (fb0 c h1 h2).trans (fa c h1 h2)
                have gb : ∀ j, (j < 4 * om ∨ 4 * om + 4 ≤ j) → tb (M + 7) j = t (M + 7) j := fun j hj => (gb0 j (by omega)).trans (ga j hj)
                generalize ikR T (true, p0 + 1 + 5) = u at xb vb ⊢
                obtain ⟨⟨b, qb⟩, wb⟩ := u
                cases b with
                | false =>
                  refine j_if_eq X (tgt := 218) dX10_commandHere_211 (by decide) (fun _ => ?_) (fun q9 => absurd (rfl) q9)
                  refine j_iconst X (v := (nI 0)) dX10_commandHere_218 (by decide) ?_
                  exact j_iret X dX10_commandHere_219 rfl rfl (cP_mk (b := false) rfl xb eb fb gb (fun z9 => absurd (show false = true from z9) (by decide)))
                | true =>
                  refine j_if_eq X (tgt := 218) dX10_commandHere_211 (by decide) (fun q9 => absurd q9 ((show ¬ nI (true : Bool).toNat = 0 by decide))) (fun _ => ?_)
                  refine j_iconst X (v := (nI 1)) dX10_commandHere_214 (by decide) ?_
                  refine j_goto X (tgt := 219) dX10_commandHere_215 (by decide) ?_
                  exact j_iret X dX10_commandHere_219 rfl rfl (cP_mk (b := true) rfl xb eb fb gb (fun _ => ⟨(gb0 _ (by omega)).trans va, fun _ => vb rfl, fun z9 => absurd (show (0 : Nat) = 1 ∨ (0 : Nat) = 2 ∨ (0 : Nat) = 4 from z9) (by decide), fun z9 => absurd (show (0 : Nat) = 1 ∨ (0 : Nat) = 2 from z9) (by decide)⟩))
              · rw [decide_eq_false hw]
                refine j_if_eq X (tgt := 218) dX10_commandHere_203 (by decide) (fun _ => ?_) (fun q9 => absurd (rfl) q9)
                refine j_iconst X (v := (nI 0)) dX10_commandHere_218 (by decide) ?_
                exact j_iret X dX10_commandHere_219 rfl rfl (cP_mk (b := false) (by unfold wcR; rw [if_neg hw]; rfl) xa ea fa ga (fun z9 => absurd (show false = true from z9) (by decide)))
          · rw [sgR_n c5] at hp
            obtain ⟨rfl, rfl, rfl, x5, e50, f50, o5⟩ := hp
            have e5 : ∀ k, k ≠ 18 → t5 M k = t M k := fun k hk => (e50 k hk).trans (e4 k hk)
            have f5 : ∀ c, c ≠ M → c ≠ M + 7 → t5 c = t c := fun c h1 h2 => (f50 c h1 h2).trans (f4 c h1 h2)
            have g5 : ∀ j, (j < 4 * om ∨ 4 * om + 4 ≤ j) → t5 (M + 7) j = t (M + 7) j := fun j hj => (congrFun o5 j).trans (g4 j hj)
            clear e50 f50 o5
            rw [show cmT T p0 = cfl p0 from ((if_neg c1).trans ((if_neg c2).trans ((if_neg c3).trans ((if_neg c4).trans (if_neg c5)))))]
            refine j_if_ne X (tgt := 145) dX10_commandHere_140 (by decide) (fun q9 => absurd (rfl) q9) (fun _ => ?_)
            refine j_iconst X (v := (nI 0)) dX10_commandHere_143 (by decide) ?_
            exact j_iret X dX10_commandHere_144 rfl rfl (cP_mk (b := false) rfl x5 e5 f5 g5 (fun z9 => absurd (show false = true from z9) (by decide)))

