/-- the law as a method: its name doesn't matter -/
abbrev mLaw (nm : String) : jI := (⟨"StarPressLaw", nm, "([I)Z"⟩, cL_law, 9, ret)
/-- what the law's loop keeps -/
def LI (g : jG) (kw : Nat → Nat) (sk : jS) (t : jT) (G : GS) : Prop := isPr g kw sk ∧ isMod g sk 454 ∧ (∃ a, sk 462 = some (kL 1 a)) ∧ (∃ a, sk 463 = some (kD 1 a)) ∧ RcG t G ∧ (∃ n0, RmG t 454 (false, n0) G) ∧ okG G
theorem isPr.cong {g : jG} {kw : Nat → Nat} {sk sk2 : jS} (h : isPr g kw sk) (e : ∀ c, c < 454 → sk2 c = sk c) : isPr g kw sk2 := by
  obtain ⟨h1, h2, h3, h4, ⟨f1, f2, f3, f4, f5, f6⟩, h6, ⟨i1, i2⟩, h8, h9⟩ := h
  exact ⟨(e _ (by omega)).trans h1, h2.cong (fun c a b => e c (by omega)), h3.cong (fun c a b => e c (by omega)), h4.cong (fun c a b => e c (by omega)), ⟨(e _ (by omega)).trans f1, (e _ (by omega)).trans f2, (e _ (by omega)).trans f3, (e _ (by omega)).trans f4, (e _ (by omega)).trans f5, (e _ (by omega)).trans f6⟩, (e _ (by omega)).trans h6, ⟨(e _ (by omega)).trans i1, (e _ (by omega)).trans i2⟩, (e _ (by omega)).trans h8, (e _ (by omega)).trans h9⟩
theorem isMod.cong {g : jG} {sk sk2 : jS} {M : Nat} (h : isMod g sk M) (e : ∀ c, M ≤ c → c < M + 8 → sk2 c = sk c) : isMod g sk2 M := by
  obtain ⟨h0, h1, h2, h3, h4, h5, h6, h7⟩ := h
  exact ⟨(e _ (by omega) (by omega)).trans h0, (e _ (by omega) (by omega)).trans h1, (e _ (by omega) (by omega)).trans h2, (e _ (by omega) (by omega)).trans h3, (e _ (by omega) (by omega)).trans h4, (e _ (by omega) (by omega)).trans h5, (e _ (by omega) (by omega)).trans h6, (e _ (by omega) (by omega)).trans h7⟩
theorem RmG.same {t u : jT} {M : Nat} {w : WB} {G : GS} (h : RmG t M w G) (e : ∀ c, M ≤ c → u c = t c) : RmG u M w G := by
  have h9 : RmG t M w G = RmG u M w G := by
    unfold RmG
    rw [e M (Nat.le_refl _), e (M + 1) (by omega), e (M + 2) (by omega), e (M + 5) (by omega), e (M + 6) (by omega)]
    have q1 : RmO u M (gS G) = RmO t M (gS G) := by cases gS G <;> simp only [RmO, e M (Nat.le_refl _), e (M + 3) (by omega)]
    have q2 : RmR u M (gR G) = RmR t M (gR G) := by cases gR G <;> simp only [RmR, e M (Nat.le_refl _)]
    have q3 : RmB u M = RmB t M := by simp only [RmB, e M (Nat.le_refl _)]
    rw [q1, q2, q3]
  rw [← h9]
  exact h
theorem RcG.low {t u : jT} {G : GS} (h : RcG t G) (e : ∀ c, c < 454 → u c = t c) : RcG u G := by
  obtain ⟨h1, h2, h3, h4, h5, h6, h7, h8, h9⟩ := h
  exact ⟨h1.cong (fun c a b => e c (by omega)), h2.cong (e 0 (by omega)) (fun c a b => e c (by omega)), h3.cong (fun c a b => e c (by omega)), h4.cong (e _ (by omega)), h5.cong (e _ (by omega)), ⟨by rw [e 450 (by omega)]; exact h6.1, fun i hi => by rw [e 451 (by omega)]; exact h6.2 i hi⟩, ⟨by rw [e 0 (by omega)]; exact h7.1, fun i hi => by rw [e 452 (by omega)]; exact h7.2 i hi⟩, by rw [e 0 (by omega)]; exact h8, by rw [e 0 (by omega)]; exact h9⟩
/-- behind a wrapper -/
theorem LI.wrap {g : jG} {kw : Nat → Nat} {sk : jS} {t : jT} {G : GS} {cv : Int32 → Int64} {r : AN} {v : Option Value} {z : Option Nat} {sk2 : jS} {t2 : jT} (I : LI g kw sk t G) (h : wP cv r sk t v z sk2 t2) : v = some (.int (nI r.1)) ∧ isPr g kw sk2 ∧ isMod g sk2 454 ∧ (∃ a, sk2 462 = some (kL 1 a) ∧ (nI r.1 = 0 → a 0 = cv r.2.1)) ∧ (∃ a, sk2 463 = some (kD 1 a)) ∧ RcG t2 r.2.2 ∧ ∃ n0, RmG t2 454 (false, n0) G := by
  obtain ⟨i1, i2, i3, ⟨a4, i4⟩, i5, ⟨n0, i6⟩, i7⟩ := I
  obtain ⟨h1, h2, h3, h4, h5⟩ := h
  exact ⟨h1, i1.cong fun c hc => h3 c (by omega), i2.cong fun c a b => h3 c (by omega), h2, ⟨a4, (h3 463 (by decide)).trans i4⟩, h4, n0, i6.same fun c hc => h5 c hc⟩
theorem LI.wrapD {g : jG} {kw : Nat → Nat} {sk : jS} {t : jT} {G : GS} {n : Nat} {val : UInt64} {v : Option Value} {z : Option Nat} {sk2 : jS} {t2 : jT} (I : LI g kw sk t G) (h : wD n val G sk t v z sk2 t2) : v = some (.int (nI n)) ∧ isPr g kw sk2 ∧ isMod g sk2 454 ∧ (∃ a, sk2 462 = some (kL 1 a)) ∧ (∃ a, sk2 463 = some (kD 1 a) ∧ (nI n = 0 → a 0 = val)) ∧ RcG t2 G ∧ ∃ n0, RmG t2 454 (false, n0) G := by
  obtain ⟨i1, i2, ⟨a3, i3⟩, i4, i5, ⟨n0, i6⟩, i7⟩ := I
  obtain ⟨h1, h2, h3, h4, h5⟩ := h
  exact ⟨h1, i1.cong fun c hc => h3 c (by omega), i2.cong fun c a b => h3 c (by omega), ⟨a3, (h3 462 (by decide)).trans i3⟩, h2, h4, n0, i6.same fun c hc => h5 c hc⟩
theorem lg_cmp_0 (x : Int64) : lg_cmp x x = 0 := by
  unfold lg_cmp
  rw [if_neg (show ¬ x > x from fun h => absurd (Int64.lt_iff_toInt_lt.mp h) (Int.lt_irrefl _)), if_pos rfl]
theorem i2c_nI (x : Int32) : (x.toUInt32 % 65536).toInt32 = nI (x.toUInt32.toNat % 65536) := by
  show (x.toUInt32 % 65536).toInt32 = (UInt32.ofNat (x.toUInt32.toNat % 65536)).toInt32
  congr 1
  apply UInt32.toNat_inj.mp
  rw [UInt32.toNat_mod, UInt32.toNat_ofNat']
  have h1 : x.toUInt32.toNat % 65536 < 65536 := Nat.mod_lt _ (by decide)
  show x.toUInt32.toNat % 65536 = _
  omega
theorem fp_dd : ∀ a, a < 41 → ∀ b, b < 9 → 0 < b → Op.cmpValue (FP.dcmp (FP.ddiv (FP.i2d (nI a)) (FP.i2d (nI b))) (FP.ddiv (FP.i2d (nI a)) (FP.i2d (nI b)))) .l = 0 := by decide +kernel
theorem fp_ff : ∀ a, a < 9 → ∀ b, b < 9 → 0 < b → Op.cmpValue (FP.dcmp (FP.f2d (FP.fdiv (FP.i2f (nI a)) (FP.i2f (nI b)))) (FP.f2d (FP.fdiv (FP.i2f (nI a)) (FP.i2f (nI b))))) .l = 0 := by decide +kernel
theorem mean_eq {G : GS} (hK : okG G) (h : nI (a_meanN G) = 0) : Op.cmpValue (FP.dcmp (a_mean G) (a_mean G)) .l = 0 := by
  have h0 : ¬ ns (gV G) = 0 := fun q => by unfold a_meanN at h; rw [if_pos q] at h; exact absurd h (by decide)
  obtain ⟨k1, k2, k3, k4, -⟩ := hK.1
  have hs : sumW (gV G) ≤ ns (gV G) * 5 := fb_sm_bound (fun k hk => (k4 k (by omega)).1)
  unfold a_mean
  rw [if_neg h0]
  exact fp_dd _ (by omega) _ (by omega) (by omega)
theorem frac_eq {G : GS} (hK : okG G) (h : nI (a_meanN G) = 0) : Op.cmpValue (FP.dcmp (FP.f2d (a_frac G)) (FP.f2d (a_frac G))) .l = 0 := by
  have h0 : ¬ ns (gV G) = 0 := fun q => by unfold a_meanN at h; rw [if_pos q] at h; exact absurd h (by decide)
  have h8 := hK.1.2.1
  have h1 : smC (gV G) ≤ ns (gV G) := fb_ct_le _ _
  unfold a_frac
  rw [if_neg h0]
  exact fp_ff _ (by omega) _ (by omega) (by omega)
theorem frac_n2 {G : GS} (hK : okG G) (h : nI (a_meanN G) = 0) : vf_n64 (FP.f2d (a_frac G)) := frac_n hK (by
  unfold a_meanN at h ⊢
  split
  · next q => rw [if_pos q] at h; exact absurd h (by decide)
  · rfl)
-- the states behind the calls are as they should be
theorem kq_P {G : GS} (h : okG G) (b : Bool) (v : Int32) : okG (qP G b v).2.2 := by
  unfold qP
  split <;> exact h
theorem kq_PP {G : GS} (h : okG G) (b b2 : Bool) (v : Int32) : okG (qPP G b b2 v).2.2 := by
  unfold qPP
  split
  · exact h
  · split <;> exact h
theorem k_addPlate {G : GS} (h : okG G) (x : Int32) : okG (a_addPlate false G x).2.2 := ok_chX h (ok_newPlate h.1 x)
theorem k_addStar {G : GS} (h : okG G) (q x y : Int32) : okG (a_addStar false G q x y).2.2 := ok_chX h (ok_newStar h.1 q x y)
theorem k_removeStar {G : GS} (h : okG G) (q x y : Int32) : okG (a_removeStar false G q x y).2.2 := ok_chX h (ok_dropStar h.1 q x y)
theorem k_setShift {G : GS} (h : okG G) (q x y : Int32) : okG (a_setShift false G q x y).2.2 := ok_chX h (ok_shift h.1 q x y)
theorem k_fit {G : GS} (h : okG G) (q o : Int32) : okG (a_fit false G q o).2.2 := ok_chX h (ok_fit h.1 q o)
theorem k_addSheet {G : GS} (h : okG G) : okG (a_addSheet false G).2.2 := ok_chX h (ok_newSheet h.1)
theorem k_print {G : GS} (h : okG G) (q o : Int32) : okG (a_print false G q o).2.2 := ok_chX h (ok_print h.1 _ q o)
theorem k_putInRack {G : GS} (h : okG G) (o : Int32) : okG (a_putInRack false G o).2.2 := ok_chX h (ok_rack h.1 _ o)
theorem k_takeOut {G : GS} (h : okG G) (o : Int32) : okG (a_takeOut false G o).2.2 := ok_chX h (ok_unrack h.1 o)
theorem k_addInk {G : GS} (h : okG G) (x y : Int32) : okG (a_addInk false G x y).2.2 := ok_chX h (ok_refill h.1 x y)
theorem k_passHours {G : GS} (h : okG G) (x : Int32) : okG (a_passHours false G x).2.2 := ok_chX h (ok_hours h.1 x)
theorem k_byMis {G : GS} (h : okG G) (r : Int32) : okG (a_byMis G r).2.2 := by
  unfold a_byMis
  split <;> exact h
theorem k_reason {G : GS} (h : okG G) : okG (a_reason G).2.2 := by
  unfold a_reason
  split <;> exact h
theorem k_detail {G : GS} (h : okG G) : okG (a_detail G).2.2 := by
  unfold a_detail
  split <;> exact h
theorem k_errorPos {G : GS} (h : okG G) : okG (a_errorPos G).2.2 := by
  unfold a_errorPos
  split <;> exact h
theorem k_failed {G : GS} (h : okG G) : okG (a_failed G).2.2 := by
  unfold a_failed
  split <;> exact h
theorem k_outChar {G : GS} (h : okG G) (x : Int32) : okG (a_outChar G x).2.2 := by
  unfold a_outChar
  split <;> exact h
theorem sgn_c (c : Nat) : sgn c < 65536 ∨ 8 ≤ c := by
  by_cases h : c < 8
  · left; unfold sgn; split <;> omega
  · right; omega
theorem k_writeRow {G : GS} (h : okG G) (o y : Int32) : okG (a_writeRow G o y).2.2 := by
  unfold a_writeRow
  split
  · exact h
  · split
    · exact h
    · obtain ⟨h1, h2, h3, h4, h5, h6, -, -, h9⟩ := h
      refine ⟨h1, h2, h3, h4, h5, h6, Nat.le_refl 16, fun i => ?_, h9⟩
      show rowV (sAt (gV G) o).2.1 y.toInt.toNat i < 65536
      unfold rowV
      rcases sgn_c (colN (sAt (gV G) o).2.1 (16 * y.toInt.toNat + i)) with q | q
      · exact q
      · have := colN_lt (sAt (gV G) o).2.1 (16 * y.toInt.toNat + i)
        omega
theorem k_feed {G : GS} (h : okG G) {x : Nat} (hx : x < 65536) : okG (a_feed G x).2.2 := by
  unfold a_feed
  split
  · exact h
  · next q =>
    obtain ⟨h1, h2, h3, h4, h5, h6, h7⟩ := h
    refine ⟨h1, h2, h3, h4, show (gT G).1 + 1 ≤ 60 by omega, fun i => ?_, h7⟩
    show (if i = (gT G).1 then x else (gT G).2 i) < 65536
    split
    · exact hx
    · exact h6 i
theorem k_undo {G : GS} (h : okG G) : okG (a_undo G).2.2 := by
  unfold a_undo
  split
  · exact h
  · next q =>
    obtain ⟨h1, h2, h3, h4, h7⟩ := h
    exact ⟨h4 _ (by omega), h2, show (gH G).1 - 1 ≤ 8 by omega, fun i hi => h4 i (by have hi : i < (gH G).1 - 1 := hi; omega), h7⟩
theorem k_save {G : GS} (h : okG G) : okG (a_save G).2.2 := ⟨h.1, fun S e => by cases e; exact h.1, h.2.2⟩
theorem k_restore {G : GS} (h : okG G) : okG (a_restore G).2.2 := by
  unfold a_restore
  split
  · exact h
  · next S q =>
    exact ⟨h.2.1 S q, fun S2 e => by cases e; exact h.2.1 S q, Nat.zero_le _, fun i hi => absurd hi (Nat.not_lt_zero i), h.2.2.2.2⟩
section LAW
variable {p : Program} {l : Launch} {e : Env} {R : Room} {s : State} {m : MethodId} {args : Array Value} {below : List Frame} {meth : Method} {c : Code} {cells slots : Nat} {Q : State → Prop}
variable {M : jI} {nL : Nat} {g : jG} {tb : Option (List ExceptionTableEntry)} {z : Option Nat} {sk : jS} {t : jT} {pc : Nat} {lv : List (Option Value)} {st : List Value}
/-- the script -/
theorem j_sld (X : jX p l s m args meth c M g tb) {b L q : Nat} {xs : Nat → Int32} {x : Int32} (hX : va_X b L xs (j0 g) (j0 g).heap) (hb : b < jb g) (hx : x = nI q) (hq : q < L) (hL9 : L < 2 ^ 31) (hdg : decode M.2.1 pc = .ok (.iaload, 1)) (kk : J p l e R s m args below meth c Q nL g cells slots z sk t (pc + 1) lv (.int (xs q) :: st)) : J p l e R s m args below meth c Q nL g cells slots z sk t pc lv (.int x :: .ref b :: st) := fun H locs ls hM hF hFl hZ hL => by
  obtain ⟨scr, h1, h2, h3, h4, h5⟩ := hX
  have h0 : x.toNatClampNeg = q := by rw [hx]; exact nI_clamp (by omega)
  exact W.iald (v := .int (xs q)) X.1 X.2.1 (by rw [hF.2 b hb]; exact h1) (State.isArrayOf_alike X.wm.alike h2) h3 (by rw [h4, hx]; exact vp_in_nI hq hL9) (by rw [h0]; exact h5 q hq) rfl rfl hdg (kk H locs ls hM hF hFl hZ hL)
theorem j_slen (X : jX p l s m args meth c M g tb) {b L : Nat} {xs : Nat → Int32} (hX : va_X b L xs (j0 g) (j0 g).heap) (hb : b < jb g) (hdg : decode M.2.1 pc = .ok (.arraylength, 1)) (kk : J p l e R s m args below meth c Q nL g cells slots z sk t (pc + 1) lv (.int (nI L) :: st)) : J p l e R s m args below meth c Q nL g cells slots z sk t pc lv (.ref b :: st) := fun H locs ls hM hF hFl hZ hL => by
  obtain ⟨scr, h1, h2, h3, h4, h5⟩ := hX
  exact W.alen (n := nI L) X.1 X.2.1 (by rw [hF.2 b hb]; exact h1) (State.isArrayOf_alike X.wm.alike h2) (by rw [h4] <;> rfl) rfl rfl hdg (kk H locs ls hM hF hFl hZ hL)
theorem j_dstore (X : jX p l s m args meth c M g tb) {i : Nat} {x : UInt64} (hdg : decode M.2.1 pc = .ok (.dstore i, 2)) (hn : i + 1 < nL) (hc : jc1 lv i = true) (h8 : lv[i + 1]? = some none) (k : J p l e R s m args below meth c Q nL g cells slots z sk t (pc + 2) (lv.set i (some (.double x))) st) : J p l e R s m args below meth c Q nL g cells slots z sk t pc lv (.double x :: st) := fun H locs ls hM hF hFl hZ hL => lv_dstore X.1 X.2.1 hdg hL hn rfl (fun ls2 h2 => k H locs ls2 hM hF hFl hZ (jL.weak h2 fun q hq => by
  obtain ⟨a, w⟩ := q
  obtain ⟨j, h1, h3⟩ := (jLs_mem _ 0 a w).mp hq
  have : a = j := by omega
  subst this
  by_cases hai : a = i
  · subst hai
    rw [List.getElem?_set] at h3
    split at h3
    · split at h3
      · cases h3; exact List.mem_cons_self
      · cases h3
    · next hne => exact absurd rfl hne
  · rw [List.getElem?_set_ne (Ne.symm hai)] at h3
    have ha1 : a ≠ i + 1 := fun q => by rw [q, h8] at h3; cases h3
    refine List.mem_cons_of_mem _ (List.mem_filter.mpr ⟨(jLs_mem lv 0 a w).mpr ⟨a, by omega, h3⟩, ?_⟩)
    simp only [Bool.and_eq_true, Bool.not_eq_true', beq_eq_false_iff_ne, ne_eq, Bool.and_eq_false_iff]
    refine ⟨hai, ha1, ?_⟩
    by_cases hp : a + 1 = i
    · right
      subst hp
      simp only [jc1, h3] at hc
      simpa using hc
    · exact Or.inl hp))
end LAW
