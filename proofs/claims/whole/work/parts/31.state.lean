theorem rkG_spec (P : Nat → TV) (a : Int) : ∀ n k, (rkG P a n k = -1 ∧ ∀ j, k ≤ j → j < k + n → (P j).1.2.2 ≠ a) ∨ ∃ j, k ≤ j ∧ j < k + n ∧ rkG P a n k = (j : Int) ∧ (P j).1.2.2 = a
  | 0, k => Or.inl ⟨rfl, fun j h1 h2 => absurd h2 (by omega)⟩
  | n + 1, k => by
    unfold rkG
    by_cases e : (P k).1.2.2 = a
    · rw [if_pos e]
      exact Or.inr ⟨k, Nat.le_refl k, by omega, rfl, e⟩
    · rw [if_neg e]
      rcases rkG_spec P a n (k + 1) with ⟨h1, h2⟩ | ⟨j, h1, h2, h3, h4⟩
      · refine Or.inl ⟨h1, fun j hj1 hj2 => ?_⟩
        by_cases q : j = k
        · rw [q]; exact e
        · exact h2 j (by omega) (by omega)
      · exact Or.inr ⟨j, by omega, by omega, h3, h4⟩
theorem rkG_none {P : Nat → TV} {a : Int} {n : Nat} (h : ∀ j, j < n → (P j).1.2.2 ≠ a) : rkG P a n 0 = -1 := by
  rcases rkG_spec P a n 0 with ⟨h1, -⟩ | ⟨j, -, h2, -, h4⟩
  · exact h1
  · exact absurd h4 (h j (by omega))
theorem rkG_one {P : Nat → TV} {a : Int} {n k : Nat} (hk : k < n) (e : (P k).1.2.2 = a) (h : ∀ j, j < n → j ≠ k → (P j).1.2.2 ≠ a) : rkG P a n 0 = (k : Int) := by
  rcases rkG_spec P a n 0 with ⟨-, h2⟩ | ⟨j, -, h2, h3, h4⟩
  · exact absurd e (h2 k (by omega) (by omega))
  · by_cases q : j = k
    · rw [h3, q]
    · exact absurd h4 (h j (by omega) q)
theorem rkG_cong {P P2 : Nat → TV} {a : Int} : ∀ n k, (∀ j, k ≤ j → j < k + n → ((P2 j).1.2.2 = a ↔ (P j).1.2.2 = a)) → rkG P2 a n k = rkG P a n k
  | 0, _, _ => rfl
  | n + 1, k, h => by
    unfold rkG
    have h0 := h k (Nat.le_refl k) (by omega)
    have ih := rkG_cong n (k + 1) (fun j h1 h2 => h j (by omega) (by omega))
    by_cases e : (P k).1.2.2 = a
    · rw [if_pos e, if_pos (h0.mpr e)]
    · rw [if_neg e, if_neg (fun q => e (h0.mp q)), ih]
theorem rkG_ext {P : Nat → TV} {a : Int} : ∀ n k, (P (k + n)).1.2.2 ≠ a → rkG P a (n + 1) k = rkG P a n k
  | 0, k, h => by
    have h : (P k).1.2.2 ≠ a := h
    unfold rkG
    rw [if_neg h]
    rfl
  | n + 1, k, h => by
    have ih := rkG_ext n (k + 1) (by rw [show k + 1 + n = k + (n + 1) by omega]; exact h)
    show (if _ then _ else rkG P a (n + 1) (k + 1)) = (if _ then _ else rkG P a n (k + 1))
    rw [ih]
theorem rkV_is {V : SV} (hk : okV V) {a : Int} (ha : 0 ≤ a) {k : Nat} (h1 : k < ns V) (h2 : (sh V k).1.2.2 = a) : rkV V a = (k : Int) :=
  rkG_one h1 h2 (fun j hj hne q => hne (hk.2.2.2.2.2.2.2 j k hj h1 (by rw [q]; exact ha) (by rw [q, h2])))
theorem flip_if (S : Nat → Bool) (c : Nat) : flipS S c = fun k => if k = c then !S c else S k := funext fun k => by
  unfold flipS
  by_cases e : k = c
  · subst e; rw [if_pos rfl, decide_eq_true rfl]; cases S k <;> rfl
  · rw [if_neg e, decide_eq_false e]; cases S k <;> rfl
theorem cntB_add {S : Nat → Bool} {c : Nat} (hc : c < 128) (h : S c = false) : cntB (flipS S c) = cntB S + 1 := by
  have := fb_ct_upd S (!S c) (i := c) (n := 128) hc
  rw [← flip_if, h, if_neg (by decide), if_pos (show (!false) = true from rfl)] at this
  unfold cntB
  omega
theorem cntB_sub {S : Nat → Bool} {c : Nat} (hc : c < 128) (h : S c = true) : cntB (flipS S c) + 1 = cntB S := by
  have := fb_ct_upd S (!S c) (i := c) (n := 128) hc
  rw [← flip_if, h, if_pos (show true = true from rfl), if_neg (show ¬ (!true) = true by decide)] at this
  unfold cntB
  omega
theorem ok_upP {V : SV} (h : okV V) {k : Nat} (hk : k < np V) {p : PV} (hp : okP p) : okV (upP V k p) := by
  obtain ⟨k1, k2, k3, k4, k5, k6, k7, k8⟩ := h
  refine ⟨k1, k2, fun j hj => ?_, k4, k5, fun j hj hn => ?_, k7, k8⟩
  · show okP (if j = k then p else pl V j)
    by_cases e : j = k
    · rw [if_pos e]; exact hp
    · rw [if_neg e]; exact k3 j hj
  · have e : ¬ j = k := by
      have hn : np V ≤ j := hn
      omega
    show (if j = k then p else pl V j).2.1 = 0 ∧ (if j = k then p else pl V j).2.2.1 = 0 ∧ ∀ i, i < 128 → (if j = k then p else pl V j).2.2.2 i = false
    rw [if_neg e]
    exact k6 j hj hn
theorem ok_upS {V : SV} (h : okV V) {k : Nat} (hk : k < ns V) {s : TV} (hs : okS s) (hu : 0 ≤ s.1.2.2 → ∀ j, j < ns V → j ≠ k → (sh V j).1.2.2 ≠ s.1.2.2) : okV (upS V k s) := by
  obtain ⟨k1, k2, k3, k4, k5, k6, k7, k8⟩ := h
  refine ⟨k1, k2, k3, fun j hj => ?_, k5, k6, fun j hj hn => ?_, fun i j hi hj h0 he => ?_⟩
  · show okS (if j = k then s else sh V j)
    by_cases e : j = k
    · rw [if_pos e]; exact hs
    · rw [if_neg e]; exact k4 j hj
  · have e : ¬ j = k := by
      have hn : ns V ≤ j := hn
      omega
    have q : sh (upS V k s) j = sh V j := if_neg e
    rw [q]
    exact k7 j hj hn
  · have hi : i < ns V := hi
    have hj : j < ns V := hj
    have h0 : 0 ≤ (if i = k then s else sh V i).1.2.2 := h0
    have he : (if i = k then s else sh V i).1.2.2 = (if j = k then s else sh V j).1.2.2 := he
    by_cases e1 : i = k
    · by_cases e2 : j = k
      · rw [e1, e2]
      · rw [if_pos e1] at h0 he
        rw [if_neg e2] at he
        exact absurd he.symm (hu h0 j hj e2)
    · by_cases e2 : j = k
      · rw [if_neg e1] at h0 he
        rw [if_pos e2] at he
        exact absurd he (hu (by rw [← he]; exact h0) i hi e1)
      · rw [if_neg e1] at h0 he
        rw [if_neg e2] at he
        exact k8 i j hi hj h0 he
theorem ok_same {V : SV} (h : okV V) {k : Nat} (hk : k < ns V) {s : TV} (hs : okS s) (hp : s.1.2.2 = (sh V k).1.2.2) : okV (upS V k s) :=
  ok_upS h hk hs (fun h0 j hj hne q => hne (h.2.2.2.2.2.2.2 j k hj hk (by rw [q]; exact h0) (by rw [q, hp])))
theorem ok_upD {V : SV} (h : okV V) {i n : Nat} (hn : n ≤ 500) : okV (upD V i n) := by
  obtain ⟨k1, k2, k3, k4, k5, k6, k7, k8⟩ := h
  refine ⟨k1, k2, k3, k4, fun j hj => ?_, k6, k7, k8⟩
  show (if j = i then n else dr V j) ≤ 500
  by_cases e : j = i
  · rw [if_pos e]; exact hn
  · rw [if_neg e]; exact k5 j hj
theorem ok_newPlate {V : SV} (h : okV V) (x : Int32) : okV (vNewPlate V x).2 := by
  unfold vNewPlate
  split
  · exact h
  next hi =>
  split
  · exact h
  next h6 =>
  obtain ⟨k1, k2, k3, k4, k5, k6, k7, k8⟩ := id h
  obtain ⟨n, hn, -, hxn⟩ := isIk_of (show isIk x = true by cases hq : isIk x with | true => rfl | false => exact absurd hq hi)
  have h6 : ¬ 6 ≤ np V := h6
  refine ⟨show np V + 1 ≤ 6 by omega, k2, fun j hj => ?_, k4, k5, fun j hj hn2 => ?_, k7, k8⟩
  · show okP (if j = np V then (x.toInt.toNat, (pl V j).2) else pl V j)
    by_cases e : j = np V
    · rw [if_pos e]
      obtain ⟨-, q⟩ := k3 j hj
      exact ⟨by rw [hxn]; exact hn, q⟩
    · rw [if_neg e]; exact k3 j hj
  · have hn2 : np V + 1 ≤ j := hn2
    have e : ¬ j = np V := by omega
    show (if j = np V then (x.toInt.toNat, (pl V j).2) else pl V j).2.1 = 0 ∧ (if j = np V then (x.toInt.toNat, (pl V j).2) else pl V j).2.2.1 = 0 ∧ ∀ i, i < 128 → (if j = np V then (x.toInt.toNat, (pl V j).2) else pl V j).2.2.2 i = false
    rw [if_neg e]
    exact k6 j hj (by omega)
theorem cAt_lt {x y : Int32} (h : isPl x y = true) : cAt x y < 128 := by
  have h := of_decide_eq_true h
  unfold cAt
  omega
theorem b_t {b : Bool} (h : ¬ b = false) : b = true := by cases b with | true => rfl | false => exact absurd rfl h
theorem b_f {b : Bool} (h : ¬ b = true) : b = false := by cases b with | false => rfl | true => exact absurd rfl h
theorem pIx_lt {n : Nat} {x : Int32} (h : pIx n x = true) : x.toInt.toNat < n := by
  have h := of_decide_eq_true h
  omega
theorem ok_newStar {V : SV} (h : okV V) (q x y : Int32) : okV (vNewStar V q x y).2 := by
  unfold vNewStar
  split
  · exact h
  next hq =>
  split
  · exact h
  next hp =>
  split
  · exact h
  next hb =>
  have hlt := pIx_lt (b_t hq)
  obtain ⟨p1, p2, p3, p4, p5, p6⟩ := h.2.2.1 q.toInt.toNat (by have := h.1; omega)
  refine ok_upP h hlt ⟨p1, p2, p3, p4, p5, ?_⟩
  have e1 : (pAt V q).2.2.2 (cAt x y) = false := b_f fun z => hb (Or.inl z)
  have e2 : ¬ 20 ≤ cntB (pAt V q).2.2.2 := fun z => hb (Or.inr z)
  show cntB (flipS (pAt V q).2.2.2 (cAt x y)) ≤ 20
  rw [cntB_add (cAt_lt (b_t hp)) e1]
  omega
theorem ok_dropStar {V : SV} (h : okV V) (q x y : Int32) : okV (vDropStar V q x y).2 := by
  unfold vDropStar
  split
  · exact h
  next hq =>
  split
  · exact h
  next hp =>
  split
  · exact h
  next hb =>
  have hlt := pIx_lt (b_t hq)
  obtain ⟨p1, p2, p3, p4, p5, p6⟩ := h.2.2.1 q.toInt.toNat (by have := h.1; omega)
  refine ok_upP h hlt ⟨p1, p2, p3, p4, p5, ?_⟩
  have e1 := cntB_sub (cAt_lt (b_t hp)) (b_t hb)
  have p6 : cntB (pAt V q).2.2.2 ≤ 20 := p6
  show cntB (flipS (pAt V q).2.2.2 (cAt x y)) ≤ 20
  omega
theorem ok_shift {V : SV} (h : okV V) (q x y : Int32) : okV (vShift V q x y).2 := by
  unfold vShift
  split
  · exact h
  next hq =>
  split
  · exact h
  next hp =>
  have hlt := pIx_lt (b_t hq)
  obtain ⟨p1, p2, p3, p4, p5, p6⟩ := h.2.2.1 q.toInt.toNat (by have := h.1; omega)
  obtain ⟨d1, d2, d3, d4⟩ : -3 ≤ x.toInt ∧ x.toInt ≤ 3 ∧ -3 ≤ y.toInt ∧ y.toInt ≤ 3 := of_decide_eq_true (b_t hp)
  exact ok_upP h hlt ⟨p1, d1, d2, d3, d4, p6⟩
theorem ok_fit {V : SV} (h : okV V) (q o : Int32) : okV (vFit V q o).2 := by
  unfold vFit
  split
  · exact h
  next hq =>
  split
  · exact h
  have hlt := pIx_lt (b_t fun z => hq (Or.inl z))
  obtain ⟨p1, p2, p3, p4, p5, p6⟩ := h.2.2.1 q.toInt.toNat (by have := h.1; omega)
  have hb : okF (bstV V q o) := bst_ok (pAt V q).2.2.2 (pAt V o).2.2.2
  generalize bstV V q o = B at hb ⊢
  obtain ⟨-, -, d1, d2, d3, d4⟩ := hb
  exact ok_upP h hlt ⟨p1, d1, d2, d3, d4, p6⟩
theorem ok_newSheet {V : SV} (h : okV V) : okV (vNewSheet V).2 := by
  unfold vNewSheet
  split
  · exact h
  next h8 =>
  obtain ⟨k1, k2, k3, k4, k5, k6, k7, k8⟩ := id h
  have h8 : ¬ 8 ≤ ns V := h8
  have hn1 : (sh V (ns V)).1.2.2 = -1 := (k7 (ns V) (by omega) (Nat.le_refl _)).2.2.1
  refine ⟨k1, show ns V + 1 ≤ 8 by omega, k3, k4, k5, k6, fun j hj hn => k7 j hj (by have hn : ns V + 1 ≤ j := hn; omega), fun i j hi hj h0 he => ?_⟩
  have hi : i < ns V + 1 := hi
  have hj : j < ns V + 1 := hj
  have h0 : 0 ≤ (sh V i).1.2.2 := h0
  have he : (sh V i).1.2.2 = (sh V j).1.2.2 := he
  have i1 : i ≠ ns V := fun e => by rw [e, hn1] at h0; omega
  have j1 : j ≠ ns V := fun e => by rw [e, hn1] at he; omega
  exact k8 i j (by omega) (by omega) h0 he
theorem take_place (v : TV) (p : PV) : (takeV v p).1.2.2 = v.1.2.2 := by
  unfold takeV
  show (if 0 < v.1.1 then smV v else v).1.2.2 = _
  split
  · rfl
  · rfl
theorem ok_print {V : SV} (h : okV V) (f : RF) (q o : Int32) : okV (vPrint V f q o).2.1 := by
  unfold vPrint
  split
  · exact h
  next hq =>
  split
  · exact h
  split
  · exact h
  have hlt := pIx_lt (b_t fun z => hq (Or.inl z))
  have hlo := pIx_lt (b_t fun z => hq (Or.inr z))
  have p6 : cntB (pAt V q).2.2.2 ≤ 20 := (h.2.2.1 q.toInt.toNat (by have := h.1; omega)).2.2.2.2.2
  have oS := h.2.2.2.1 o.toInt.toNat (by have := h.2.1; omega)
  have d5 : dr V ((pAt V q).1 / 2) ≤ 500 := h.2.2.2.2.1 _ (h.2.2.1 q.toInt.toNat (by have := h.1; omega)).bd.1
  refine ok_upD (ok_same h hlo ⟨?_, ?_, ?_⟩ (take_place _ _)) (by omega)
  · show (cntB (pAt V q).2.2.2 + 3) / 4 ≤ 5
    omega
  · rw [take_place]; exact oS.2.1
  · rw [take_place]; exact oS.2.2
theorem frG_free (V : SV) : ∀ n k, frG V n k < k + n → rkV V (frG V n k : Int) = -1
  | 0, k, h => by
    have h : k < k + 0 := h
    omega
  | n + 1, k, h => by
    unfold frG at h ⊢
    by_cases e : rkV V (k : Int) = -1
    · rw [if_pos e]; exact e
    · rw [if_neg e] at h ⊢
      exact frG_free V n (k + 1) (by omega)
theorem rk_free {V : SV} {a : Int} (h : rkV V a = -1) {j : Nat} (hj : j < ns V) : (sh V j).1.2.2 ≠ a := by
  rcases rkG_spec (sh V) a (ns V) 0 with ⟨-, h2⟩ | ⟨i, -, -, h3, -⟩
  · exact h2 j (Nat.zero_le _) (by omega)
  · unfold rkV at h
    rw [h3] at h
    omega
theorem ok_rack {V : SV} (h : okV V) (f : RF) (o : Int32) : okV (vRack V f o).2.1 := by
  unfold vRack
  split
  · exact h
  next ho =>
  split
  · exact h
  split
  next h3 =>
    have hlo := pIx_lt (b_t ho)
    have oS := h.2.2.2.1 o.toInt.toNat (by have := h.2.1; omega)
    refine ok_upS h hlo ⟨oS.1, show (-1 : Int) ≤ (frV V : Int) by omega, show (frV V : Int) < 3 by omega⟩ (fun _ j hj _ => rk_free (frG_free V 3 0 (by unfold frV at h3; omega)) hj)
  · exact h
theorem ok_unrack {V : SV} (h : okV V) (o : Int32) : okV (vUnrack V o).2 := by
  unfold vUnrack
  split
  · exact h
  next ho =>
  split
  · exact h
  have hlo := pIx_lt (b_t ho)
  have oS := h.2.2.2.1 o.toInt.toNat (by have := h.2.1; omega)
  exact ok_upS h hlo ⟨oS.1, Int.le_refl _, show (-1 : Int) < 3 by decide⟩ (fun h0 => absurd (show (0 : Int) ≤ -1 from h0) (by decide))
theorem ok_refill {V : SV} (h : okV V) (x y : Int32) : okV (vRefill V x y).2 := by
  unfold vRefill
  split
  · exact h
  split
  · exact h
  exact ok_upD h (by omega)
theorem ok_hours {V : SV} (h : okV V) (x : Int32) : okV (vHours V x).2 := by
  unfold vHours
  split
  · exact h
  obtain ⟨k1, k2, k3, k4, k5, k6, k7, k8⟩ := h
  have pl2 : ∀ j, (sh (hrV V x.toInt.toNat (ns V)) j).1.2.2 = (sh V j).1.2.2 := fun j => by
    show (if j < ns V then hrS (sh V j) (hr V) x.toInt.toNat else sh V j).1.2.2 = _
    split
    · rfl
    · rfl
  refine ⟨k1, k2, k3, fun j hj => ?_, k5, k6, fun j hj hn => ?_, fun i j hi hj h0 he => ?_⟩
  · have oS := k4 j hj
    show okS (if j < ns V then hrS (sh V j) (hr V) x.toInt.toNat else sh V j)
    split
    · exact ⟨Nat.le_trans (Nat.sub_le _ _) oS.1, oS.2⟩
    · exact oS
  · have hn : ns V ≤ j := hn
    have e : sh ((np V, ns V, hr V + x.toInt.toNat), dr V, pl V, (hrV V x.toInt.toNat (ns V)).2.2.2) j = sh V j := if_neg (by omega)
    rw [e]
    exact k7 j hj hn
  · have h0 : 0 ≤ (sh (hrV V x.toInt.toNat (ns V)) i).1.2.2 := h0
    have he : (sh (hrV V x.toInt.toNat (ns V)) i).1.2.2 = (sh (hrV V x.toInt.toNat (ns V)) j).1.2.2 := he
    rw [pl2] at h0
    rw [pl2, pl2] at he
    exact k8 i j hi hj h0 he
abbrev TXV : Type := Nat × (Nat → Nat)
/-- the whole: shop, saved, what can be undone, refusal, text, output, error position, failed command -/
abbrev GS : Type := SV × (Option SV × ((Nat × (Nat → SV)) × (RF × (TXV × (TXV × (Option Nat × Option Nat))))))
abbrev gV (G : GS) : SV := G.1
abbrev gS (G : GS) : Option SV := G.2.1
abbrev gH (G : GS) : Nat × (Nat → SV) := G.2.2.1
abbrev gR (G : GS) : RF := G.2.2.2.1
abbrev gT (G : GS) : TXV := G.2.2.2.2.1
abbrev gO (G : GS) : TXV := G.2.2.2.2.2.1
abbrev gE (G : GS) : Option Nat := G.2.2.2.2.2.2.1
abbrev gF (G : GS) : Option Nat := G.2.2.2.2.2.2.2
def okG (G : GS) : Prop := okV (gV G) ∧ (∀ S, gS G = some S → okV S) ∧ (gH G).1 ≤ 8 ∧ (∀ i, i < (gH G).1 → okV ((gH G).2 i)) ∧ (gT G).1 ≤ 60 ∧ (∀ i, (gT G).2 i < 65536) ∧ (gO G).1 ≤ 16 ∧ (∀ i, (gO G).2 i < 65536) ∧ (∀ e, gE G = some e → e < 100) ∧ ∀ e, gF G = some e → e < 100
/-- the answer of a change, its shop, its refusal: a fault changes the refusal at most -/
abbrev CR : Type := Int × SV × RF
def chX (w : Bool) (G : GS) (r : CR) : GS := if r.1 < 0 then (gV G, gS G, gH G, r.2.2, gT G, gO G, gE G, gF G) else (r.2.1, gS G, if w = true then gH G else pushH (gH G) (gV G), r.2.2, gT G, gO G, gE G, gF G)
def toC (G : GS) (r : VR) : CR := (r.1, r.2, gR G)
theorem ok_push {h : Nat × (Nat → SV)} (h8 : h.1 ≤ 8) (hh : ∀ i, i < h.1 → okV (h.2 i)) {V : SV} (hV : okV V) : (pushH h V).1 ≤ 8 ∧ ∀ i, i < (pushH h V).1 → okV ((pushH h V).2 i) := by
  unfold pushH
  split
  · refine ⟨by show h.1 + 1 ≤ 8; omega, fun i hi => ?_⟩
    have hi : i < h.1 + 1 := hi
    show okV (if i = h.1 then V else h.2 i)
    split
    · exact hV
    · exact hh i (by omega)
  · refine ⟨Nat.le_refl 8, fun i hi => ?_⟩
    have hi : i < 8 := hi
    show okV (if i = 7 then V else h.2 (i + 1))
    split
    · exact hV
    · exact hh _ (by omega)
theorem ok_chX {w : Bool} {G : GS} (h : okG G) {r : CR} (hr : okV r.2.1) : okG (chX w G r) := by
  obtain ⟨h1, h2, h3, h4, h5, h6, h7⟩ := h
  unfold chX
  split
  · exact ⟨h1, h2, h3, h4, h5, h6, h7⟩
  · refine ⟨hr, h2, ?_, ?_, h5, h6, h7⟩
    · show (if w = true then gH G else pushH (gH G) (gV G)).1 ≤ 8
      split
      · exact h3
      · exact (ok_push h3 h4 h1).1
    · show ∀ i, i < (if w = true then gH G else pushH (gH G) (gV G)).1 → okV ((if w = true then gH G else pushH (gH G) (gV G)).2 i)
      split
      · exact h4
      · exact (ok_push h3 h4 h1).2
def v0 : SV := ((0, 0, 0), (fun _ => 60), (fun _ => (1, 0, 0, fun _ => false)), fun _ => ((0, 0, -1), (fun _ _ => false), fun _ _ => false))
def g0 : GS := (v0, none, (0, fun _ => v0), none, (0, fun _ => 0), (0, fun _ => 0), none, none)
theorem cntB_0 : cntB (fun _ => false) = 0 := by
  unfold cntB
  rw [fb_ct_zero]
  intro k _
  rfl
theorem ok_v0 : okV v0 := ⟨by decide, by decide, fun k _ => ⟨Or.inl rfl, show (-3 : Int) ≤ 0 by decide, show (0 : Int) ≤ 3 by decide, show (-3 : Int) ≤ 0 by decide, show (0 : Int) ≤ 3 by decide, by show cntB (fun _ => false) ≤ 20; rw [cntB_0]; decide⟩, fun k _ => ⟨show (0 : Nat) ≤ 5 by decide, show (-1 : Int) ≤ -1 by decide, show (-1 : Int) < 3 by decide⟩, fun i _ => by show (60 : Nat) ≤ 500; decide, fun k _ _ => ⟨rfl, rfl, fun _ _ => rfl⟩, fun k _ _ => ⟨rfl, rfl, rfl, fun _ _ _ _ => ⟨rfl, rfl⟩⟩, fun j k hj _ _ _ => absurd hj (Nat.not_lt_zero j)⟩
theorem ok_g0 : okG g0 := ⟨ok_v0, fun S h => (by cases h), by decide, fun i hi => absurd hi (Nat.not_lt_zero i), by decide, fun _ => by show (0 : Nat) < 65536; decide, by decide, fun _ => (by show (0 : Nat) < 65536; decide), fun e h => (by cases h), fun e h => (by cases h)⟩
