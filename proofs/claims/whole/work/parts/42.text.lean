/-- the character at i; -1 beyond the text -/
def chT (T : TXV) (i : Nat) : Int := if i < T.1 then ((T.2 i : Nat) : Int) else -1
def isDg (c : Int) : Bool := decide (48 ≤ c ∧ c ≤ 57)
/-- a reading: well-formed so far, and where -/
abbrev RS : Type := Bool × Nat
def sgR (T : TXV) (c : Int) (s : RS) : RS := if s.1 = true ∧ chT T s.2 = c then (true, s.2 + 1) else (false, s.2)
def dgR (T : TXV) (s : RS) : RS × Int := if s.1 = true ∧ isDg (chT T s.2) = true then ((true, s.2 + 1), chT T s.2 - 48) else ((false, s.2), 0)
def nbR (T : TXV) (s : RS) : RS × Int := if (dgR T s).1.1 = true ∧ isDg (chT T (dgR T s).1.2) = true then ((true, (dgR T s).1.2 + 1), 10 * (dgR T s).2 + (chT T (dgR T s).1.2 - 48)) else dgR T s
def sdR (T : TXV) (s : RS) : RS × Int := if s.1 = true ∧ chT T s.2 = 45 then ((dgR T (true, s.2 + 1)).1, -(dgR T (true, s.2 + 1)).2) else dgR T (sgR T 43 s)
def ikR (T : TXV) (s : RS) : RS × Int := if s.1 = true ∧ chT T s.2 = 99 then ((true, s.2 + 1), 1) else if s.1 = true ∧ chT T s.2 = 109 then ((true, s.2 + 1), 2) else if s.1 = true ∧ chT T s.2 = 121 then ((true, s.2 + 1), 4) else ((false, s.2), 4)
abbrev A3 : Type := Int × Int × Int
def agR (T : TXV) (k : Nat) (s : RS) : RS × A3 := match k with
  | 0 => ((ikR T s).1, ((ikR T s).2, 0, 0))
  | 1 => ((dgR T (sgR T 44 (nbR T (sgR T 32 (dgR T s).1)).1)).1, ((dgR T s).2, (nbR T (sgR T 32 (dgR T s).1)).2, (dgR T (sgR T 44 (nbR T (sgR T 32 (dgR T s).1)).1)).2))
  | 2 => ((sdR T (sdR T (dgR T s).1).1).1, ((dgR T s).2, (sdR T (dgR T s).1).2, (sdR T (sdR T (dgR T s).1).1).2))
  | 3 => (s, (0, 0, 0))
  | 4 => ((dgR T (sgR T 62 (dgR T s).1)).1, ((dgR T s).2, (dgR T (sgR T 62 (dgR T s).1)).2, 0))
  | 5 => ((dgR T s).1, ((dgR T s).2, 0, 0))
  | 6 => ((dgR T s).1, ((dgR T s).2, 0, 0))
  | _ => ((nbR T s).1, ((nbR T s).2, 0, 0))
/-- how many characters from p on are those that a word begins with -/
def lcp (T : TXV) : List Nat → Nat → Nat
  | [], _ => 0
  | a :: w, p => if chT T p = (a : Int) then lcp T w (p + 1) + 1 else 0
def kwL (i : Nat) : List Nat := kwT.getD i []
/-- the first keyword from i on, of n, that is there whole, and its length; none: the longest beginning -/
def kwG (T : TXV) (p : Nat) : Nat → Nat → Nat → Option Nat × Nat
  | 0, _, m => (none, m)
  | n + 1, i, m => if lcp T (kwL i) p = (kwL i).length then (some i, (kwL i).length) else kwG T p n (i + 1) (if m < lcp T (kwL i) p then lcp T (kwL i) p else m)
def kwR (T : TXV) (p : Nat) : Option Nat × Nat := kwG T p 8 0 0
abbrev CM : Type := RS × (Nat × A3)
def cmR (T : TXV) (p : Nat) : CM := match (kwR T p).1 with
  | none => ((false, p + (kwR T p).2), (0, (0, 0, 0)))
  | some k => ((agR T k (true, p + (kwR T p).2)).1, (k, (agR T k (true, p + (kwR T p).2)).2))
def nxR (T : TXV) (p : Nat) : CM := if 0 < p then (if chT T p = 59 then cmR T (p + 1) else ((false, p), (0, (0, 0, 0)))) else cmR T p
/-- a whole text: well-formed, how many commands, where the reading ended -/
def prR (T : TXV) : Nat → Nat → Nat → Bool × Nat × Nat
  | 0, i, p => (false, i, p)
  | n + 1, i, p => if (nxR T p).1.1 = false then (false, i, (nxR T p).1.2) else if T.1 ≤ (nxR T p).1.2 then (true, i + 1, (nxR T p).1.2) else prR T n (i + 1) (nxR T p).1.2
theorem chT_pos {T : TXV} {i : Nat} (h : 0 ≤ chT T i) : i < T.1 := by
  unfold chT at h
  by_cases q : i < T.1
  · exact q
  · rw [if_neg q] at h; omega
theorem chT_lt {T : TXV} (h : ∀ i, T.2 i < 65536) (i : Nat) : -1 ≤ chT T i ∧ chT T i < 65536 := by
  unfold chT
  have := h i
  split <;> omega
theorem sgR_no {T : TXV} {c : Int} {s : RS} (h : s.1 = false) : sgR T c s = (false, s.2) := by unfold sgR; rw [if_neg (by rw [h]; exact fun q => absurd (show false = true from q.1) (by decide))]
theorem dgR_no {T : TXV} {s : RS} (h : s.1 = false) : dgR T s = ((false, s.2), 0) := by unfold dgR; rw [if_neg (by rw [h]; exact fun q => absurd (show false = true from q.1) (by decide))]
theorem nbR_no {T : TXV} {s : RS} (h : s.1 = false) : nbR T s = ((false, s.2), 0) := by unfold nbR; rw [dgR_no h, if_neg (fun q => absurd (show false = true from q.1) (by decide))]
theorem sdR_no {T : TXV} {s : RS} (h : s.1 = false) : sdR T s = ((false, s.2), 0) := by unfold sdR; rw [if_neg (by rw [h]; exact fun q => absurd (show false = true from q.1) (by decide)), sgR_no h, dgR_no rfl]
/-- a reading goes on, by n at least if it is well-formed, and not beyond the text -/
def stR (T : TXV) (s u : RS) (n : Nat) : Prop := s.2 ≤ u.2 ∧ (s.2 ≤ T.1 → u.2 ≤ T.1) ∧ (u.1 = true → s.1 = true ∧ s.2 + n ≤ u.2)
theorem stR.trans {T : TXV} {s u v : RS} {n k : Nat} (h : stR T s u n) (h2 : stR T u v k) : stR T s v (n + k) := by
  obtain ⟨a1, a2, a3⟩ := h
  obtain ⟨b1, b2, b3⟩ := h2
  refine ⟨by omega, fun q => b2 (a2 q), fun q => ?_⟩
  obtain ⟨c1, c2⟩ := b3 q
  obtain ⟨d1, d2⟩ := a3 c1
  exact ⟨d1, by omega⟩
theorem sgR_st (T : TXV) {c : Int} (hc : 0 ≤ c) (s : RS) : stR T s (sgR T c s) 1 := by
  unfold sgR
  split
  · next h => exact ⟨by show s.2 ≤ s.2 + 1; omega, fun _ => by have := chT_pos (T := T) (i := s.2) (by rw [h.2]; exact hc); show s.2 + 1 ≤ T.1; omega, fun _ => ⟨h.1, Nat.le_refl _⟩⟩
  · exact ⟨Nat.le_refl _, fun q => q, fun q => absurd (show false = true from q) (by decide)⟩
theorem isDg_pos {c : Int} (h : isDg c = true) : 48 ≤ c ∧ c ≤ 57 := of_decide_eq_true h
theorem dgR_st (T : TXV) (s : RS) : stR T s (dgR T s).1 1 := by
  unfold dgR
  split
  · next h => exact ⟨by show s.2 ≤ s.2 + 1; omega, fun _ => by have := chT_pos (T := T) (i := s.2) (by have := isDg_pos h.2; omega); show s.2 + 1 ≤ T.1; omega, fun _ => ⟨h.1, Nat.le_refl _⟩⟩
  · exact ⟨Nat.le_refl _, fun q => q, fun q => absurd (show false = true from q) (by decide)⟩
theorem nbR_st (T : TXV) (s : RS) : stR T s (nbR T s).1 1 := by
  have h0 := dgR_st T s
  unfold nbR
  split
  · next h =>
    obtain ⟨a1, a2, a3⟩ := h0
    obtain ⟨b1, b2⟩ := a3 h.1
    exact ⟨by show s.2 ≤ (dgR T s).1.2 + 1; omega, fun _ => by have := chT_pos (T := T) (i := (dgR T s).1.2) (by have := isDg_pos h.2; omega); show (dgR T s).1.2 + 1 ≤ T.1; omega, fun _ => ⟨b1, by show s.2 + 1 ≤ (dgR T s).1.2 + 1; omega⟩⟩
  · exact h0
theorem sdR_st (T : TXV) (s : RS) : stR T s (sdR T s).1 1 := by
  unfold sdR
  split
  · next h =>
    obtain ⟨a1, a2, a3⟩ := dgR_st T (true, s.2 + 1)
    have hlt := chT_pos (T := T) (i := s.2) (by rw [h.2]; decide)
    exact ⟨by have a1 : s.2 + 1 ≤ (dgR T (true, s.2 + 1)).1.2 := a1; show s.2 ≤ (dgR T (true, s.2 + 1)).1.2; omega, fun _ => a2 hlt, fun _ => ⟨h.1, a1⟩⟩
  · have := (sgR_st T (c := 43) (by decide) s).trans (dgR_st T (sgR T 43 s))
    exact ⟨this.1, this.2.1, fun q => ⟨(this.2.2 q).1, by have := (this.2.2 q).2; omega⟩⟩
theorem ikR_st (T : TXV) (s : RS) : stR T s (ikR T s).1 1 := by
  unfold ikR
  split
  · next h => exact ⟨by show s.2 ≤ s.2 + 1; omega, fun _ => by have := chT_pos (T := T) (i := s.2) (by rw [h.2]; decide); show s.2 + 1 ≤ T.1; omega, fun _ => ⟨h.1, Nat.le_refl _⟩⟩
  · split
    · next h => exact ⟨by show s.2 ≤ s.2 + 1; omega, fun _ => by have := chT_pos (T := T) (i := s.2) (by rw [h.2]; decide); show s.2 + 1 ≤ T.1; omega, fun _ => ⟨h.1, Nat.le_refl _⟩⟩
    · split
      · next h => exact ⟨by show s.2 ≤ s.2 + 1; omega, fun _ => by have := chT_pos (T := T) (i := s.2) (by rw [h.2]; decide); show s.2 + 1 ≤ T.1; omega, fun _ => ⟨h.1, Nat.le_refl _⟩⟩
      · exact ⟨Nat.le_refl _, fun q => q, fun q => absurd (show false = true from q) (by decide)⟩
theorem stR.le {T : TXV} {s u : RS} {n k : Nat} (h : stR T s u n) (hk : k ≤ n) : stR T s u k := ⟨h.1, h.2.1, fun q => ⟨(h.2.2 q).1, by have := (h.2.2 q).2; omega⟩⟩
theorem agR_st (T : TXV) (k : Nat) (s : RS) : stR T s (agR T k s).1 (if k = 3 then 0 else 1) := by
  match k with
  | 0 => exact ikR_st T s
  | 1 => exact ((((dgR_st T s).trans (sgR_st T (by decide) _)).trans (nbR_st T _)).trans ((sgR_st T (by decide) _).trans (dgR_st T _))).le (by decide)
  | 2 => exact (((dgR_st T s).trans (sdR_st T _)).trans (sdR_st T _)).le (by decide)
  | 3 => exact ⟨Nat.le_refl _, fun q => q, fun q => ⟨q, Nat.le_refl _⟩⟩
  | 4 => exact ((dgR_st T s).trans ((sgR_st T (by decide) _).trans (dgR_st T _))).le (by decide)
  | 5 => exact dgR_st T s
  | 6 => exact dgR_st T s
  | k + 7 => rw [if_neg (by omega)]; exact nbR_st T s
theorem lcp_le (T : TXV) : ∀ (w : List Nat) (p : Nat), lcp T w p ≤ w.length ∧ (p ≤ T.1 → p + lcp T w p ≤ T.1)
  | [], p => ⟨Nat.le_refl _, fun h => h⟩
  | a :: w, p => by
    have ih := lcp_le T w (p + 1)
    unfold lcp
    split
    · next h =>
      have := chT_pos (T := T) (i := p) (by rw [h]; omega)
      exact ⟨by rw [List.length_cons]; omega, fun _ => by have := ih.2 (by omega); omega⟩
    · exact ⟨Nat.zero_le _, fun h => h⟩
theorem kwG_sp (T : TXV) (p : Nat) (hp : p ≤ T.1) : ∀ n i m, i + n = 8 → m ≤ 6 → p + m ≤ T.1 → (kwG T p n i m).2 ≤ 6 ∧ p + (kwG T p n i m).2 ≤ T.1 ∧ ∀ k, (kwG T p n i m).1 = some k → k < 8 ∧ lcp T (kwL k) p = (kwL k).length ∧ (kwG T p n i m).2 = (kwL k).length
  | 0, i, m, _, h1, h2 => ⟨h1, h2, fun k h => by cases h⟩
  | n + 1, i, m, hi, h1, h2 => by
    have hl := lcp_le T (kwL i) p
    have h6 : (kwL i).length ≤ 6 := (show ∀ i, i < 8 → (kwL i).length ≤ 6 by decide) i (by omega)
    unfold kwG
    split
    · next h => exact ⟨h6, by have := hl.2 hp; show p + (kwL i).length ≤ T.1; omega, fun k hk => by cases hk; exact ⟨by omega, h, rfl⟩⟩
    · have := hl.2 hp
      refine kwG_sp T p hp n (i + 1) _ (by omega) ?_ ?_
      · split <;> omega
      · split <;> omega
theorem kwR_sp (T : TXV) {p : Nat} (hp : p ≤ T.1) : (kwR T p).2 ≤ 6 ∧ p + (kwR T p).2 ≤ T.1 ∧ ∀ k, (kwR T p).1 = some k → k < 8 ∧ lcp T (kwL k) p = (kwL k).length ∧ (kwR T p).2 = (kwL k).length := kwG_sp T p hp 8 0 0 rfl (by decide) hp
theorem cmR_st (T : TXV) {p : Nat} (hp : p ≤ T.1) : p ≤ (cmR T p).1.2 ∧ (cmR T p).1.2 ≤ T.1 ∧ ((cmR T p).1.1 = true → p + 5 ≤ (cmR T p).1.2 ∧ (cmR T p).2.1 < 8) := by
  obtain ⟨h1, h2, h3⟩ := kwR_sp T hp
  unfold cmR
  cases hk : (kwR T p).1 with
  | none => exact ⟨by show p ≤ p + _; omega, h2, fun q => absurd (show false = true from q) (by decide)⟩
  | some k =>
    obtain ⟨a1, a2, a3⟩ := h3 k hk
    obtain ⟨b1, b2, b3⟩ := agR_st T k (true, p + (kwR T p).2)
    have b1 : p + (kwR T p).2 ≤ (agR T k (true, p + (kwR T p).2)).1.2 := b1
    refine ⟨by show p ≤ (agR T k (true, p + (kwR T p).2)).1.2; omega, b2 h2, fun q => ⟨?_, a1⟩⟩
    have hb := (b3 q).2
    have hb : p + (kwR T p).2 + (if k = 3 then 0 else 1) ≤ (agR T k (true, p + (kwR T p).2)).1.2 := hb
    have hk5 : ∀ k, k < 8 → 5 ≤ (kwL k).length + (if k = 3 then 0 else 1) := by decide
    have := hk5 k a1
    show p + 5 ≤ (agR T k (true, p + (kwR T p).2)).1.2
    omega
theorem nxR_st (T : TXV) {p : Nat} (hp : p ≤ T.1) : p ≤ (nxR T p).1.2 ∧ (nxR T p).1.2 ≤ T.1 ∧ ((nxR T p).1.1 = true → p + 5 ≤ (nxR T p).1.2 ∧ (nxR T p).2.1 < 8) := by
  unfold nxR
  split
  · split
    · next h =>
      have := chT_pos (T := T) (i := p) (by rw [h]; decide)
      obtain ⟨a, b, c⟩ := cmR_st T (p := p + 1) (by omega)
      exact ⟨by omega, b, fun q => ⟨by have := (c q).1; omega, (c q).2⟩⟩
    · exact ⟨Nat.le_refl _, hp, fun q => absurd (show false = true from q) (by decide)⟩
  · exact cmR_st T hp
theorem prR_st (T : TXV) : ∀ n i p, p ≤ T.1 → 5 * i ≤ p → T.1 < p + 5 * n → (prR T n i p).2.2 ≤ T.1 ∧ 5 * (prR T n i p).2.1 ≤ T.1 ∧ i ≤ (prR T n i p).2.1 ∧ ((prR T n i p).1 = true → (prR T n i p).2.2 = T.1)
  | 0, i, p, hp, hi, h => by omega
  | n + 1, i, p, hp, hi, h => by
    obtain ⟨a, b, c⟩ := nxR_st T hp
    unfold prR
    by_cases h1 : (nxR T p).1.1 = false
    · rw [if_pos h1]
      exact ⟨b, by show 5 * i ≤ T.1; omega, Nat.le_refl _, fun q => absurd (show false = true from q) (by decide)⟩
    · rw [if_neg h1]
      have c1 := (c (b_t h1)).1
      by_cases h2 : T.1 ≤ (nxR T p).1.2
      · rw [if_pos h2]
        exact ⟨b, by show 5 * (i + 1) ≤ T.1; omega, by show i ≤ i + 1; omega, fun _ => by show (nxR T p).1.2 = T.1; omega⟩
      · rw [if_neg h2]
        obtain ⟨d1, d2, d3, d4⟩ := prR_st T n (i + 1) (nxR T p).1.2 b (by omega) (by omega)
        exact ⟨d1, d2, by omega, d4⟩
theorem lcp_ne {T : TXV} {a : Nat} {w : List Nat} {p : Nat} (h : ¬ chT T p = (a : Int)) : lcp T (a :: w) p = 0 := if_neg h
theorem lcp_eq {T : TXV} {a : Nat} {w : List Nat} {p : Nat} (h : chT T p = (a : Int)) : lcp T (a :: w) p = lcp T w (p + 1) + 1 := if_pos h
def mx (m q : Nat) : Nat := if m < q then q else m
def kwX (q0 q1 q2 q3 q4 q5 q6 q7 : Nat) : Option Nat × Nat := if q0 = 6 then (some 0, 6) else if q1 = 5 then (some 1, 5) else if q2 = 6 then (some 2, 6) else if q3 = 5 then (some 3, 5) else if q4 = 6 then (some 4, 6) else if q5 = 5 then (some 5, 5) else if q6 = 4 then (some 6, 4) else if q7 = 5 then (some 7, 5) else (none, mx (mx (mx (mx (mx (mx (mx (mx 0 q0) q1) q2) q3) q4) q5) q6) q7)
theorem kwR_X (T : TXV) (p : Nat) : kwR T p = kwX (lcp T (kwL 0) p) (lcp T (kwL 1) p) (lcp T (kwL 2) p) (lcp T (kwL 3) p) (lcp T (kwL 4) p) (lcp T (kwL 5) p) (lcp T (kwL 6) p) (lcp T (kwL 7) p) := rfl
/-- a word from n characters behind p on -/
def wdR (T : TXV) (p k n : Nat) (w : List Nat) : Option Nat × Nat := if lcp T w (p + n) = w.length then (some k, n + w.length) else (none, n + lcp T w (p + n))
/-- the keywords character by character -/
def trR (T : TXV) (p : Nat) : Option Nat × Nat := if chT T p = 115 then (if chT T (p + 1) = 116 then wdR T p 1 2 [97, 114, 32] else if chT T (p + 1) = 104 then (if chT T (p + 2) = 105 then wdR T p 2 3 [102, 116, 32] else wdR T p 3 2 [101, 101, 116]) else (none, 1)) else if chT T p = 114 then wdR T p 5 1 [97, 99, 107, 32] else if chT T p = 111 then wdR T p 6 1 [117, 116, 32] else if chT T p = 104 then wdR T p 7 1 [111, 117, 114, 32] else if chT T p = 112 then (if chT T (p + 1) = 114 then wdR T p 4 2 [105, 110, 116, 32] else wdR T p 0 1 [108, 97, 116, 101, 32]) else (none, 0)
theorem kw_tr (T : TXV) (p : Nat) : kwR T p = trR T p := by
  rw [kwR_X]
  have k0 : kwL 0 = [112, 108, 97, 116, 101, 32] := rfl
  have k1 : kwL 1 = [115, 116, 97, 114, 32] := rfl
  have k2 : kwL 2 = [115, 104, 105, 102, 116, 32] := rfl
  have k3 : kwL 3 = [115, 104, 101, 101, 116] := rfl
  have k4 : kwL 4 = [112, 114, 105, 110, 116, 32] := rfl
  have k5 : kwL 5 = [114, 97, 99, 107, 32] := rfl
  have k6 : kwL 6 = [111, 117, 116, 32] := rfl
  have k7 : kwL 7 = [104, 111, 117, 114, 32] := rfl
  rw [k0, k1, k2, k3, k4, k5, k6, k7]
  unfold trR
  by_cases c1 : chT T p = 115
  · rw [if_pos c1, lcp_ne (a := 112) (p := p) (by rw [c1]; decide), lcp_eq (a := 115) c1, lcp_eq (a := 115) c1, lcp_eq (a := 115) c1, lcp_ne (a := 112) (p := p) (by rw [c1]; decide), lcp_ne (a := 114) (p := p) (by rw [c1]; decide), lcp_ne (a := 111) (p := p) (by rw [c1]; decide), lcp_ne (a := 104) (p := p) (by rw [c1]; decide)]
    by_cases d1 : chT T (p + 1) = 116
    · rw [if_pos d1, lcp_eq (a := 116) d1, lcp_ne (a := 104) (by rw [d1]; decide), lcp_ne (a := 104) (by rw [d1]; decide)]
      have h := lcp_le T [97, 114, 32] (p + 1 + 1)
      unfold wdR
      rw [show p + 2 = p + 1 + 1 from rfl]
      generalize lcp T [97, 114, 32] (p + 1 + 1) = x at h ⊢
      obtain ⟨h, -⟩ := h
      rcases (show x = 0 ∨ x = 1 ∨ x = 2 ∨ x = 3 by have : x ≤ 3 := h; omega) with rfl | rfl | rfl | rfl <;> rfl
    · rw [if_neg d1, lcp_ne (a := 116) d1]
      by_cases d2 : chT T (p + 1) = 104
      · rw [if_pos d2, lcp_eq (a := 104) d2, lcp_eq (a := 104) d2]
        by_cases e1 : chT T (p + 2) = 105
        · rw [if_pos e1, lcp_eq (a := 105) (show chT T (p + 1 + 1) = 105 from e1), lcp_ne (a := 101) (by rw [show chT T (p + 1 + 1) = 105 from e1]; decide)]
          have h := lcp_le T [102, 116, 32] (p + 1 + 1 + 1)
          unfold wdR
          rw [show p + 3 = p + 1 + 1 + 1 from rfl]
          generalize lcp T [102, 116, 32] (p + 1 + 1 + 1) = x at h ⊢
          obtain ⟨h, -⟩ := h
          rcases (show x = 0 ∨ x = 1 ∨ x = 2 ∨ x = 3 by have : x ≤ 3 := h; omega) with rfl | rfl | rfl | rfl <;> rfl
        · rw [if_neg e1, lcp_ne (a := 105) (show ¬ chT T (p + 1 + 1) = 105 from e1)]
          have h := lcp_le T [101, 101, 116] (p + 1 + 1)
          unfold wdR
          rw [show p + 2 = p + 1 + 1 from rfl]
          generalize lcp T [101, 101, 116] (p + 1 + 1) = x at h ⊢
          obtain ⟨h, -⟩ := h
          rcases (show x = 0 ∨ x = 1 ∨ x = 2 ∨ x = 3 by have : x ≤ 3 := h; omega) with rfl | rfl | rfl | rfl <;> rfl
      · rw [if_neg d2, lcp_ne (a := 104) d2, lcp_ne (a := 104) d2]
        rfl
  · rw [if_neg c1, lcp_ne (a := 115) c1, lcp_ne (a := 115) c1, lcp_ne (a := 115) c1]
    by_cases c2 : chT T p = 114
    · rw [if_pos c2, lcp_ne (a := 112) (p := p) (by rw [c2]; decide), lcp_ne (a := 112) (p := p) (by rw [c2]; decide), lcp_eq (a := 114) c2, lcp_ne (a := 111) (p := p) (by rw [c2]; decide), lcp_ne (a := 104) (p := p) (by rw [c2]; decide)]
      have h := lcp_le T [97, 99, 107, 32] (p + 1)
      unfold wdR
      generalize lcp T [97, 99, 107, 32] (p + 1) = x at h ⊢
      obtain ⟨h, -⟩ := h
      rcases (show x = 0 ∨ x = 1 ∨ x = 2 ∨ x = 3 ∨ x = 4 by have : x ≤ 4 := h; omega) with rfl | rfl | rfl | rfl | rfl <;> rfl
    · rw [if_neg c2, lcp_ne (a := 114) c2]
      by_cases c3 : chT T p = 111
      · rw [if_pos c3, lcp_ne (a := 112) (p := p) (by rw [c3]; decide), lcp_ne (a := 112) (p := p) (by rw [c3]; decide), lcp_eq (a := 111) c3, lcp_ne (a := 104) (p := p) (by rw [c3]; decide)]
        have h := lcp_le T [117, 116, 32] (p + 1)
        unfold wdR
        generalize lcp T [117, 116, 32] (p + 1) = x at h ⊢
        obtain ⟨h, -⟩ := h
        rcases (show x = 0 ∨ x = 1 ∨ x = 2 ∨ x = 3 by have : x ≤ 3 := h; omega) with rfl | rfl | rfl | rfl <;> rfl
      · rw [if_neg c3, lcp_ne (a := 111) c3]
        by_cases c4 : chT T p = 104
        · rw [if_pos c4, lcp_ne (a := 112) (p := p) (by rw [c4]; decide), lcp_ne (a := 112) (p := p) (by rw [c4]; decide), lcp_eq (a := 104) c4]
          have h := lcp_le T [111, 117, 114, 32] (p + 1)
          unfold wdR
          generalize lcp T [111, 117, 114, 32] (p + 1) = x at h ⊢
          obtain ⟨h, -⟩ := h
          rcases (show x = 0 ∨ x = 1 ∨ x = 2 ∨ x = 3 ∨ x = 4 by have : x ≤ 4 := h; omega) with rfl | rfl | rfl | rfl | rfl <;> rfl
        · rw [if_neg c4, lcp_ne (a := 104) c4]
          by_cases c5 : chT T p = 112
          · rw [if_pos c5, lcp_eq (a := 112) c5, lcp_eq (a := 112) c5]
            by_cases d1 : chT T (p + 1) = 114
            · rw [if_pos d1, lcp_eq (a := 114) d1, lcp_ne (a := 108) (by rw [d1]; decide)]
              have h := lcp_le T [105, 110, 116, 32] (p + 1 + 1)
              unfold wdR
              rw [show p + 2 = p + 1 + 1 from rfl]
              generalize lcp T [105, 110, 116, 32] (p + 1 + 1) = x at h ⊢
              obtain ⟨h, -⟩ := h
              rcases (show x = 0 ∨ x = 1 ∨ x = 2 ∨ x = 3 ∨ x = 4 by have : x ≤ 4 := h; omega) with rfl | rfl | rfl | rfl | rfl <;> rfl
            · rw [if_neg d1, lcp_ne (a := 114) d1]
              have h := lcp_le T [108, 97, 116, 101, 32] (p + 1)
              unfold wdR
              generalize lcp T [108, 97, 116, 101, 32] (p + 1) = x at h ⊢
              obtain ⟨h, -⟩ := h
              rcases (show x = 0 ∨ x = 1 ∨ x = 2 ∨ x = 3 ∨ x = 4 ∨ x = 5 by have : x ≤ 5 := h; omega) with rfl | rfl | rfl | rfl | rfl | rfl <;> rfl
          · rw [if_neg c5, lcp_ne (a := 112) c5, lcp_ne (a := 112) c5]
            rfl
/-- a word and a sign behind it -/
theorem lcp_snoc (T : TXV) (c : Nat) : ∀ (w : List Nat) (p : Nat), lcp T (w ++ [c]) p = if lcp T w p = w.length then w.length + (if chT T (p + w.length) = (c : Int) then 1 else 0) else lcp T w p
  | [], p => by
    rw [if_pos (show lcp T [] p = ([] : List Nat).length from rfl)]
    show (if chT T p = (c : Int) then 0 + 1 else 0) = 0 + (if chT T p = (c : Int) then 1 else 0)
    split <;> rfl
  | a :: w, p => by
    have ih := lcp_snoc T c w (p + 1)
    show (if chT T p = (a : Int) then lcp T (w ++ [c]) (p + 1) + 1 else 0) = _
    by_cases h : chT T p = (a : Int)
    · rw [if_pos h, lcp_eq h, ih, List.length_cons, show p + (w.length + 1) = p + 1 + w.length by omega]
      by_cases q : lcp T w (p + 1) = w.length
      · rw [if_pos q, if_pos (show lcp T w (p + 1) + 1 = w.length + 1 by omega)]; omega
      · rw [if_neg q, if_neg (show ¬ lcp T w (p + 1) + 1 = w.length + 1 by omega)]
    · rw [if_neg h, lcp_ne h, if_neg (by rw [List.length_cons]; omega)]
