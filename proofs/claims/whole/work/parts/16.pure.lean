/-- a whole number as an int -/
def iN (d : Int) : Int32 := Int32.ofInt d
theorem iN_nI (n : Nat) : iN (n : Int) = nI n := by
  unfold iN nI
  first | rfl | exact Int32.ofInt_eq_ofNat | simp
theorem iN_toInt {d : Int} (h1 : -2147483648 ≤ d) (h2 : d < 2147483648) : (iN d).toInt = d := by
  unfold iN
  rw [Int32.toInt_ofInt]
  have hz : (Int32.size : Nat) = 4294967296 := rfl
  exact Int.bmod_eq_of_le (by omega) (by omega)
theorem iN_add (a b : Int) : iN a + iN b = iN (a + b) := by unfold iN; exact (Int32.ofInt_add a b).symm
theorem iN_sub (a b : Int) : iN a - iN b = iN (a - b) := by unfold iN; exact (Int32.ofInt_sub a b).symm
theorem iN_neg (a : Int) : - iN a = iN (-a) := by unfold iN; exact (Int32.ofInt_neg a).symm
theorem iN_lt {a b : Int} (h1 : -2147483648 ≤ a) (h2 : a < 2147483648) (h3 : -2147483648 ≤ b) (h4 : b < 2147483648) : iN a < iN b ↔ a < b := by
  rw [Int32.lt_iff_toInt_lt, iN_toInt h1 h2, iN_toInt h3 h4]
theorem iN_le {a b : Int} (h1 : -2147483648 ≤ a) (h2 : a < 2147483648) (h3 : -2147483648 ≤ b) (h4 : b < 2147483648) : iN a ≤ iN b ↔ a ≤ b := by
  rw [Int32.le_iff_toInt_le, iN_toInt h1 h2, iN_toInt h3 h4]
theorem iN_eq {a b : Int} (h1 : -2147483648 ≤ a) (h2 : a < 2147483648) (h3 : -2147483648 ≤ b) (h4 : b < 2147483648) : iN a = iN b ↔ a = b := by
  rw [← Int32.toInt_inj, iN_toInt h1 h2, iN_toInt h3 h4]
theorem iN_of (x : Int32) : ∃ d : Int, -2147483648 ≤ d ∧ d < 2147483648 ∧ x = iN d := by
  refine ⟨x.toInt, Int32.le_toInt x, Int32.toInt_lt x, ?_⟩
  unfold iN
  exact (Int32.ofInt_toInt x).symm
/-- sixteen places as a number -/
def rN (q : Nat → Bool) : Nat := fb_sm (fun x => if q x then 2 ^ x else 0) 16
theorem rN_part (q : Nat → Bool) : ∀ n, fb_sm (fun x => if q x then 2 ^ x else 0) n < 2 ^ n ∧ ∀ x, (fb_sm (fun x => if q x then 2 ^ x else 0) n).testBit x = (decide (x < n) && q x)
  | 0 => ⟨by simp [fb_sm], fun x => by simp [fb_sm]⟩
  | n + 1 => by
    obtain ⟨h1, h2⟩ := rN_part q n
    rw [fb_sm_succ]
    have e : fb_sm (fun x => if q x then 2 ^ x else 0) n + (if q n then 2 ^ n else 0) = 2 ^ n * (if q n then 1 else 0) + fb_sm (fun x => if q x then 2 ^ x else 0) n := by
      by_cases hq : q n <;> simp [hq] <;> omega
    rw [e]
    refine ⟨?_, fun x => ?_⟩
    · rw [Nat.pow_succ]
      by_cases hq : q n <;> simp [hq] <;> omega
    · rw [Nat.testBit_two_pow_mul_add _ h1]
      by_cases hx : x < n
      · rw [if_pos hx, h2]
        have : x < n + 1 := by omega
        simp [hx, this]
      · rw [if_neg hx]
        by_cases hn : x = n
        · subst hn
          by_cases hq : q x <;> simp [hq]
        · have h3 : ¬ x < n + 1 := by omega
          obtain ⟨d, hd⟩ : ∃ d, x - n = d + 1 := ⟨x - n - 1, by omega⟩
          rw [hd]
          by_cases hq : q n <;> simp [hq, h3, Nat.testBit_succ]
theorem rN_lt (q : Nat → Bool) : rN q < 65536 := (rN_part q 16).1
theorem rN_bit (q : Nat → Bool) (x : Nat) : (rN q).testBit x = (decide (x < 16) && q x) := (rN_part q 16).2 x
theorem rN_ext {n : Nat} {q : Nat → Bool} (hn : n < 65536) (h : ∀ x, x < 16 → n.testBit x = q x) : n = rN q := by
  apply Nat.eq_of_testBit_eq
  intro x
  rw [rN_bit]
  by_cases hx : x < 16
  · simp [hx, h x hx]
  · have : n.testBit x = false := Nat.testBit_lt_two_pow (Nat.lt_of_lt_of_le hn (Nat.pow_le_pow_right (by decide : 2 > 0) (show 16 ≤ x by omega)))
    simp [hx, this]
theorem rN_cong {q r : Nat → Bool} (h : ∀ x, x < 16 → q x = r x) : rN q = rN r := rN_ext (rN_lt q) (fun x hx => by rw [rN_bit]; simp [hx, h x hx])
theorem rN_inj {q r : Nat → Bool} (h : rN q = rN r) : ∀ x, x < 16 → q x = r x := fun x hx => by
  have := congrArg (fun n => n.testBit x) h
  simpa [rN_bit, hx] using this
theorem pop_rN (q : Nat → Bool) : pop (rN q) = fb_ct q 16 := fb_ct_cong (fun k hk => by rw [rN_bit]; simp [hk])
theorem rN_and (q r : Nat → Bool) : rN q &&& rN r = rN (fun x => q x && r x) := rN_ext (Nat.lt_of_le_of_lt Nat.and_le_left (rN_lt q)) (fun x hx => by rw [Nat.testBit_and, rN_bit, rN_bit]; simp [hx])
theorem rN_or (q r : Nat → Bool) : rN q ||| rN r = rN (fun x => q x || r x) := rN_ext (Nat.or_lt_two_pow (n := 16) (rN_lt q) (rN_lt r)) (fun x hx => by rw [Nat.testBit_or, rN_bit, rN_bit]; simp [hx])
theorem rN_xor (q r : Nat → Bool) : rN q ^^^ rN r = rN (fun x => q x ^^ r x) := rN_ext (Nat.xor_lt_two_pow (n := 16) (rN_lt q) (rN_lt r)) (fun x hx => by rw [Nat.testBit_xor, rN_bit, rN_bit]; simp [hx])
theorem rN_flip (q : Nat → Bool) {a : Nat} (ha : a < 16) : rN q ^^^ 2 ^ a = rN (fun x => q x ^^ decide (x = a)) := rN_ext (Nat.xor_lt_two_pow (n := 16) (rN_lt q) (Nat.pow_lt_pow_right (by decide) ha)) (fun x hx => by rw [fb_bit_flip, rN_bit]; simp [hx])
theorem rN_shr (q : Nat → Bool) (a : Nat) : rN q >>> a = rN (fun x => decide (x + a < 16) && q (x + a)) := rN_ext (Nat.lt_of_le_of_lt (by rw [Nat.shiftRight_eq_div_pow]; exact Nat.div_le_self _ _) (rN_lt q)) (fun x hx => by rw [Nat.testBit_shiftRight, rN_bit]; rw [Nat.add_comm a x])
theorem rN_shl (q : Nat → Bool) (a : Nat) : (rN q <<< a) % 65536 = rN (fun x => decide (a ≤ x) && q (x - a)) := rN_ext (Nat.mod_lt _ (by decide)) (fun x hx => by
  rw [show (65536 : Nat) = 2 ^ 16 from rfl, Nat.testBit_mod_two_pow, Nat.testBit_shiftLeft, rN_bit]
  have : x - a < 16 := by omega
  simp [hx, this])
/-- rows of a set of 128 places -/
def Rows (f : Nat → Int32) (S : Nat → Bool) : Prop := ∀ y, y < 8 → f y = nI (rN (fun x => S (16 * y + x)))
theorem ct_rows (S : Nat → Bool) : ∀ n, fb_ct S (16 * n) = fb_sm (fun y => fb_ct (fun x => S (16 * y + x)) 16) n
  | 0 => rfl
  | n + 1 => by rw [show 16 * (n + 1) = 16 * n + 16 by omega, fb_ct_split, ct_rows S n, fb_sm_succ]
/-- a plate: its ink, its shift, its stars -/
abbrev PV : Type := Nat × Int × Int × (Nat → Bool)
/-- a sheet: wetness, smears, place in the rack; printed and meant, by ink and place -/
abbrev TV : Type := (Nat × Nat × Int) × (Nat → Nat → Bool) × (Nat → Nat → Bool)
/-- a shop: how many plates, sheets and hours; drops; plates; sheets -/
abbrev SV : Type := (Nat × Nat × Nat) × (Nat → Nat) × (Nat → PV) × (Nat → TV)
/-- a place moved by columns and rows is on the sheet -/
def onB (k : Nat) (dx dy : Int) : Bool := decide (0 ≤ ((k % 16 : Nat) : Int) + dx ∧ ((k % 16 : Nat) : Int) + dx < 16 ∧ 0 ≤ ((k / 16 : Nat) : Int) + dy ∧ ((k / 16 : Nat) : Int) + dy < 8)
/-- .. and is there -/
def mvB (k : Nat) (dx dy : Int) : Nat := 16 * (((k / 16 : Nat) : Int) + dy).toNat + (((k % 16 : Nat) : Int) + dx).toNat
def cntB (S : Nat → Bool) : Nat := fb_ct S 128
def besB (S : Nat → Bool) (dx dy : Int) : Nat := fb_ct (fun k => S k && !onB k dx dy) 128
def matB (S U : Nat → Bool) (dx dy : Int) : Nat := fb_ct (fun k => S k && (onB k dx dy && U (mvB k dx dy))) 128
/-- a row moved by columns -/
def mrB (q : Nat → Bool) (dx : Int) : Nat → Bool := fun x => decide (0 ≤ (x : Int) - dx ∧ (x : Int) - dx < 16) && q ((x : Int) - dx).toNat
theorem cntB_rows (S : Nat → Bool) : cntB S = fb_sm (fun y => fb_ct (fun x => S (16 * y + x)) 16) 8 := ct_rows S 8
/-- counting what is moved: within a row, from either end -/
theorem ct_shift (q r : Nat → Bool) {dx : Int} (h1 : -3 ≤ dx) (h2 : dx ≤ 3) : fb_ct (fun x => mrB q dx x && r x) 16 = fb_ct (fun x => q x && (decide (0 ≤ (x : Int) + dx ∧ (x : Int) + dx < 16) && r ((x : Int) + dx).toNat)) 16 := by
  rcases (by omega : dx = -3 ∨ dx = -2 ∨ dx = -1 ∨ dx = 0 ∨ dx = 1 ∨ dx = 2 ∨ dx = 3) with rfl | rfl | rfl | rfl | rfl | rfl | rfl <;> simp [fb_ct, mrB] <;> simp only [show ∀ a b : Nat, ((a : Int) + b).toNat = a + b from fun a b => by omega] <;> omega
