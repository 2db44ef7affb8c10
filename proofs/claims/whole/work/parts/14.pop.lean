/-- how many of the sixteen low bits are set -/
def pop (n : Nat) : Nat := fb_ct (fun i => n.testBit i) 16
def swa (n : Nat) : Nat := n - ((n / 2 ^ 1) &&& 1431655765)
def swb (x : Nat) : Nat := (x &&& 858993459) + ((x / 2 ^ 2) &&& 858993459)
def swc (x : Nat) : Nat := (x + (x / 2 ^ 4)) &&& 252645135
def swN (n : Nat) : Nat := let x := swc (swb (swa n)); let y := x + x / 2 ^ 8; (y + y / 2 ^ 16) &&& 63
def pq (n : Nat) : Nat := n % 2 + n / 2 % 2 + n / 4 % 2 + n / 8 % 2 + n / 16 % 2 + n / 32 % 2 + n / 64 % 2 + n / 128 % 2
set_option maxRecDepth 100000 in
theorem sw_t0 : ∀ a, a < 64 → ∀ b, b < 256 → swN (256 * a + b) = pq a + pq b := by decide +kernel
set_option maxRecDepth 100000 in
theorem sw_t1 : ∀ a, a < 64 → ∀ b, b < 256 → swN (256 * (64 + a) + b) = pq (64 + a) + pq b := by decide +kernel
set_option maxRecDepth 100000 in
theorem sw_t2 : ∀ a, a < 64 → ∀ b, b < 256 → swN (256 * (128 + a) + b) = pq (128 + a) + pq b := by decide +kernel
set_option maxRecDepth 100000 in
theorem sw_t3 : ∀ a, a < 64 → ∀ b, b < 256 → swN (256 * (192 + a) + b) = pq (192 + a) + pq b := by decide +kernel
theorem sw_all {a b : Nat} (ha : a < 256) (hb : b < 256) : swN (256 * a + b) = pq a + pq b := by
  rcases (by omega : a < 64 ∨ (64 ≤ a ∧ a < 128) ∨ (128 ≤ a ∧ a < 192) ∨ 192 ≤ a) with h | ⟨h, h2⟩ | ⟨h, h2⟩ | h
  · exact sw_t0 a h b hb
  · have := sw_t1 (a - 64) (by omega) b hb
    rwa [show 64 + (a - 64) = a by omega] at this
  · have := sw_t2 (a - 128) (by omega) b hb
    rwa [show 128 + (a - 128) = a by omega] at this
  · have := sw_t3 (a - 192) (by omega) b hb
    rwa [show 192 + (a - 192) = a by omega] at this
theorem tb_mod (n i : Nat) : (if n.testBit i then 1 else 0) = n / 2 ^ i % 2 := by
  have h : n.testBit i = decide (n / 2 ^ i % 2 = 1) := Nat.testBit_eq_decide_div_mod_eq
  rw [h]
  by_cases q : n / 2 ^ i % 2 = 1
  · simp [q]
  · have : n / 2 ^ i % 2 = 0 := by omega
    simp [this]
theorem pop_pq {n : Nat} (h : n < 65536) : pop n = pq (n / 256) + pq (n % 256) := by
  unfold pop pq
  simp only [fb_ct, tb_mod]
  omega
theorem swN_ok {n : Nat} (h : n < 65536) : swN n = pop n := by
  have := sw_all (a := n / 256) (b := n % 256) (by omega) (by omega)
  rw [show 256 * (n / 256) + n % 256 = n by omega] at this
  rw [this, pop_pq h]
def sw1 (x : Int32) : Int32 := x - ((x.toUInt32 >>> ((nI 1).toUInt32 &&& Int32.toUInt32 31)).toInt32 &&& 1431655765)
def sw2 (x : Int32) : Int32 := (x &&& 858993459) + ((x.toUInt32 >>> ((nI 2).toUInt32 &&& Int32.toUInt32 31)).toInt32 &&& 858993459)
def sw3 (x : Int32) : Int32 := (x + (x.toUInt32 >>> ((nI 4).toUInt32 &&& Int32.toUInt32 31)).toInt32) &&& 252645135
def sw4 (x : Int32) : Int32 := x + (x.toUInt32 >>> ((nI 8).toUInt32 &&& Int32.toUInt32 31)).toInt32
def sw5 (x : Int32) : Int32 := x + (x.toUInt32 >>> ((nI 16).toUInt32 &&& Int32.toUInt32 31)).toInt32
def swr (x : Int32) : Int32 := sw5 (sw4 (sw3 (sw2 (sw1 x)))) &&& nI 63
theorem sw_u {n : Nat} (h : n < 2 ^ 32) (k : Nat) (hk : k < 32) : ((nI n).toUInt32 >>> ((nI k).toUInt32 &&& Int32.toUInt32 31)).toInt32 = nI (n / 2 ^ k) := pk_ushrN h (nI k) k (s_u k hk)
theorem swr_ok {n : Nat} (h : n < 65536) : swr (nI n) = nI (pop n) := by
  rw [← swN_ok h]
  have e1 : sw1 (nI n) = nI (swa n) := by
    unfold sw1 swa
    rw [sw_u (by omega) 1 (by decide), fa_lit 1431655765, nx_and, pk_sub]
    exact Nat.le_trans Nat.and_le_left (Nat.div_le_self _ _)
  have b1 : swa n < 65536 := by unfold swa; omega
  have e2 : sw2 (nI (swa n)) = nI (swb (swa n)) := by
    unfold sw2 swb
    rw [sw_u (by omega) 2 (by decide), fa_lit 858993459, nx_and, nx_and, nI_add]
  have b2 : swb (swa n) < 2 ^ 31 := by
    unfold swb
    have h1 : swa n &&& 858993459 ≤ 858993459 := Nat.and_le_right
    have h2 : swa n / 2 ^ 2 &&& 858993459 ≤ 858993459 := Nat.and_le_right
    omega
  have e3 : sw3 (nI (swb (swa n))) = nI (swc (swb (swa n))) := by
    unfold sw3 swc
    rw [sw_u (by omega) 4 (by decide), fa_lit 252645135, nI_add, nx_and]
  have b3 : swc (swb (swa n)) ≤ 252645135 := by unfold swc; exact Nat.and_le_right
  unfold swr swN
  rw [e1, e2, e3]
  generalize swc (swb (swa n)) = x at b3 ⊢
  unfold sw5 sw4
  rw [sw_u (by omega) 8 (by decide), nI_add, sw_u (by omega) 16 (by decide), nI_add, nx_and]
theorem pop_le (n : Nat) : pop n ≤ 16 := fb_ct_le _ _
