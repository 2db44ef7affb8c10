theorem i_lt0 (x : Int32) : x < 0 ↔ x.toInt < 0 := by rw [Int32.lt_iff_toInt_lt]; rfl
theorem i_le {n : Nat} (hn : n < 2 ^ 31) (x : Int32) : nI n ≤ x ↔ (n : Int) ≤ x.toInt := by rw [Int32.le_iff_toInt_le, nI_toInt hn]
theorem i_lt {n : Nat} (hn : n < 2 ^ 31) (x : Int32) : x < nI n ↔ x.toInt < (n : Int) := by rw [Int32.lt_iff_toInt_lt, nI_toInt hn]
theorem i_ge {n : Nat} (hn : n < 2 ^ 31) (x : Int32) : x ≤ nI n ↔ x.toInt ≤ (n : Int) := by rw [Int32.le_iff_toInt_le, nI_toInt hn]
theorem i_gt {n : Nat} (hn : n < 2 ^ 31) (x : Int32) : nI n < x ↔ (n : Int) < x.toInt := by rw [Int32.lt_iff_toInt_lt, nI_toInt hn]
def isPl (x y : Int32) : Bool := decide (0 ≤ x.toInt ∧ x.toInt < 16 ∧ 0 ≤ y.toInt ∧ y.toInt < 8)
def isSh (x y : Int32) : Bool := decide (-3 ≤ x.toInt ∧ x.toInt ≤ 3 ∧ -3 ≤ y.toInt ∧ y.toInt ≤ 3)
theorem sh1 : ∀ x, x < 31 → nI 1 <<< (nI x &&& 31) = nI (2 ^ x) := by decide +kernel
theorem shl_N {n k : Nat} (hn : n < 65536) (hk : k < 4) : nI n <<< (nI k &&& 31) = nI (n <<< k) := by
  rw [Nat.shiftLeft_eq]
  have hs : ∀ k, k < 4 → ((nI k &&& 31).toBitVec.smod 32).toNat = k := by decide +kernel
  have hp : ∀ k, k < 4 → 2 ^ k ≤ 8 := by decide
  have := hp k hk
  exact pk_shlN (nI k &&& 31) k (hs k hk) (Nat.lt_of_le_of_lt (Nat.mul_le_mul_left n this) (by omega))
theorem shr_N {n k : Nat} (hn : n < 65536) (hk : k < 4) : nI n >>> (nI k &&& 31) = nI (n >>> k) := by
  rw [Nat.shiftRight_eq_div_pow]
  have hs : ∀ k, k < 4 → ((nI k &&& 31).toBitVec.smod 32).toNat = k := by decide +kernel
  exact pk_shrN (by omega) (nI k &&& 31) k (hs k hk)
theorem nI_and1 (n x : Nat) (hx : x < 31) : nI n &&& nI 1 <<< (nI x &&& 31) = nI (n &&& 2 ^ x) := by rw [sh1 x hx, nx_and]
abbrev jPlate (g : jG) (r : Nat) : jK := kO 5 [fun _ => .ref (jb g + r), .int, .int, .int]
/-- a plate in the memory -/
def RcP (t : jT) (i r : Nat) (p : PV) : Prop := t i 1 = nI p.1 ∧ t i 2 = iN p.2.1 ∧ t i 3 = iN p.2.2.1 ∧ Rows (t r) p.2.2.2
theorem mrB_on (S : Nat → Bool) {dx : Int} (dy : Int) (h1 : -3 ≤ dx) (h2 : dx ≤ 3) {y : Nat} (hy : y < 8) (r : Nat → Bool) :
    (if 0 ≤ (y : Int) + dy ∧ (y : Int) + dy < 8 then fb_ct (fun x => mrB (fun x => S (16 * y + x)) dx x && r x) 16 else 0) = fb_ct (fun x => S (16 * y + x) && (onB (16 * y + x) dx dy && r (((16 * y + x) % 16 : Nat) + dx).toNat)) 16 := by
  by_cases h : 0 ≤ (y : Int) + dy ∧ (y : Int) + dy < 8
  · rw [if_pos h, ct_shift _ _ h1 h2]
    apply fb_ct_cong
    intro x hx
    have e1 : (16 * y + x) % 16 = x := by omega
    have e2 : (16 * y + x) / 16 = y := by omega
    unfold onB
    rw [e1, e2]
    by_cases hq : 0 ≤ (x : Int) + dx ∧ (x : Int) + dx < 16
    · have : 0 ≤ (x : Int) + dx ∧ (x : Int) + dx < 16 ∧ 0 ≤ (y : Int) + dy ∧ (y : Int) + dy < 8 := ⟨hq.1, hq.2, h.1, h.2⟩
      simp [hq, this]
    · have : ¬ (0 ≤ (x : Int) + dx ∧ (x : Int) + dx < 16 ∧ 0 ≤ (y : Int) + dy ∧ (y : Int) + dy < 8) := fun q => hq ⟨q.1, q.2.1⟩
      rw [decide_eq_false hq, decide_eq_false this]
  · rw [if_neg h]
    symm
    rw [fb_ct_zero]
    intro x hx
    have e2 : (16 * y + x) / 16 = y := by omega
    unfold onB
    rw [e2]
    have : ¬ (0 ≤ (((16 * y + x) % 16 : Nat) : Int) + dx ∧ (((16 * y + x) % 16 : Nat) : Int) + dx < 16 ∧ 0 ≤ (y : Int) + dy ∧ (y : Int) + dy < 8) := fun q => h q.2.2
    rw [decide_eq_false this]
    simp
/-- as many of the moved rows' places as there are moved stars on the sheet -/
def onN (S : Nat → Bool) (dx dy : Int) (y : Nat) : Nat := if 0 ≤ (y : Int) + dy ∧ (y : Int) + dy < 8 then fb_ct (mrB (fun x => S (16 * y + x)) dx) 16 else 0
def maN (S U : Nat → Bool) (dx dy : Int) (y : Nat) : Nat := if 0 ≤ (y : Int) + dy ∧ (y : Int) + dy < 8 then fb_ct (fun x => mrB (fun x => S (16 * y + x)) dx x && U (16 * ((y : Int) + dy).toNat + x)) 16 else 0
theorem besB_on (S : Nat → Bool) {dx : Int} (dy : Int) (h1 : -3 ≤ dx) (h2 : dx ≤ 3) : fb_sm (onN S dx dy) 8 + besB S dx dy = cntB S := by
  have e : fb_sm (onN S dx dy) 8 = fb_ct (fun k => S k && onB k dx dy) 128 := by
    rw [show (128 : Nat) = 16 * 8 from rfl, ct_rows]
    apply fb_sm_cong
    intro y hy
    have := mrB_on S dy h1 h2 hy (fun _ => true)
    simp only [Bool.and_true] at this
    exact this
  rw [e]
  unfold besB cntB
  rw [← fb_ct_or]
  · apply fb_ct_cong
    intro k _
    cases S k <;> cases onB k dx dy <;> rfl
  · intro k _
    cases S k <;> cases onB k dx dy <;> simp
theorem matB_on (S U : Nat → Bool) {dx : Int} (dy : Int) (h1 : -3 ≤ dx) (h2 : dx ≤ 3) : fb_sm (maN S U dx dy) 8 = matB S U dx dy := by
  unfold matB
  rw [show (128 : Nat) = 16 * 8 from rfl, ct_rows]
  apply fb_sm_cong
  intro y hy
  have := mrB_on S dy h1 h2 hy (fun x => U (16 * ((y : Int) + dy).toNat + x))
  unfold maN
  rw [this]
  apply fb_ct_cong
  intro x hx
  have e2 : (16 * y + x) / 16 = y := by omega
  unfold mvB
  rw [e2]

/-- is there such a place -/
theorem s_isPlace {l : Launch} {g : jG} (hok : jOk g) (hst : l.stackTraces = false) {z : Option Nat} {sk : jS} {t : jT} (x y : Int32) : jMet l g mX9_isPlace 1 0 0 [.int x, .int y] z sk t (jE (some (.int (nI (isPl x y).toNat))) z sk t) := by
  refine j_body (lv := [some (.int x), some (.int y)]) i_X9_isPlace hok hst (fun p e s m args below meth c X => ?_)
  have no : ∀ h : isPl x y = false, J p l e (jR 1 0 0) s m args below meth c (jQm below args s g 0 0 (jE (some (.int (nI (isPl x y).toNat))) z sk t)) 2 g 0 0 z sk t 24 [some (.int x), some (.int y)] [] := fun h => by
    refine j_iconst X (v := (nI 0)) dX9_isPlace_24 (by decide) ?_
    exact j_iret X dX9_isPlace_25 rfl rfl ⟨by rw [h]; rfl, rfl, rfl, rfl⟩
  refine j_iload_n X (i := 0) dX9_isPlace_0 rfl rfl ?_
  refine j_if_lt X (tgt := 24) dX9_isPlace_1 (by decide) (fun h1 => ?_) (fun h1 => ?_)
  · exact no (decide_eq_false (by rw [i_lt0] at h1; omega))
  refine j_iload_n X (i := 0) dX9_isPlace_4 rfl rfl ?_
  refine j_bipush X (v := (nI 16)) dX9_isPlace_5 (by decide) ?_
  refine j_icmp_ge X (tgt := 24) dX9_isPlace_7 (by decide) (fun h7 => ?_) (fun h7 => ?_)
  · exact no (decide_eq_false (by rw [i_le (by decide)] at h7; omega))
  refine j_iload_n X (i := 1) dX9_isPlace_10 rfl rfl ?_
  refine j_if_lt X (tgt := 24) dX9_isPlace_11 (by decide) (fun h11 => ?_) (fun h11 => ?_)
  · exact no (decide_eq_false (by rw [i_lt0] at h11; omega))
  refine j_iload_n X (i := 1) dX9_isPlace_14 rfl rfl ?_
  refine j_bipush X (v := (nI 8)) dX9_isPlace_15 (by decide) ?_
  refine j_icmp_ge X (tgt := 24) dX9_isPlace_17 (by decide) (fun h17 => ?_) (fun h17 => ?_)
  · exact no (decide_eq_false (by rw [i_le (by decide)] at h17; omega))
  rw [i_lt0] at h1 h11
  rw [i_le (by decide)] at h7 h17
  refine j_iconst X (v := (nI 1)) dX9_isPlace_20 (by decide) ?_
  refine j_goto X (tgt := 25) dX9_isPlace_21 (by decide) ?_
  exact j_iret X dX9_isPlace_25 rfl rfl ⟨by rw [show isPl x y = true from decide_eq_true (by omega)]; rfl, rfl, rfl, rfl⟩

theorem s_isStarAt {l : Launch} {g : jG} (hok : jOk g) (hst : l.stackTraces = false) {z : Option Nat} {sk : jS} {t : jT} {i r : Nat} {S : Nat → Bool} (hT : sk i = some (jPlate g r)) (hR : sk r = some (kA .int 8)) (hS : Rows (t r) S) {x y : Nat} (hx : x < 16) (hy : y < 8) : jMet l g mX5_isStarAt 1 0 0 [.ref (jb g + i), .int (nI x), .int (nI y)] z sk t (jE (some (.int (nI (S (16 * y + x)).toNat))) z sk t) := by
  refine j_body (lv := [some (.ref (jb g + i)), some (.int (nI x)), some (.int (nI y))]) i_X5_isStarAt hok hst (fun p e s m args below meth c X => ?_)
  refine j_aload_n X (i := 0) dX5_isStarAt_0 rfl rfl ?_
  refine jFd.get X fd_X5_9 hT rfl dX5_isStarAt_1 ?_
  refine j_iload_n X (i := 2) dX5_isStarAt_4 rfl rfl ?_
  refine j_iald X hR rfl hy (by decide) dX5_isStarAt_5 ?_
  refine j_iconst X (v := (nI 1)) dX5_isStarAt_6 (by decide) ?_
  refine j_iload_n X (i := 1) dX5_isStarAt_7 rfl rfl ?_
  refine j_ishl X dX5_isStarAt_8 ?_
  rw [hS y hy]
  refine j_iand X dX5_isStarAt_9 ?_
  rw [nI_and1 _ _ (by omega)]
  have hb : (rN (fun x => S (16 * y + x)) &&& 2 ^ x = 0) ↔ S (16 * y + x) = false := by rw [fb_bit_nat, rN_bit]; simp [hx]
  have hlt : rN (fun x => S (16 * y + x)) &&& 2 ^ x < 2 ^ 31 := Nat.lt_of_le_of_lt Nat.and_le_left (Nat.lt_trans (rN_lt _) (by decide))
  refine j_if_eq X (tgt := 17) dX5_isStarAt_10 (by decide) (fun h10 => ?_) (fun h10 => ?_)
  · have h0 : S (16 * y + x) = false := hb.mp ((nI_eq hlt (by decide)).mp h10)
    refine j_iconst X (v := (nI 0)) dX5_isStarAt_17 (by decide) ?_
    exact j_iret X dX5_isStarAt_18 rfl rfl ⟨by rw [h0]; rfl, rfl, rfl, rfl⟩
  · have h0 : S (16 * y + x) = true := by
      cases hq : S (16 * y + x) with
      | true => rfl
      | false => exact absurd (by rw [hb.mpr hq]; rfl) h10
    refine j_iconst X (v := (nI 1)) dX5_isStarAt_13 (by decide) ?_
    refine j_goto X (tgt := 18) dX5_isStarAt_14 (by decide) ?_
    exact j_iret X dX5_isStarAt_18 rfl rfl ⟨by rw [h0]; rfl, rfl, rfl, rfl⟩

theorem s_turnStar {l : Launch} {g : jG} (hok : jOk g) (hst : l.stackTraces = false) {z : Option Nat} {sk : jS} {t : jT} {i r : Nat} {S : Nat → Bool} (hT : sk i = some (jPlate g r)) (hR : sk r = some (kA .int 8)) (hS : Rows (t r) S) {x y : Nat} (hx : x < 16) (hy : y < 8) : jMet l g mX5_turnStar 1 0 0 [.ref (jb g + i), .int (nI x), .int (nI y)] z sk t (jE none z sk (jU t r y (nI (rN (fun x2 => S (16 * y + x2) ^^ decide (x2 = x)))))) := by
  refine j_body (lv := [some (.ref (jb g + i)), some (.int (nI x)), some (.int (nI y))]) i_X5_turnStar hok hst (fun p e s m args below meth c X => ?_)
  refine j_aload_n X (i := 0) dX5_turnStar_0 rfl rfl ?_
  refine jFd.get X fd_X5_9 hT rfl dX5_turnStar_1 ?_
  refine j_iload_n X (i := 2) dX5_turnStar_4 rfl rfl ?_
  refine j_dup2 X dX5_turnStar_5 rfl rfl ?_
  refine j_iald X hR rfl hy (by decide) dX5_turnStar_6 ?_
  refine j_iconst X (v := (nI 1)) dX5_turnStar_7 (by decide) ?_
  refine j_iload_n X (i := 1) dX5_turnStar_8 rfl rfl ?_
  refine j_ishl X dX5_turnStar_9 ?_
  rw [hS y hy, sh1 x (by omega)]
  refine j_ixor X dX5_turnStar_10 ?_
  rw [nx_xor, rN_flip _ hx]
  refine j_iast X hR rfl hy (by decide) dX5_turnStar_11 ?_
  exact j_vret X dX5_turnStar_12 rfl ⟨rfl, rfl, rfl, rfl⟩

theorem s_countStars {l : Launch} {g : jG} (hok : jOk g) (hst : l.stackTraces = false) {z : Option Nat} {sk : jS} {t : jT} {i r : Nat} {S : Nat → Bool} (hT : sk i = some (jPlate g r)) (hR : sk r = some (kA .int 8)) (hS : Rows (t r) S) : jMet l g mX5_countStars 2 0 0 [.ref (jb g + i)] z sk t (jE (some (.int (nI (cntB S)))) z sk t) := by
  refine j_body (lv := [some (.ref (jb g + i)), none, none]) i_X5_countStars hok hst (fun p e s m args below meth c X => ?_)
  refine j_iconst X (v := (nI 0)) dX5_countStars_0 (by decide) ?_
  refine j_istore_n X (i := 1) dX5_countStars_1 rfl (by decide) rfl ?_
  refine j_iconst X (v := (nI 0)) dX5_countStars_2 (by decide) ?_
  refine j_istore_n X (i := 2) dX5_countStars_3 rfl (by decide) rfl ?_
  have key : ∀ k, k ≤ 8 → J p l e (jR 2 0 0) s m args below meth c (jQm below args s g 0 0 (jE (some (.int (nI (cntB S)))) z sk t)) 3 g 0 0 z sk t 4 [some (.ref (jb g + i)), some (.int (nI (fb_sm (fun y => fb_ct (fun x => S (16 * y + x)) 16) k))), some (.int (nI k))] [] := by
    refine up_loop ?_ ?_
    · refine j_iload_n X (i := 2) dX5_countStars_4 rfl rfl ?_
      refine j_bipush X (v := (nI 8)) dX5_countStars_5 (by decide) ?_
      refine j_icmp_ge X (tgt := 28) dX5_countStars_7 (by decide) (fun _ => ?_) (fun h => absurd (nI_le (Nat.le_refl _) (by decide)) h)
      refine j_iload_n X (i := 1) dX5_countStars_28 rfl rfl ?_
      exact j_iret X dX5_countStars_29 rfl rfl ⟨by rw [cntB_rows], rfl, rfl, rfl⟩
    · intro k hk ih
      refine j_iload_n X (i := 2) dX5_countStars_4 rfl rfl ?_
      refine j_bipush X (v := (nI 8)) dX5_countStars_5 (by decide) ?_
      refine j_icmp_ge X (tgt := 28) dX5_countStars_7 (by decide) (fun h => absurd h (nI_ge hk (by decide))) (fun _ => ?_)
      refine j_iload_n X (i := 1) dX5_countStars_10 rfl rfl ?_
      refine j_aload_n X (i := 0) dX5_countStars_11 rfl rfl ?_
      refine jFd.get X fd_X5_9 hT rfl dX5_countStars_12 ?_
      refine j_iload_n X (i := 2) dX5_countStars_15 rfl rfl ?_
      refine j_iald X hR rfl hk (by decide) dX5_countStars_16 ?_
      rw [hS k hk]
      refine j_callS X (s_bitCount hok hst (rN_lt _)) i_J6_bitCount_0f7a4 tw_2_75 tw_2_76 dX5_countStars_17 ?_ 
      rw [pop_rN]
      refine j_iadd X dX5_countStars_20 ?_
      rw [nI_add, ← fb_sm_succ (fun y => fb_ct (fun x => S (16 * y + x)) 16)]
      refine j_istore_n X (i := 1) dX5_countStars_21 rfl (by decide) rfl ?_
      refine j_iinc X (i := 2) (v := (nI (k + 1))) dX5_countStars_22 rfl (nI_1 k) (by decide) rfl ?_
      refine j_goto X (tgt := 4) dX5_countStars_25 (by decide) ?_
      exact ih
  exact key 0 (Nat.zero_le _)

theorem s_movedRow {l : Launch} {g : jG} (hok : jOk g) (hst : l.stackTraces = false) {z : Option Nat} {sk : jS} {t : jT} {i r : Nat} {S : Nat → Bool} (hT : sk i = some (jPlate g r)) (hR : sk r = some (kA .int 8)) (hS : Rows (t r) S) {y : Nat} (hy : y < 8) {dx : Int} (h1 : -3 ≤ dx) (h2 : dx ≤ 3) : jMet l g mX5_movedRow 1 0 0 [.ref (jb g + i), .int (nI y), .int (iN dx)] z sk t (jE (some (.int (nI (rN (mrB (fun x => S (16 * y + x)) dx))))) z sk t) := by
  refine j_body (lv := [some (.ref (jb g + i)), some (.int (nI y)), some (.int (iN dx))]) i_X5_movedRow hok hst (fun p e s m args below meth c X => ?_)
  refine j_iload_n X (i := 2) dX5_movedRow_0 rfl rfl ?_
  refine j_if_ge X (tgt := 16) dX5_movedRow_1 (by decide) (fun h1_1 => ?_) (fun h1_1 => ?_)
  · have hd : 0 ≤ dx := by
      have := (iN_le (a := 0) (b := dx) (by decide) (by decide) (by omega) (by omega)).mp h1_1
      exact this
    obtain ⟨a, ha⟩ : ∃ a : Nat, dx = a := ⟨dx.toNat, by omega⟩
    subst ha
    rw [iN_nI]
    refine j_aload_n X (i := 0) dX5_movedRow_16 rfl rfl ?_
    refine jFd.get X fd_X5_9 hT rfl dX5_movedRow_17 ?_
    refine j_iload_n X (i := 1) dX5_movedRow_20 rfl rfl ?_
    refine j_iald X hR rfl hy (by decide) dX5_movedRow_21 ?_
    refine j_iload_n X (i := 2) dX5_movedRow_22 rfl rfl ?_
    rw [hS y hy]
    refine j_ishl X dX5_movedRow_23 ?_
    rw [shl_N (rN_lt _) (by omega)]
    refine j_ldc X dX5_movedRow_24 tw_2_74 ?_
    rw [fa_lit 65535]
    refine j_iand X dX5_movedRow_26 ?_
    rw [nx_and, show (65535 : Nat) = 2 ^ 16 - 1 from rfl, Nat.and_two_pow_sub_one_eq_mod, show (2 ^ 16 : Nat) = 65536 from rfl, rN_shl]
    refine j_iret X dX5_movedRow_27 rfl rfl ⟨?_, rfl, rfl, rfl⟩
    refine congrArg (fun n => some (Value.int (nI n))) (rN_cong fun x hx => ?_)
    unfold mrB
    by_cases q : a ≤ x
    · have : 0 ≤ (x : Int) - a ∧ (x : Int) - a < 16 := by omega
      rw [decide_eq_true q, decide_eq_true this, show ((x : Int) - a).toNat = x - a by omega]
    · have : ¬ (0 ≤ (x : Int) - a ∧ (x : Int) - a < 16) := by omega
      rw [decide_eq_false q, decide_eq_false this]; rfl
  · have hd : dx < 0 := by
      refine Int.not_le.mp fun q => h1_1 ?_
      exact (iN_le (a := 0) (b := dx) (by decide) (by decide) (by omega) (by omega)).mpr q
    obtain ⟨a, ha⟩ : ∃ a : Nat, dx = -(a : Int) := ⟨(-dx).toNat, by omega⟩
    subst ha
    refine j_aload_n X (i := 0) dX5_movedRow_4 rfl rfl ?_
    refine jFd.get X fd_X5_9 hT rfl dX5_movedRow_5 ?_
    refine j_iload_n X (i := 1) dX5_movedRow_8 rfl rfl ?_
    refine j_iald X hR rfl hy (by decide) dX5_movedRow_9 ?_
    rw [hS y hy]
    refine j_iload_n X (i := 2) dX5_movedRow_10 rfl rfl ?_
    refine j_ineg X dX5_movedRow_11 ?_
    rw [iN_neg, Int.neg_neg, iN_nI]
    refine j_ishr X dX5_movedRow_12 ?_
    rw [shr_N (rN_lt _) (by omega), rN_shr]
    refine j_goto X (tgt := 27) dX5_movedRow_13 (by decide) ?_
    refine j_iret X dX5_movedRow_27 rfl rfl ⟨?_, rfl, rfl, rfl⟩
    refine congrArg (fun n => some (Value.int (nI n))) (rN_cong fun x hx => ?_)
    unfold mrB
    by_cases q : x + a < 16
    · have : 0 ≤ (x : Int) - -(a : Int) ∧ (x : Int) - -(a : Int) < 16 := by omega
      rw [decide_eq_true q, decide_eq_true this, show ((x : Int) - -(a : Int)).toNat = x + a by omega]
    · have : ¬ (0 ≤ (x : Int) - -(a : Int) ∧ (x : Int) - -(a : Int) < 16) := by omega
      rw [decide_eq_false q, decide_eq_false this]; rfl

theorem s_countBeside {l : Launch} {g : jG} (hok : jOk g) (hst : l.stackTraces = false) {z : Option Nat} {sk : jS} {t : jT} {i r : Nat} {S : Nat → Bool} (hT : sk i = some (jPlate g r)) (hR : sk r = some (kA .int 8)) (hS : Rows (t r) S) {dx dy : Int} (h2 : t i 2 = iN dx) (h3 : t i 3 = iN dy) (a1 : -3 ≤ dx) (a2 : dx ≤ 3) (a3 : -3 ≤ dy) (a4 : dy ≤ 3) : jMet l g mX5_countBeside 3 0 0 [.ref (jb g + i)] z sk t (jE (some (.int (nI (besB S dx dy)))) z sk t) := by
  refine j_body (lv := [some (.ref (jb g + i)), none, none]) i_X5_countBeside hok hst (fun p e s m args below meth c X => ?_)
  refine j_iconst X (v := (nI 0)) dX5_countBeside_0 (by decide) ?_
  refine j_istore_n X (i := 1) dX5_countBeside_1 rfl (by decide) rfl ?_
  refine j_iconst X (v := (nI 0)) dX5_countBeside_2 (by decide) ?_
  refine j_istore_n X (i := 2) dX5_countBeside_3 rfl (by decide) rfl ?_
  have key : ∀ k, k ≤ 8 → J p l e (jR 3 0 0) s m args below meth c (jQm below args s g 0 0 (jE (some (.int (nI (besB S dx dy)))) z sk t)) 3 g 0 0 z sk t 4 [some (.ref (jb g + i)), some (.int (nI (fb_sm (onN S dx dy) k))), some (.int (nI k))] [] := by
    refine up_loop ?_ ?_
    · refine j_iload_n X (i := 2) dX5_countBeside_4 rfl rfl ?_
      refine j_bipush X (v := (nI 8)) dX5_countBeside_5 (by decide) ?_
      refine j_icmp_ge X (tgt := 44) dX5_countBeside_7 (by decide) (fun _ => ?_) (fun h => absurd (nI_le (Nat.le_refl _) (by decide)) h)
      refine j_aload_n X (i := 0) dX5_countBeside_44 rfl rfl ?_
      refine j_callV X (s_countStars hok hst hT hR hS) i_X5_countStars tw_3_186 tw_3_151 tw_3_152 hT rfl dX5_countBeside_45 ?_ 
      refine j_iload_n X (i := 1) dX5_countBeside_48 rfl rfl ?_
      have e0 := besB_on S dy a1 a2
      refine j_isub X dX5_countBeside_49 ?_
      rw [pk_sub (show fb_sm (onN S dx dy) 8 ≤ cntB S by omega), show cntB S - fb_sm (onN S dx dy) 8 = besB S dx dy by omega]
      exact j_iret X dX5_countBeside_50 rfl rfl ⟨rfl, rfl, rfl, rfl⟩
    · intro k hk ih
      refine j_iload_n X (i := 2) dX5_countBeside_4 rfl rfl ?_
      refine j_bipush X (v := (nI 8)) dX5_countBeside_5 (by decide) ?_
      refine j_icmp_ge X (tgt := 44) dX5_countBeside_7 (by decide) (fun h => absurd h (nI_ge hk (by decide))) (fun _ => ?_)
      refine j_iconst X (v := (nI 0)) dX5_countBeside_10 (by decide) ?_
      refine j_iload_n X (i := 2) dX5_countBeside_11 rfl rfl ?_
      refine j_aload_n X (i := 0) dX5_countBeside_12 rfl rfl ?_
      refine jFd.get X fd_X5_22 hT rfl dX5_countBeside_13 ?_
      rw [h3, ← iN_nI k, iN_nI k]
      refine j_iadd X dX5_countBeside_16 ?_
      refine j_callSN X (s_isPlace hok hst _ _) i_X9_isPlace tw_2_67 tw_2_68 dX5_countBeside_17 ?_ 
      have hkd : nI k + iN dy = iN ((k : Int) + dy) := by rw [← iN_nI, iN_add]
      have hp : isPl (nI 0) (nI k + iN dy) = decide (0 ≤ (k : Int) + dy ∧ (k : Int) + dy < 8) := by
        rw [hkd]
        unfold isPl
        rw [iN_toInt (by omega) (by omega), nI_0]
        congr 1
        simp
      have hnx : fb_sm (onN S dx dy) (k + 1) = fb_sm (onN S dx dy) k + onN S dx dy k := rfl
      rw [hp]
      by_cases hq : 0 ≤ (k : Int) + dy ∧ (k : Int) + dy < 8
      · rw [decide_eq_true hq]
        refine j_if_eq X (tgt := 38) dX5_countBeside_20 (by decide) (fun h => absurd h (by decide)) (fun _ => ?_)
        refine j_iload_n X (i := 1) dX5_countBeside_23 rfl rfl ?_
        refine j_aload_n X (i := 0) dX5_countBeside_24 rfl rfl ?_
        refine j_iload_n X (i := 2) dX5_countBeside_25 rfl rfl ?_
        refine j_aload_n X (i := 0) dX5_countBeside_26 rfl rfl ?_
        refine jFd.get X fd_X5_19 hT rfl dX5_countBeside_27 ?_
        rw [h2]
        refine j_callV X (s_movedRow hok hst hT hR hS hk a1 a2) i_X5_movedRow tw_2_70 tw_2_71 tw_2_72 hT rfl dX5_countBeside_30 ?_ 
        refine j_callS X (s_bitCount hok hst (rN_lt _)) i_J6_bitCount_0f7a4 tw_2_75 tw_2_76 dX5_countBeside_33 ?_ 
        rw [pop_rN]
        refine j_iadd X dX5_countBeside_36 ?_
        rw [nI_add, show fb_sm (onN S dx dy) k + fb_ct (mrB (fun x => S (16 * k + x)) dx) 16 = fb_sm (onN S dx dy) (k + 1) by rw [hnx]; unfold onN; rw [if_pos hq]]
        refine j_istore_n X (i := 1) dX5_countBeside_37 rfl (by decide) rfl ?_
        refine j_iinc X (i := 2) (v := (nI (k + 1))) dX5_countBeside_38 rfl (nI_1 k) (by decide) rfl ?_
        refine j_goto X (tgt := 4) dX5_countBeside_41 (by decide) ?_
        exact ih
      · rw [decide_eq_false hq]
        refine j_if_eq X (tgt := 38) dX5_countBeside_20 (by decide) (fun _ => ?_) (fun h => absurd (by decide) h)
        refine j_iinc X (i := 2) (v := (nI (k + 1))) dX5_countBeside_38 rfl (nI_1 k) (by decide) rfl ?_
        refine j_goto X (tgt := 4) dX5_countBeside_41 (by decide) ?_
        rw [show fb_sm (onN S dx dy) (k + 1) = fb_sm (onN S dx dy) k by rw [hnx]; unfold onN; rw [if_neg hq]; rfl] at ih
        exact ih
  exact key 0 (Nat.zero_le _)

theorem s_countMatches {l : Launch} {g : jG} (hok : jOk g) (hst : l.stackTraces = false) {z : Option Nat} {sk : jS} {t : jT} {i r i2 r2 : Nat} {S U : Nat → Bool} (hT : sk i = some (jPlate g r)) (hR : sk r = some (kA .int 8)) (hS : Rows (t r) S) (hT2 : sk i2 = some (jPlate g r2)) (hR2 : sk r2 = some (kA .int 8)) (hU : Rows (t r2) U) {dx dy : Int} (a1 : -3 ≤ dx) (a2 : dx ≤ 3) (a3 : -3 ≤ dy) (a4 : dy ≤ 3) : jMet l g mX5_countMatches 3 0 0 [.ref (jb g + i), .ref (jb g + i2), .int (iN dx), .int (iN dy)] z sk t (jE (some (.int (nI (matB S U dx dy)))) z sk t) := by
  refine j_body (lv := [some (.ref (jb g + i)), some (.ref (jb g + i2)), some (.int (iN dx)), some (.int (iN dy)), none, none]) i_X5_countMatches hok hst (fun p e s m args below meth c X => ?_)
  refine j_iconst X (v := (nI 0)) dX5_countMatches_0 (by decide) ?_
  refine j_istore X (i := 4) dX5_countMatches_1 (by decide) rfl ?_
  refine j_iconst X (v := (nI 0)) dX5_countMatches_3 (by decide) ?_
  refine j_istore X (i := 5) dX5_countMatches_4 (by decide) rfl ?_
  have key : ∀ k, k ≤ 8 → J p l e (jR 3 0 0) s m args below meth c (jQm below args s g 0 0 (jE (some (.int (nI (matB S U dx dy)))) z sk t)) 6 g 0 0 z sk t 6 [some (.ref (jb g + i)), some (.ref (jb g + i2)), some (.int (iN dx)), some (.int (iN dy)), some (.int (nI (fb_sm (maN S U dx dy) k))), some (.int (nI k))] [] := by
    refine up_loop ?_ ?_
    · refine j_iload X (i := 5) dX5_countMatches_6 rfl ?_
      refine j_bipush X (v := (nI 8)) dX5_countMatches_8 (by decide) ?_
      refine j_icmp_ge X (tgt := 55) dX5_countMatches_10 (by decide) (fun _ => ?_) (fun h => absurd (nI_le (Nat.le_refl _) (by decide)) h)
      refine j_iload X (i := 4) dX5_countMatches_55 rfl ?_
      rw [matB_on S U dy a1 a2]
      exact j_iret X dX5_countMatches_57 rfl rfl ⟨rfl, rfl, rfl, rfl⟩
    · intro k hk ih
      refine j_iload X (i := 5) dX5_countMatches_6 rfl ?_
      refine j_bipush X (v := (nI 8)) dX5_countMatches_8 (by decide) ?_
      refine j_icmp_ge X (tgt := 55) dX5_countMatches_10 (by decide) (fun h => absurd h (nI_ge hk (by decide))) (fun _ => ?_)
      refine j_iconst X (v := (nI 0)) dX5_countMatches_13 (by decide) ?_
      refine j_iload X (i := 5) dX5_countMatches_14 rfl ?_
      refine j_iload_n X (i := 3) dX5_countMatches_16 rfl rfl ?_
      refine j_iadd X dX5_countMatches_17 ?_
      refine j_callSN X (s_isPlace hok hst _ _) i_X9_isPlace tw_2_67 tw_2_68 dX5_countMatches_18 ?_ 
      have hkd : nI k + iN dy = iN ((k : Int) + dy) := by rw [← iN_nI, iN_add]
      have hp : isPl (nI 0) (nI k + iN dy) = decide (0 ≤ (k : Int) + dy ∧ (k : Int) + dy < 8) := by
        rw [hkd]
        unfold isPl
        rw [iN_toInt (by omega) (by omega), nI_0]
        congr 1
        simp
      have hnx : fb_sm (maN S U dx dy) (k + 1) = fb_sm (maN S U dx dy) k + maN S U dx dy k := rfl
      rw [hp]
      by_cases hq : 0 ≤ (k : Int) + dy ∧ (k : Int) + dy < 8
      · rw [decide_eq_true hq]
        refine j_if_eq X (tgt := 49) dX5_countMatches_21 (by decide) (fun h => absurd h (by decide)) (fun _ => ?_)
        obtain ⟨a, ha⟩ : ∃ a : Nat, (k : Int) + dy = a := ⟨((k : Int) + dy).toNat, by omega⟩
        refine j_iload X (i := 4) dX5_countMatches_24 rfl ?_
        refine j_aload_n X (i := 0) dX5_countMatches_26 rfl rfl ?_
        refine j_iload X (i := 5) dX5_countMatches_27 rfl ?_
        refine j_iload_n X (i := 2) dX5_countMatches_29 rfl rfl ?_
        refine j_callV X (s_movedRow hok hst hT hR hS hk a1 a2) i_X5_movedRow tw_2_70 tw_2_71 tw_2_72 hT rfl dX5_countMatches_30 ?_ 
        refine j_aload_n X (i := 1) dX5_countMatches_33 rfl rfl ?_
        refine jFd.get X fd_X5_9 hT2 rfl dX5_countMatches_34 ?_
        refine j_iload X (i := 5) dX5_countMatches_37 rfl ?_
        refine j_iload_n X (i := 3) dX5_countMatches_39 rfl rfl ?_
        refine j_iadd X dX5_countMatches_40 ?_
        rw [hkd, ha]
        refine j_iald X hR2 (iN_nI a) (by omega) (by decide) dX5_countMatches_41 ?_
        rw [hU a (by omega)]
        refine j_iand X dX5_countMatches_42 ?_
        rw [nx_and, rN_and]
        refine j_callS X (s_bitCount hok hst (rN_lt _)) i_J6_bitCount_0f7a4 tw_2_75 tw_2_76 dX5_countMatches_43 ?_ 
        rw [pop_rN]
        refine j_iadd X dX5_countMatches_46 ?_
        rw [nI_add, show fb_sm (maN S U dx dy) k + fb_ct (fun x => mrB (fun x => S (16 * k + x)) dx x && U (16 * a + x)) 16 = fb_sm (maN S U dx dy) (k + 1) by rw [hnx]; unfold maN; rw [if_pos hq, ha]; rfl]
        refine j_istore X (i := 4) dX5_countMatches_47 (by decide) rfl ?_
        refine j_iinc X (i := 5) (v := (nI (k + 1))) dX5_countMatches_49 rfl (nI_1 k) (by decide) rfl ?_
        refine j_goto X (tgt := 6) dX5_countMatches_52 (by decide) ?_
        exact ih
      · rw [decide_eq_false hq]
        refine j_if_eq X (tgt := 49) dX5_countMatches_21 (by decide) (fun _ => ?_) (fun h => absurd (by decide) h)
        refine j_iinc X (i := 5) (v := (nI (k + 1))) dX5_countMatches_49 rfl (nI_1 k) (by decide) rfl ?_
        refine j_goto X (tgt := 6) dX5_countMatches_52 (by decide) ?_
        rw [show fb_sm (maN S U dx dy) (k + 1) = fb_sm (maN S U dx dy) k by rw [hnx]; unfold maN; rw [if_neg hq]; rfl] at ih
        exact ih
  exact key 0 (Nat.zero_le _)

/-- the k-th star's column and row stand at its rank -/
def InvL (S : Nat → Bool) (K : Nat) (f f2 : Nat → Int32) : Prop := ∀ k, k < K → S k = true → f (fb_ct S k) = nI (k % 16) ∧ f2 (fb_ct S k) = nI (k / 16)
theorem InvL.no {S : Nat → Bool} {K : Nat} {f f2 : Nat → Int32} (h : InvL S K f f2) (hK : S K = false) : InvL S (K + 1) f f2 := fun k hk hs => by
  by_cases e : k = K
  · subst e; rw [hK] at hs; cases hs
  · exact h k (by omega) hs
theorem InvL.yes {S : Nat → Bool} {K : Nat} {f f2 : Nat → Int32} (h : InvL S K f f2) (hK : S K = true) : InvL S (K + 1) (upd f (fb_ct S K) (nI (K % 16))) (upd f2 (fb_ct S K) (nI (K / 16))) := fun k hk hs => by
  by_cases e : k = K
  · subst e; simp [upd]
  · have h1 : fb_ct S (k + 1) ≤ fb_ct S K := fb_ct_mono S (by omega)
    rw [fb_ct_succ, if_pos hs] at h1
    have h2 : ¬ fb_ct S k = fb_ct S K := by omega
    simp only [upd, if_neg h2]
    exact h k (by omega) hs
theorem s_listStars {l : Launch} {g : jG} (hok : jOk g) (hst : l.stackTraces = false) {z : Option Nat} {sk : jS} {t : jT} {i r a b : Nat} {S : Nat → Bool} (hT : sk i = some (jPlate g r)) (hR : sk r = some (kA .int 8)) (hS : Rows (t r) S) (hA : sk a = some (kA .int 20)) (hB : sk b = some (kA .int 20)) (hra : r ≠ a) (hrb : r ≠ b) (hab : a ≠ b) (hc : cntB S ≤ 20) : jMet l g mX5_listStars 2 0 0 [.ref (jb g + i), .ref (jb g + a), .ref (jb g + b)] z sk t (fun v z2 sk2 t2 => v = some (.int (nI (cntB S))) ∧ z = z2 ∧ sk = sk2 ∧ ∃ f f2, t2 = jUf (jUf t a f) b f2 ∧ InvL S 128 f f2) := by
  refine j_body (lv := [some (.ref (jb g + i)), some (.ref (jb g + a)), some (.ref (jb g + b)), none, none, none]) i_X5_listStars hok hst (fun p e s m args below meth c X => ?_)
  have hRo : ∀ f f2 : Nat → Int32, Rows ((jUf (jUf t a f) b f2) r) S := fun f f2 => by rw [jUf_ne _ _ hrb, jUf_ne _ _ hra]; exact hS
  have outer : ∀ y, y ≤ 8 → ∀ f f2 : Nat → Int32, InvL S (16 * y) f f2 → J p l e (jR 2 0 0) s m args below meth c (jQm below args s g 0 0 (fun v z2 sk2 t2 => v = some (.int (nI (cntB S))) ∧ z = z2 ∧ sk = sk2 ∧ ∃ f f2, t2 = jUf (jUf t a f) b f2 ∧ InvL S 128 f f2)) 6 g 0 0 z sk  (jUf (jUf t a f) b f2) 5 [some (.ref (jb g + i)), some (.ref (jb g + a)), some (.ref (jb g + b)), some (.int (nI (fb_ct S (16 * y)))), some (.int (nI y)), none] [] := by
    refine up_loop ?_ ?_
    · intro f f2 hI
      refine j_iload X (i := 4) dX5_listStars_5 rfl ?_
      refine j_bipush X (v := (nI 8)) dX5_listStars_7 (by decide) ?_
      refine j_icmp_ge X (tgt := 64) dX5_listStars_9 (by decide) (fun _ => ?_) (fun h => absurd (nI_le (Nat.le_refl _) (by decide)) h)
      refine j_iload_n X (i := 3) dX5_listStars_64 rfl rfl ?_
      exact j_iret X dX5_listStars_65 rfl rfl ⟨rfl, rfl, rfl, f, f2, rfl, hI⟩
    · intro y hy ih f f2 hI
      refine j_iload X (i := 4) dX5_listStars_5 rfl ?_
      refine j_bipush X (v := (nI 8)) dX5_listStars_7 (by decide) ?_
      refine j_icmp_ge X (tgt := 64) dX5_listStars_9 (by decide) (fun h => absurd h (nI_ge hy (by decide))) (fun _ => ?_)
      refine j_iconst X (v := (nI 0)) dX5_listStars_12 (by decide) ?_
      refine j_istore X (i := 5) dX5_listStars_13 (by decide) rfl ?_
      have inner : ∀ x, x ≤ 16 → ∀ f f2 : Nat → Int32, InvL S (16 * y + x) f f2 → J p l e (jR 2 0 0) s m args below meth c (jQm below args s g 0 0 (fun v z2 sk2 t2 => v = some (.int (nI (cntB S))) ∧ z = z2 ∧ sk = sk2 ∧ ∃ f f2, t2 = jUf (jUf t a f) b f2 ∧ InvL S 128 f f2)) 6 g 0 0 z sk  (jUf (jUf t a f) b f2) 15 [some (.ref (jb g + i)), some (.ref (jb g + a)), some (.ref (jb g + b)), some (.int (nI (fb_ct S (16 * y + x)))), some (.int (nI y)), some (.int (nI x))] [] := by
        refine up_loop ?_ ?_
        · intro f f2 hI
          refine j_iload X (i := 5) dX5_listStars_15 rfl ?_
          refine j_bipush X (v := (nI 16)) dX5_listStars_17 (by decide) ?_
          refine j_icmp_ge X (tgt := 58) dX5_listStars_19 (by decide) (fun _ => ?_) (fun h => absurd (nI_le (Nat.le_refl _) (by decide)) h)
          refine j_iinc X (i := 4) (v := (nI (y + 1))) dX5_listStars_58 rfl (nI_1 y) (by decide) rfl ?_
          refine j_goto X (tgt := 5) dX5_listStars_61 (by decide) ?_
          refine j_drop 5 ?_
          exact ih f f2 hI
        · intro x hx ih2 f f2 hI
          refine j_iload X (i := 5) dX5_listStars_15 rfl ?_
          refine j_bipush X (v := (nI 16)) dX5_listStars_17 (by decide) ?_
          refine j_icmp_ge X (tgt := 58) dX5_listStars_19 (by decide) (fun h => absurd h (nI_ge hx (by decide))) (fun _ => ?_)
          refine j_aload_n X (i := 0) dX5_listStars_22 rfl rfl ?_
          refine j_iload X (i := 5) dX5_listStars_23 rfl ?_
          refine j_iload X (i := 4) dX5_listStars_25 rfl ?_
          refine j_callV X (s_isStarAt hok hst hT hR (hRo f f2) hx hy) i_X5_isStarAt tw_2_97 tw_2_98 tw_2_99 hT rfl dX5_listStars_27 ?_ 
          cases hq : S (16 * y + x) with
          | false =>
            refine j_if_eq X (tgt := 52) dX5_listStars_30 (by decide) (fun _ => ?_) (fun h => absurd (rfl) h)
            refine j_iinc X (i := 5) (v := (nI (x + 1))) dX5_listStars_52 rfl (nI_1 x) (by decide) rfl ?_
            refine j_goto X (tgt := 15) dX5_listStars_55 (by decide) ?_
            have h1 := ih2 f f2 (hI.no hq)
            rw [show 16 * y + (x + 1) = 16 * y + x + 1 from rfl, fb_ct_succ, hq] at h1
            exact h1
          | true =>
            have h20 : fb_ct S (16 * y + x) < 20 := by
              have h1 : fb_ct S (16 * y + x + 1) ≤ fb_ct S 128 := fb_ct_mono S (by omega)
              rw [fb_ct_succ, if_pos hq] at h1
              unfold cntB at hc
              omega
            refine j_if_eq X (tgt := 52) dX5_listStars_30 (by decide) (fun h => absurd h (by decide)) (fun _ => ?_)
            refine j_iload_n X (i := 3) dX5_listStars_33 rfl rfl ?_
            refine j_bipush X (v := (nI 20)) dX5_listStars_34 (by decide) ?_
            refine j_icmp_ge X (tgt := 52) dX5_listStars_36 (by decide) (fun h => absurd h (nI_ge h20 (by decide))) (fun _ => ?_)
            refine j_aload_n X (i := 1) dX5_listStars_39 rfl rfl ?_
            refine j_iload_n X (i := 3) dX5_listStars_40 rfl rfl ?_
            refine j_iload X (i := 5) dX5_listStars_41 rfl ?_
            refine j_iast X hA rfl h20 (by decide) dX5_listStars_43 ?_
            refine j_aload_n X (i := 2) dX5_listStars_44 rfl rfl ?_
            refine j_iload_n X (i := 3) dX5_listStars_45 rfl rfl ?_
            refine j_iload X (i := 4) dX5_listStars_46 rfl ?_
            refine j_iast X hB rfl h20 (by decide) dX5_listStars_48 ?_
            refine j_iinc X (i := 3) (v := (nI (fb_ct S (16 * y + x) + 1))) dX5_listStars_49 rfl (nI_1 _) (by decide) rfl ?_
            refine j_iinc X (i := 5) (v := (nI (x + 1))) dX5_listStars_52 rfl (nI_1 x) (by decide) rfl ?_
            refine j_goto X (tgt := 15) dX5_listStars_55 (by decide) ?_
            have h1 := ih2 _ _ (hI.yes hq)
            rw [show 16 * y + (x + 1) = 16 * y + x + 1 from rfl, fb_ct_succ, if_pos hq, show (16 * y + x) % 16 = x by omega, show (16 * y + x) / 16 = y by omega] at h1
            have e1 : jU (jU (jUf (jUf t a f) b f2) a (fb_ct S (16 * y + x)) (nI x)) b (fb_ct S (16 * y + x)) (nI y) = jUf (jUf t a (upd f (fb_ct S (16 * y + x)) (nI x))) b (upd f2 (fb_ct S (16 * y + x)) (nI y)) := by
              rw [jU_row _ a, jUf_ne _ f2 hab, jUf_eq, jUf_comm t hab, jUf_jUf, jU_row, jUf_ne _ _ (Ne.symm hab), jUf_eq, jUf_comm _ hab.symm, jUf_jUf]
            rw [e1]
            exact h1
      exact inner 0 (Nat.zero_le _) f f2 hI
  refine j_iconst X (v := (nI 0)) dX5_listStars_0 (by decide) ?_
  refine j_istore_n X (i := 3) dX5_listStars_1 rfl (by decide) rfl ?_
  refine j_iconst X (v := (nI 0)) dX5_listStars_2 (by decide) ?_
  refine j_istore X (i := 4) dX5_listStars_3 (by decide) rfl ?_
  have k0 := outer 0 (Nat.zero_le _) (t a) (t b) (fun k hk => absurd hk (by omega))
  rw [jUf_self, jUf_self] at k0
  exact k0

