def r32 (q : Nat → Bool) : Nat := fb_sm (fun x => if q x then 2 ^ x else 0) 32
theorem r32_lt (q : Nat → Bool) : r32 q < 4294967296 := (rN_part q 32).1
theorem r32_bit (q : Nat → Bool) (x : Nat) : (r32 q).testBit x = (decide (x < 32) && q x) := (rN_part q 32).2 x
theorem r32_ext {n : Nat} {q : Nat → Bool} (hn : n < 4294967296) (h : ∀ x, x < 32 → n.testBit x = q x) : n = r32 q := by
  apply Nat.eq_of_testBit_eq
  intro x
  rw [r32_bit]
  by_cases hx : x < 32
  · simp [hx, h x hx]
  · rw [decide_eq_false hx, Bool.false_and]
    exact Nat.testBit_lt_two_pow (Nat.lt_of_lt_of_le hn (by rw [show (4294967296 : Nat) = 2 ^ 32 from rfl]; exact Nat.pow_le_pow_right (by decide) (by omega)))
theorem r32_cong {q r : Nat → Bool} (h : ∀ x, x < 32 → q x = r x) : r32 q = r32 r := r32_ext (r32_lt q) (fun x hx => by rw [r32_bit]; simp [hx, h x hx])
theorem r32_xor (q r : Nat → Bool) : r32 q ^^^ r32 r = r32 (fun x => q x ^^ r x) := r32_ext (Nat.xor_lt_two_pow (n := 32) (r32_lt q) (r32_lt r)) (fun x hx => by rw [Nat.testBit_xor, r32_bit, r32_bit]; simp [hx])
theorem r32_or (q r : Nat → Bool) : r32 q ||| r32 r = r32 (fun x => q x || r x) := r32_ext (Nat.or_lt_two_pow (n := 32) (r32_lt q) (r32_lt r)) (fun x hx => by rw [Nat.testBit_or, r32_bit, r32_bit]; simp [hx])
theorem r32_flip (q : Nat → Bool) {a : Nat} (ha : a < 32) : r32 q ^^^ 2 ^ a = r32 (fun x => q x ^^ decide (x = a)) := r32_ext (Nat.xor_lt_two_pow (n := 32) (r32_lt q) (Nat.pow_lt_pow_right (by decide) ha)) (fun x hx => by rw [fb_bit_flip, r32_bit]; simp [hx])
theorem nbB (b : Bool) : narrow FieldType.boolean (.int (nI b.toNat)) = .int (nI b.toNat) := by cases b <;> rfl
theorem r32_0 : r32 (fun _ => false) = 0 := by decide +kernel
theorem bt_nI {n i : Nat} (hi : i < 32) : bt (nI n) i = n.testBit i := by
  show (BitVec.ofNat 32 n).getLsbD i = _
  rw [BitVec.getLsbD_ofNat]
  simp [hi]
theorem nI_bitI {n j : Nat} (hj : j < 32) : (nI n >>> (nI j &&& 31)) &&& nI 1 = nI (n.testBit j).toNat := by
  apply b_ext
  intro i hi
  rw [b_and, b_sshr j hj _ hi, bt_nI hi, bt_nI hi]
  by_cases h : i = 0
  · subst h
    rw [if_pos (by omega), bt_nI (by omega), Nat.add_zero]
    cases n.testBit j <;> rfl
  · have e1 : (1 : Nat).testBit i = false := by
      rw [show (1 : Nat) = 2 ^ 0 from rfl, Nat.testBit_two_pow]
      exact decide_eq_false (by omega)
    have e2 : (n.testBit j).toNat.testBit i = false := by
      cases n.testBit j
      · exact Nat.zero_testBit i
      · exact e1
    rw [e1, e2, Bool.and_false]
theorem sh32 : ∀ x, x < 32 → nI 1 <<< (nI x &&& 31) = nI (2 ^ x) := by decide +kernel
theorem pk_rem2 {a d : Nat} (ha : a < 2 ^ 31) (h0 : 0 < d) (hd : d < 2 ^ 31) : nI a - nI a / nI d * nI d = nI (a % d) := pk_rem ha h0 hd
/-- four words of 32 places -/
def Wd (f : Nat → Int32) (o : Nat) (S : Nat → Bool) : Prop := ∀ w, w < 4 → f (o + w) = nI (r32 (fun j => S (32 * w + j)))
theorem Wd.cong {f f2 : Nat → Int32} {o o2 : Nat} {S : Nat → Bool} (h : Wd f o S) (e : ∀ w, w < 4 → f2 (o2 + w) = f (o + w)) : Wd f2 o2 S := fun w hw => (e w hw).trans (h w hw)
theorem Wd.same {f : Nat → Int32} {o : Nat} {S U : Nat → Bool} (h : Wd f o S) (e : ∀ k, k < 128 → U k = S k) : Wd f o U := fun w hw => (h w hw).trans (congrArg nI (r32_cong fun j hj => (e _ (by omega)).symm))
theorem Wd.put {f : Nat → Int32} {o : Nat} {S U : Nat → Bool} (h : Wd f o S) {w0 : Nat} {q : Nat → Bool} (hq : ∀ j, j < 32 → U (32 * w0 + j) = q j) (ho : ∀ k, k < 128 → k / 32 ≠ w0 → U k = S k) : Wd (upd f (o + w0) (nI (r32 q))) o U := fun w hw => by
  unfold upd
  by_cases e : w = w0
  · subst e
    rw [if_pos rfl]
    exact congrArg nI (r32_cong fun j hj => (hq j hj).symm)
  · rw [if_neg (by omega), h w hw]
    exact congrArg nI (r32_cong fun j hj => (ho _ (by omega) (by omega)).symm)
/-- a plate, a sheet, all in a row of the model -/
def RmP (f : Nat → Int32) (o : Nat) (p : PV) : Prop := f o = nI p.1 ∧ f (o + 1) = iN p.2.1 ∧ f (o + 2) = iN p.2.2.1 ∧ Wd f (o + 3) p.2.2.2
def RmS (f : Nat → Int32) (o : Nat) (s : TV) : Prop := f o = nI s.1.1 ∧ f (o + 1) = nI s.1.2.1 ∧ f (o + 2) = iN s.1.2.2 ∧ (∀ j, j < 3 → Wd f (o + 3 + 4 * j) (s.2.1 j)) ∧ ∀ j, j < 3 → Wd f (o + 15 + 4 * j) (s.2.2 j)
def RmV (f : Nat → Int32) (V : SV) : Prop := f 0 = nI (np V) ∧ f 1 = nI (ns V) ∧ f 2 = nI (hr V) ∧ (∀ i, i < 3 → f (3 + i) = nI (dr V i)) ∧ (∀ a, a < 3 → f (6 + a) = iN (rkV V a)) ∧ (∀ k, k < np V → RmP f (9 + 7 * k) (pl V k)) ∧ ∀ k, k < ns V → RmS f (51 + 27 * k) (sh V k)
theorem RmP.cong {f f2 : Nat → Int32} {o : Nat} {p : PV} (h : RmP f o p) (e : ∀ k, k < 7 → f2 (o + k) = f (o + k)) : RmP f2 o p := by
  obtain ⟨h1, h2, h3, h4⟩ := h
  refine ⟨(e 0 (by omega)).trans h1, (e 1 (by omega)).trans h2, (e 2 (by omega)).trans h3, h4.cong fun w hw => ?_⟩
  have := e (3 + w) (by omega)
  rw [show o + (3 + w) = o + 3 + w by omega] at this
  exact this
theorem RmS.cong {f f2 : Nat → Int32} {o : Nat} {p : TV} (h : RmS f o p) (e : ∀ k, k < 27 → f2 (o + k) = f (o + k)) : RmS f2 o p := by
  obtain ⟨h1, h2, h3, h4, h5⟩ := h
  refine ⟨(e 0 (by omega)).trans h1, (e 1 (by omega)).trans h2, (e 2 (by omega)).trans h3, fun j hj => (h4 j hj).cong fun w hw => ?_, fun j hj => (h5 j hj).cong fun w hw => ?_⟩
  · have := e (3 + 4 * j + w) (by omega)
    rw [show o + (3 + 4 * j + w) = o + 3 + 4 * j + w by omega] at this
    exact this
  · have := e (15 + 4 * j + w) (by omega)
    rw [show o + (15 + 4 * j + w) = o + 15 + 4 * j + w by omega] at this
    exact this
theorem RmV.cong {f f2 : Nat → Int32} {V : SV} (h : RmV f V) (hp : np V ≤ 6) (hs : ns V ≤ 8) (e : ∀ k, k < 267 → f2 k = f k) : RmV f2 V := by
  obtain ⟨h1, h2, h3, h4, h5, h6, h7⟩ := h
  exact ⟨(e 0 (by omega)).trans h1, (e 1 (by omega)).trans h2, (e 2 (by omega)).trans h3, fun i hi => (e _ (by omega)).trans (h4 i hi), fun a ha => (e _ (by omega)).trans (h5 a ha), fun k hk => (h6 k hk).cong fun j hj => e _ (by omega), fun k hk => (h7 k hk).cong fun j hj => e _ (by omega)⟩
abbrev jMod (g : jG) (M : Nat) : jK := kO 10 [fun _ => .ref (jb g + (M + 1)), fun _ => .ref (jb g + (M + 2)), fun _ => .ref (jb g + (M + 3)), fun _ => .ref (jb g + (M + 4)), .int, .int, .int, .int, .int, .int, fun _ => .ref (jb g + (M + 5)), .int, .int, .int, fun _ => .ref (jb g + (M + 6)), .int, .int, .int, .int, fun _ => .ref (jb g + (M + 7)), .int]
/-- the places of the model -/
def isMod (g : jG) (sk : jS) (M : Nat) : Prop := sk M = some (jMod g M) ∧ sk (M + 1) = some (kA .int 267) ∧ sk (M + 2) = some (kA .int 2136) ∧ sk (M + 3) = some (kA .int 267) ∧ sk (M + 4) = some (kA .int 267) ∧ sk (M + 5) = some (kA .int 60) ∧ sk (M + 6) = some (kA .char 16) ∧ sk (M + 7) = some (kA .int 124)
def inB (x lo hi : Int32) : Bool := decide (lo.toInt ≤ x.toInt ∧ x.toInt ≤ hi.toInt)
def whI (x : Int32) : Int := if isIk x = true then ((x.toInt.toNat / 2 : Nat) : Int) else -1
/-- whole rows anew from another -/
def cpM (t : jT) (i0 o0 i1 o1 n : Nat) : Nat → Int32 := fun k => if o1 ≤ k ∧ k < o1 + n then t i0 (o0 + (k - o1)) else t i1 k
def RmH (f : Nat → Int32) (h : Nat × (Nat → SV)) : Prop := h.1 ≤ 8 ∧ ∀ i, i < h.1 → RmV (fun k => f (267 * i + k)) (h.2 i)
/-- one more that can be undone, at most eight -/
def pushH (h : Nat × (Nat → SV)) (V : SV) : Nat × (Nat → SV) := if h.1 < 8 then (h.1 + 1, fun i => if i = h.1 then V else h.2 i) else (8, fun i => if i = 7 then V else h.2 (i + 1))
theorem m_in {l : Launch} {g : jG} (hok : jOk g) (hst : l.stackTraces = false) {z : Option Nat} {sk : jS} {t : jT} (x lo hi : Int32) : jMet l g mX10_in 1 0 0 [.int x, .int lo, .int hi] z sk t (jE (some (.int (nI (inB x lo hi).toNat))) z sk t) := by
  refine j_body (lv := [some (.int x), some (.int lo), some (.int hi)]) i_X10_in hok hst (fun p e s m args below meth c X => ?_)
  have no : inB x lo hi = false → J p l e (jR 1 0 0) s m args below meth c (jQm below args s g 0 0 (jE (some (.int (nI (inB x lo hi).toNat))) z sk t)) 3 g 0 0 z sk t 14 [some (.int x), some (.int lo), some (.int hi)] [] := fun h => by
    refine j_iconst X (v := (nI 0)) dX10_in_14 (by decide) ?_
    exact j_iret X dX10_in_15 rfl rfl ⟨by rw [h]; rfl, rfl, rfl, rfl⟩
  refine j_iload_n X (i := 0) dX10_in_0 rfl rfl ?_
  refine j_iload_n X (i := 1) dX10_in_1 rfl rfl ?_
  refine j_icmp_lt X (tgt := 14) dX10_in_2 (by decide) (fun h2 => ?_) (fun h2 => ?_)
  · exact no (decide_eq_false (by rw [fa_lt] at h2; omega))
  refine j_iload_n X (i := 0) dX10_in_5 rfl rfl ?_
  refine j_iload_n X (i := 2) dX10_in_6 rfl rfl ?_
  refine j_icmp_gt X (tgt := 14) dX10_in_7 (by decide) (fun h7 => ?_) (fun h7 => ?_)
  · exact no (decide_eq_false (by rw [fa_lt] at h7; omega))
  rw [fa_lt] at h2 h7
  refine j_iconst X (v := (nI 1)) dX10_in_10 (by decide) ?_
  refine j_goto X (tgt := 15) dX10_in_11 (by decide) ?_
  exact j_iret X dX10_in_15 rfl rfl ⟨by rw [show inB x lo hi = true from decide_eq_true (by omega)]; rfl, rfl, rfl, rfl⟩

theorem m_size {l : Launch} {g : jG} (hok : jOk g) (hst : l.stackTraces = false) {z : Option Nat} {sk : jS} {t : jT} {d : Int} (h1 : -3 ≤ d) (h2 : d ≤ 3) : jMet l g mX10_size 1 0 0 [.int (iN d)] z sk t (jE (some (.int (nI d.natAbs))) z sk t) := by
  refine j_body (lv := [some (.int (iN d))]) i_X10_size hok hst (fun p e s m args below meth c X => ?_)
  refine j_iload_n X (i := 0) dX10_size_0 rfl rfl ?_
  have hz := iN_le (a := 0) (b := d) (by decide) (by decide) (by omega) (by omega)
  by_cases hd : 0 ≤ d
  · refine j_if_ge X (tgt := 9) dX10_size_1 (by decide) (fun _ => ?_) (fun q9 => absurd (hz.mpr hd) q9)
    refine j_iload_n X (i := 0) dX10_size_9 rfl rfl ?_
    exact j_iret X dX10_size_10 rfl rfl ⟨by rw [← iN_nI]; exact congrArg (fun w => some (Value.int (iN w))) (by omega), rfl, rfl, rfl⟩
  · refine j_if_ge X (tgt := 9) dX10_size_1 (by decide) (fun q9 => absurd q9 ((fun q => hd (hz.mp q)))) (fun _ => ?_)
    refine j_iload_n X (i := 0) dX10_size_4 rfl rfl ?_
    refine j_ineg X dX10_size_5 ?_
    rw [iN_neg]
    refine j_goto X (tgt := 10) dX10_size_6 (by decide) ?_
    exact j_iret X dX10_size_10 rfl rfl ⟨by rw [← iN_nI]; exact congrArg (fun w => some (Value.int (iN w))) (by omega), rfl, rfl, rfl⟩

theorem m_isOn {l : Launch} {g : jG} (hok : jOk g) (hst : l.stackTraces = false) {z : Option Nat} {sk : jS} {t : jT} (x y : Int32) : jMet l g mX10_isOn 2 0 0 [.int x, .int y] z sk t (jE (some (.int (nI (isPl x y).toNat))) z sk t) := by
  refine j_body (lv := [some (.int x), some (.int y)]) i_X10_isOn hok hst (fun p e s m args below meth c X => ?_)
  have no : isPl x y = false → J p l e (jR 2 0 0) s m args below meth c (jQm below args s g 0 0 (jE (some (.int (nI (isPl x y).toNat))) z sk t)) 2 g 0 0 z sk t 24 [some (.int x), some (.int y)] [] := fun h => by
    refine j_iconst X (v := (nI 0)) dX10_isOn_24 (by decide) ?_
    exact j_iret X dX10_isOn_25 rfl rfl ⟨by rw [h]; rfl, rfl, rfl, rfl⟩
  have c1 : ((nI 0) : Int32).toInt = 0 := by decide
  have c2 : ((nI 15) : Int32).toInt = 15 := by decide
  have c3 : ((nI 7) : Int32).toInt = 7 := by decide
  refine j_iload_n X (i := 0) dX10_isOn_0 rfl rfl ?_
  refine j_iconst X (v := (nI 0)) dX10_isOn_1 (by decide) ?_
  refine j_bipush X (v := (nI 15)) dX10_isOn_2 (by decide) ?_
  refine j_callS X (m_in hok hst _ _ _) i_X10_in tw_6_154 tw_6_155 dX10_isOn_4 ?_ 
  cases ha : inB x (nI 0) (nI 15) with
  | false =>
    have ha := of_decide_eq_false ha
    refine j_if_eq X (tgt := 24) dX10_isOn_7 (by decide) (fun _ => ?_) (fun q9 => absurd (rfl) q9)
    exact no (decide_eq_false (by omega))
  | true =>
    have ha := of_decide_eq_true ha
    refine j_if_eq X (tgt := 24) dX10_isOn_7 (by decide) (fun q9 => absurd q9 (by decide)) (fun _ => ?_)
    refine j_iload_n X (i := 1) dX10_isOn_10 rfl rfl ?_
    refine j_iconst X (v := (nI 0)) dX10_isOn_11 (by decide) ?_
    refine j_bipush X (v := (nI 7)) dX10_isOn_12 (by decide) ?_
    refine j_callS X (m_in hok hst _ _ _) i_X10_in tw_6_154 tw_6_155 dX10_isOn_14 ?_ 
    cases hb : inB y (nI 0) (nI 7) with
    | false =>
      have hb := of_decide_eq_false hb
      refine j_if_eq X (tgt := 24) dX10_isOn_17 (by decide) (fun _ => ?_) (fun q9 => absurd (rfl) q9)
      exact no (decide_eq_false (by omega))
    | true =>
      have hb := of_decide_eq_true hb
      refine j_if_eq X (tgt := 24) dX10_isOn_17 (by decide) (fun q9 => absurd q9 (by decide)) (fun _ => ?_)
      refine j_iconst X (v := (nI 1)) dX10_isOn_20 (by decide) ?_
      refine j_goto X (tgt := 25) dX10_isOn_21 (by decide) ?_
      exact j_iret X dX10_isOn_25 rfl rfl ⟨by rw [show isPl x y = true from decide_eq_true (by omega)]; rfl, rfl, rfl, rfl⟩

theorem m_areNear {l : Launch} {g : jG} (hok : jOk g) (hst : l.stackTraces = false) {z : Option Nat} {sk : jS} {t : jT} (x y : Int32) : jMet l g mX10_areNear 2 0 0 [.int x, .int y] z sk t (jE (some (.int (nI (isSh x y).toNat))) z sk t) := by
  refine j_body (lv := [some (.int x), some (.int y)]) i_X10_areNear hok hst (fun p e s m args below meth c X => ?_)
  have no : isSh x y = false → J p l e (jR 2 0 0) s m args below meth c (jQm below args s g 0 0 (jE (some (.int (nI (isSh x y).toNat))) z sk t)) 2 g 0 0 z sk t 24 [some (.int x), some (.int y)] [] := fun h => by
    refine j_iconst X (v := (nI 0)) dX10_areNear_24 (by decide) ?_
    exact j_iret X dX10_areNear_25 rfl rfl ⟨by rw [h]; rfl, rfl, rfl, rfl⟩
  have c1 : ((-3) : Int32).toInt = -3 := by decide
  have c2 : ((nI 3) : Int32).toInt = 3 := by decide
  have c3 : ((nI 3) : Int32).toInt = 3 := by decide
  refine j_iload_n X (i := 0) dX10_areNear_0 rfl rfl ?_
  refine j_bipush X (v := -3) dX10_areNear_1 (by decide) ?_
  refine j_iconst X (v := (nI 3)) dX10_areNear_3 (by decide) ?_
  refine j_callS X (m_in hok hst _ _ _) i_X10_in tw_6_154 tw_6_155 dX10_areNear_4 ?_ 
  cases ha : inB x (-3) (nI 3) with
  | false =>
    have ha := of_decide_eq_false ha
    refine j_if_eq X (tgt := 24) dX10_areNear_7 (by decide) (fun _ => ?_) (fun q9 => absurd (rfl) q9)
    exact no (decide_eq_false (by omega))
  | true =>
    have ha := of_decide_eq_true ha
    refine j_if_eq X (tgt := 24) dX10_areNear_7 (by decide) (fun q9 => absurd q9 (by decide)) (fun _ => ?_)
    refine j_iload_n X (i := 1) dX10_areNear_10 rfl rfl ?_
    refine j_bipush X (v := -3) dX10_areNear_11 (by decide) ?_
    refine j_iconst X (v := (nI 3)) dX10_areNear_13 (by decide) ?_
    refine j_callS X (m_in hok hst _ _ _) i_X10_in tw_6_154 tw_6_155 dX10_areNear_14 ?_ 
    cases hb : inB y (-3) (nI 3) with
    | false =>
      have hb := of_decide_eq_false hb
      refine j_if_eq X (tgt := 24) dX10_areNear_17 (by decide) (fun _ => ?_) (fun q9 => absurd (rfl) q9)
      exact no (decide_eq_false (by omega))
    | true =>
      have hb := of_decide_eq_true hb
      refine j_if_eq X (tgt := 24) dX10_areNear_17 (by decide) (fun q9 => absurd q9 (by decide)) (fun _ => ?_)
      refine j_iconst X (v := (nI 1)) dX10_areNear_20 (by decide) ?_
      refine j_goto X (tgt := 25) dX10_areNear_21 (by decide) ?_
      exact j_iret X dX10_areNear_25 rfl rfl ⟨by rw [show isSh x y = true from decide_eq_true (by omega)]; rfl, rfl, rfl, rfl⟩

theorem m_has {l : Launch} {g : jG} (hok : jOk g) (hst : l.stackTraces = false) {z : Option Nat} {sk : jS} {t : jT} {M : Nat} (hM : isMod g sk M) {o : Nat} {S : Nat → Bool} (hW : Wd (t (M + 1)) o S) (ho : o + 4 ≤ 267) {x y : Nat} (hx : x < 16) (hy : y < 8) : jMet l g mX10_has 1 0 0 [.ref (jb g + M), .int (nI o), .int (nI x), .int (nI y)] z sk t (jE (some (.int (nI (S (16 * y + x)).toNat))) z sk t) := by
  refine j_body (lv := [some (.ref (jb g + M)), some (.int (nI o)), some (.int (nI x)), some (.int (nI y))]) i_X10_has hok hst (fun p e s m args below meth c X => ?_)
  obtain ⟨M0, M1, M2, M3, M4, M5, M6, M7⟩ := id hM
  refine j_aload_n X (i := 0) dX10_has_0 rfl rfl ?_
  refine jFd.get X fd_X10_7 M0 rfl dX10_has_1 ?_
  refine j_iload_n X (i := 1) dX10_has_4 rfl rfl ?_
  refine j_iload_n X (i := 3) dX10_has_5 rfl rfl ?_
  refine j_iconst X (v := (nI 2)) dX10_has_6 (by decide) ?_
  refine j_idiv X dX10_has_7 (by decide) ?_
  rw [pk_div (a := y) (d := 2) (by omega) (by decide) (by decide)]
  refine j_iadd X dX10_has_8 ?_
  rw [nI_add]
  refine j_iald X M1 rfl (by omega) (by decide) dX10_has_9 ?_
  rw [hW (y / 2) (by omega)]
  refine j_bipush X (v := (nI 16)) dX10_has_10 (by decide) ?_
  refine j_iload_n X (i := 3) dX10_has_12 rfl rfl ?_
  refine j_iconst X (v := (nI 2)) dX10_has_13 (by decide) ?_
  refine j_irem X dX10_has_14 (by decide) ?_
  rw [pk_rem2 (a := y) (d := 2) (by omega) (by decide) (by decide)]
  refine j_imul X dX10_has_15 ?_
  refine j_iload_n X (i := 2) dX10_has_16 rfl rfl ?_
  refine j_iadd X dX10_has_17 ?_
  rw [pk_mul, nI_add]
  refine j_ishr X dX10_has_18 ?_
  refine j_iconst X (v := (nI 1)) dX10_has_19 (by decide) ?_
  refine j_iand X dX10_has_20 ?_
  rw [nI_bitI (by omega), r32_bit, show decide (16 * (y % 2) + x < 32) = true from decide_eq_true (by omega), Bool.true_and, show 32 * (y / 2) + (16 * (y % 2) + x) = 16 * y + x by omega]
  refine j_iconst X (v := (nI 1)) dX10_has_21 (by decide) ?_
  cases hs : S (16 * y + x) with
  | true =>
    refine j_icmp_ne X (tgt := 29) dX10_has_22 (by decide) (fun q9 => absurd (rfl) q9) (fun _ => ?_)
    refine j_iconst X (v := (nI 1)) dX10_has_25 (by decide) ?_
    refine j_goto X (tgt := 30) dX10_has_26 (by decide) ?_
    exact j_iret X dX10_has_30 rfl rfl ⟨rfl, rfl, rfl, rfl⟩
  | false =>
    refine j_icmp_ne X (tgt := 29) dX10_has_22 (by decide) (fun _ => ?_) (fun q9 => absurd q9 (by decide))
    refine j_iconst X (v := (nI 0)) dX10_has_29 (by decide) ?_
    exact j_iret X dX10_has_30 rfl rfl ⟨rfl, rfl, rfl, rfl⟩

theorem Wd.flip {f : Nat → Int32} {o : Nat} {S : Nat → Bool} (h : Wd f o S) {x y : Nat} (hx : x < 16) (hy : y < 8) : Wd (upd f (o + y / 2) (nI (r32 (fun j => S (32 * (y / 2) + j) ^^ decide (j = 16 * (y % 2) + x))))) o (flipS S (16 * y + x)) := by
  refine h.put (fun j hj => ?_) (fun k hk hne => ?_)
  · unfold flipS
    congr 1
    exact decide_eq_decide.mpr (by omega)
  · unfold flipS
    rw [decide_eq_false (show ¬ k = 16 * y + x by omega)]
    simp
/-- the place k too -/
def addS (S : Nat → Bool) (c : Nat) : Nat → Bool := fun k => S k || decide (k = c)
theorem addS_has {S : Nat → Bool} {c : Nat} (h : S c = true) : addS S c = S := funext fun k => by
  unfold addS
  by_cases e : k = c
  · subst e; rw [h]; rfl
  · rw [decide_eq_false e, Bool.or_false]
theorem addS_flip {S : Nat → Bool} {c : Nat} (h : S c = false) : addS S c = flipS S c := funext fun k => by
  unfold addS flipS
  by_cases e : k = c
  · subst e; rw [h]; simp
  · rw [decide_eq_false e]; simp
theorem m_turns {l : Launch} {g : jG} (hok : jOk g) (hst : l.stackTraces = false) {z : Option Nat} {sk : jS} {t : jT} {M : Nat} (hM : isMod g sk M) {o : Nat} {S : Nat → Bool} (hW : Wd (t (M + 1)) o S) (ho : o + 4 ≤ 267) {x y : Nat} (hx : x < 16) (hy : y < 8) : jMet l g mX10_turns 1 0 0 [.ref (jb g + M), .int (nI o), .int (nI x), .int (nI y)] z sk t (fun v2 z2 sk2 t2 => v2 = none ∧ z = z2 ∧ sk = sk2 ∧ Wd (t2 (M + 1)) o (flipS S (16 * y + x)) ∧ (∀ k, (k < o ∨ o + 4 ≤ k) → t2 (M + 1) k = t (M + 1) k) ∧ ∀ c, c ≠ M + 1 → t2 c = t c) := by
  refine j_body (lv := [some (.ref (jb g + M)), some (.int (nI o)), some (.int (nI x)), some (.int (nI y))]) i_X10_turns hok hst (fun p e s m args below meth c X => ?_)
  obtain ⟨M0, M1, M2, M3, M4, M5, M6, M7⟩ := id hM
  refine j_aload_n X (i := 0) dX10_turns_0 rfl rfl ?_
  refine jFd.get X fd_X10_7 M0 rfl dX10_turns_1 ?_
  refine j_iload_n X (i := 1) dX10_turns_4 rfl rfl ?_
  refine j_iload_n X (i := 3) dX10_turns_5 rfl rfl ?_
  refine j_iconst X (v := (nI 2)) dX10_turns_6 (by decide) ?_
  refine j_idiv X dX10_turns_7 (by decide) ?_
  rw [pk_div (a := y) (d := 2) (by omega) (by decide) (by decide)]
  refine j_iadd X dX10_turns_8 ?_
  rw [nI_add]
  refine j_dup2 X dX10_turns_9 rfl rfl ?_
  refine j_iald X M1 rfl (by omega) (by decide) dX10_turns_10 ?_
  rw [hW (y / 2) (by omega)]
  refine j_iconst X (v := (nI 1)) dX10_turns_11 (by decide) ?_
  refine j_bipush X (v := (nI 16)) dX10_turns_12 (by decide) ?_
  refine j_iload_n X (i := 3) dX10_turns_14 rfl rfl ?_
  refine j_iconst X (v := (nI 2)) dX10_turns_15 (by decide) ?_
  refine j_irem X dX10_turns_16 (by decide) ?_
  rw [pk_rem2 (a := y) (d := 2) (by omega) (by decide) (by decide)]
  refine j_imul X dX10_turns_17 ?_
  refine j_iload_n X (i := 2) dX10_turns_18 rfl rfl ?_
  refine j_iadd X dX10_turns_19 ?_
  rw [pk_mul, nI_add]
  refine j_ishl X dX10_turns_20 ?_
  rw [sh32 _ (by omega)]
  refine j_ixor X dX10_turns_21 ?_
  rw [nx_xor, r32_flip _ (by omega)]
  refine j_iast X M1 rfl (by omega) (by decide) dX10_turns_22 ?_
  exact j_vret X dX10_turns_23 rfl ⟨rfl, rfl, rfl, by rw [jU_eq]; exact hW.flip hx hy, fun k hk => by rw [jU_eq]; exact if_neg (by omega), fun c hc => jU_ne _ _ _ hc⟩

theorem m_gives {l : Launch} {g : jG} (hok : jOk g) (hst : l.stackTraces = false) {z : Option Nat} {sk : jS} {t : jT} {M : Nat} (hM : isMod g sk M) {o : Nat} {S : Nat → Bool} (hW : Wd (t (M + 1)) o S) (ho : o + 4 ≤ 267) {x y : Nat} (hx : x < 16) (hy : y < 8) : jMet l g mX10_gives 2 0 0 [.ref (jb g + M), .int (nI o), .int (nI x), .int (nI y)] z sk t (fun v2 z2 sk2 t2 => v2 = none ∧ z = z2 ∧ sk = sk2 ∧ Wd (t2 (M + 1)) o (addS S (16 * y + x)) ∧ (∀ k, (k < o ∨ o + 4 ≤ k) → t2 (M + 1) k = t (M + 1) k) ∧ ∀ c, c ≠ M + 1 → t2 c = t c) := by
  refine j_body (lv := [some (.ref (jb g + M)), some (.int (nI o)), some (.int (nI x)), some (.int (nI y))]) i_X10_gives hok hst (fun p e s m args below meth c X => ?_)
  obtain ⟨M0, M1, M2, M3, M4, M5, M6, M7⟩ := id hM
  refine j_aload_n X (i := 0) dX10_gives_0 rfl rfl ?_
  refine j_iload_n X (i := 1) dX10_gives_1 rfl rfl ?_
  refine j_iload_n X (i := 2) dX10_gives_2 rfl rfl ?_
  refine j_iload_n X (i := 3) dX10_gives_3 rfl rfl ?_
  refine j_callV X (m_has hok hst hM hW ho hx hy) i_X10_has tw_6_164 tw_6_166 tp_29 M0 rfl dX10_gives_4 ?_ 
  cases hs : S (16 * y + x) with
  | true =>
    refine j_if_ne X (tgt := 17) dX10_gives_7 (by decide) (fun _ => ?_) (fun q9 => absurd q9 (by decide))
    exact j_vret X dX10_gives_17 rfl ⟨rfl, rfl, rfl, by rw [addS_has hs]; exact hW, fun _ _ => rfl, fun _ _ => rfl⟩
  | false =>
    refine j_if_ne X (tgt := 17) dX10_gives_7 (by decide) (fun q9 => absurd (rfl) q9) (fun _ => ?_)
    refine j_aload_n X (i := 0) dX10_gives_10 rfl rfl ?_
    refine j_iload_n X (i := 1) dX10_gives_11 rfl rfl ?_
    refine j_iload_n X (i := 2) dX10_gives_12 rfl rfl ?_
    refine j_iload_n X (i := 3) dX10_gives_13 rfl rfl ?_
    refine j_callV_p X (m_turns hok hst hM hW ho hx hy) i_X10_turns tw_6_175 tw_6_177 tp_31 M0 rfl dX10_gives_14 (fun v2 z2 sk2 t2 hp => ?_) 
    obtain ⟨rfl, rfl, rfl, e1, e2, e3⟩ := hp
    exact j_vret X dX10_gives_17 rfl ⟨rfl, rfl, rfl, by rw [addS_flip hs]; exact e1, e2, e3⟩

theorem m_bits {l : Launch} {g : jG} (hok : jOk g) (hst : l.stackTraces = false) {z : Option Nat} {sk : jS} {t : jT} (q : Nat → Bool) : jMet l g mX10_bits 1 0 0 [.int (nI (r32 q))] z sk t (jE (some (.int (nI (fb_ct q 32)))) z sk t) := by
  refine j_body (lv := [some (.int (nI (r32 q))), none, none]) i_X10_bits hok hst (fun p e s m args below meth c X => ?_)
  have key : ∀ k, k ≤ 32 → J p l e (jR 1 0 0) s m args below meth c (jQm below args s g 0 0 (jE (some (.int (nI (fb_ct q 32)))) z sk t)) 3 g 0 0 z sk t 4 [some (.int (nI (r32 q))), some (.int (nI (fb_ct q k))), some (.int (nI k))] [] := by
    refine up_loop ?_ ?_
    · refine j_iload_n X (i := 2) dX10_bits_4 rfl rfl ?_
      refine j_bipush X (v := (nI 32)) dX10_bits_5 (by decide) ?_
      refine j_icmp_ge X (tgt := 24) dX10_bits_7 (by decide) (fun _ => ?_) (fun q9 => absurd (nI_le (Nat.le_refl _) (by decide)) q9)
      refine j_iload_n X (i := 1) dX10_bits_24 rfl rfl ?_
      exact j_iret X dX10_bits_25 rfl rfl ⟨rfl, rfl, rfl, rfl⟩
    · intro k hk ih
      refine j_iload_n X (i := 2) dX10_bits_4 rfl rfl ?_
      refine j_bipush X (v := (nI 32)) dX10_bits_5 (by decide) ?_
      refine j_icmp_ge X (tgt := 24) dX10_bits_7 (by decide) (fun q9 => absurd q9 (nI_ge hk (by decide))) (fun _ => ?_)
      refine j_iload_n X (i := 1) dX10_bits_10 rfl rfl ?_
      refine j_iload_n X (i := 0) dX10_bits_11 rfl rfl ?_
      refine j_iload_n X (i := 2) dX10_bits_12 rfl rfl ?_
      refine j_ishr X dX10_bits_13 ?_
      refine j_iconst X (v := (nI 1)) dX10_bits_14 (by decide) ?_
      refine j_iand X dX10_bits_15 ?_
      rw [nI_bitI hk, r32_bit, decide_eq_true hk, Bool.true_and]
      refine j_iadd X dX10_bits_16 ?_
      rw [nI_add, show fb_ct q k + (q k).toNat = fb_ct q (k + 1) by rw [fb_ct_succ]; cases q k <;> rfl]
      refine j_istore_n X (i := 1) dX10_bits_17 rfl (by decide) rfl ?_
      refine j_iinc X (i := 2) (v := (nI (k + 1))) dX10_bits_18 rfl (nI_1 k) (by decide) rfl ?_
      refine j_goto X (tgt := 4) dX10_bits_21 (by decide) ?_
      exact ih
  refine j_iconst X (v := (nI 0)) dX10_bits_0 (by decide) ?_
  refine j_istore_n X (i := 1) dX10_bits_1 rfl (by decide) rfl ?_
  refine j_iconst X (v := (nI 0)) dX10_bits_2 (by decide) ?_
  refine j_istore_n X (i := 2) dX10_bits_3 rfl (by decide) rfl ?_
  exact key 0 (Nat.zero_le _)

theorem m_of {l : Launch} {g : jG} (hok : jOk g) (hst : l.stackTraces = false) {z : Option Nat} {sk : jS} {t : jT} {M : Nat} (hM : isMod g sk M) {k w : Nat} (hk : 9 + 7 * k + w < 267) : jMet l g mX10_of 1 0 0 [.ref (jb g + M), .int (nI k), .int (nI w)] z sk t (jE (some (.int (t (M + 1) (9 + 7 * k + w)))) z sk t) := by
  refine j_body (lv := [some (.ref (jb g + M)), some (.int (nI k)), some (.int (nI w))]) i_X10_of hok hst (fun p e s m args below meth c X => ?_)
  obtain ⟨M0, M1, M2, M3, M4, M5, M6, M7⟩ := id hM
  refine j_aload_n X (i := 0) dX10_of_0 rfl rfl ?_
  refine jFd.get X fd_X10_7 M0 rfl dX10_of_1 ?_
  refine j_bipush X (v := (nI 9)) dX10_of_4 (by decide) ?_
  refine j_bipush X (v := (nI 7)) dX10_of_6 (by decide) ?_
  refine j_iload_n X (i := 1) dX10_of_8 rfl rfl ?_
  refine j_imul X dX10_of_9 ?_
  refine j_iadd X dX10_of_10 ?_
  refine j_iload_n X (i := 2) dX10_of_11 rfl rfl ?_
  refine j_iadd X dX10_of_12 ?_
  rw [pk_mul, nI_add, nI_add]
  refine j_iald X M1 rfl hk (by decide) dX10_of_13 ?_
  exact j_iret X dX10_of_14 rfl rfl ⟨rfl, rfl, rfl, rfl⟩

theorem m_on {l : Launch} {g : jG} (hok : jOk g) (hst : l.stackTraces = false) {z : Option Nat} {sk : jS} {t : jT} {M : Nat} (hM : isMod g sk M) {k w : Nat} (hk : 51 + 27 * k + w < 267) : jMet l g mX10_on 1 0 0 [.ref (jb g + M), .int (nI k), .int (nI w)] z sk t (jE (some (.int (t (M + 1) (51 + 27 * k + w)))) z sk t) := by
  refine j_body (lv := [some (.ref (jb g + M)), some (.int (nI k)), some (.int (nI w))]) i_X10_on hok hst (fun p e s m args below meth c X => ?_)
  obtain ⟨M0, M1, M2, M3, M4, M5, M6, M7⟩ := id hM
  refine j_aload_n X (i := 0) dX10_on_0 rfl rfl ?_
  refine jFd.get X fd_X10_7 M0 rfl dX10_on_1 ?_
  refine j_bipush X (v := (nI 51)) dX10_on_4 (by decide) ?_
  refine j_bipush X (v := (nI 27)) dX10_on_6 (by decide) ?_
  refine j_iload_n X (i := 1) dX10_on_8 rfl rfl ?_
  refine j_imul X dX10_on_9 ?_
  refine j_iadd X dX10_on_10 ?_
  refine j_iload_n X (i := 2) dX10_on_11 rfl rfl ?_
  refine j_iadd X dX10_on_12 ?_
  rw [pk_mul, nI_add, nI_add]
  refine j_iald X M1 rfl hk (by decide) dX10_on_13 ?_
  exact j_iret X dX10_on_14 rfl rfl ⟨rfl, rfl, rfl, rfl⟩

theorem m_lays {l : Launch} {g : jG} (hok : jOk g) (hst : l.stackTraces = false) {z : Option Nat} {sk : jS} {t : jT} {M : Nat} (hM : isMod g sk M) {k w : Nat} (hk : 51 + 27 * k + w < 267) (v : Int32) : jMet l g mX10_lays 1 0 0 [.ref (jb g + M), .int (nI k), .int (nI w), .int v] z sk t (jE none z sk (jU t (M + 1) (51 + 27 * k + w) v)) := by
  refine j_body (lv := [some (.ref (jb g + M)), some (.int (nI k)), some (.int (nI w)), some (.int v)]) i_X10_lays hok hst (fun p e s m args below meth c X => ?_)
  obtain ⟨M0, M1, M2, M3, M4, M5, M6, M7⟩ := id hM
  refine j_aload_n X (i := 0) dX10_lays_0 rfl rfl ?_
  refine jFd.get X fd_X10_7 M0 rfl dX10_lays_1 ?_
  refine j_bipush X (v := (nI 51)) dX10_lays_4 (by decide) ?_
  refine j_bipush X (v := (nI 27)) dX10_lays_6 (by decide) ?_
  refine j_iload_n X (i := 1) dX10_lays_8 rfl rfl ?_
  refine j_imul X dX10_lays_9 ?_
  refine j_iadd X dX10_lays_10 ?_
  refine j_iload_n X (i := 2) dX10_lays_11 rfl rfl ?_
  refine j_iadd X dX10_lays_12 ?_
  rw [pk_mul, nI_add, nI_add]
  refine j_iload_n X (i := 3) dX10_lays_13 rfl rfl ?_
  refine j_iast X M1 rfl hk (by decide) dX10_lays_14 ?_
  exact j_vret X dX10_lays_15 rfl ⟨rfl, rfl, rfl, rfl⟩

theorem m_stars {l : Launch} {g : jG} (hok : jOk g) (hst : l.stackTraces = false) {z : Option Nat} {sk : jS} {t : jT} {M k : Nat} : jMet l g mX10_stars 1 0 0 [.ref (jb g + M), .int (nI k)] z sk t (jE (some (.int (nI (9 + 7 * k + 3)))) z sk t) := by
  refine j_body (lv := [some (.ref (jb g + M)), some (.int (nI k))]) i_X10_stars hok hst (fun p e s m args below meth c X => ?_)
  refine j_bipush X (v := (nI 9)) dX10_stars_0 (by decide) ?_
  refine j_bipush X (v := (nI 7)) dX10_stars_2 (by decide) ?_
  refine j_iload_n X (i := 1) dX10_stars_4 rfl rfl ?_
  refine j_imul X dX10_stars_5 ?_
  refine j_iadd X dX10_stars_6 ?_
  refine j_iconst X (v := (nI 3)) dX10_stars_7 (by decide) ?_
  refine j_iadd X dX10_stars_8 ?_
  rw [pk_mul, nI_add, nI_add]
  exact j_iret X dX10_stars_9 rfl rfl ⟨rfl, rfl, rfl, rfl⟩

theorem m_starred {l : Launch} {g : jG} (hok : jOk g) (hst : l.stackTraces = false) {z : Option Nat} {sk : jS} {t : jT} {M : Nat} (hM : isMod g sk M) {k : Nat} (hk : k < 6) {S : Nat → Bool} (hW : Wd (t (M + 1)) (9 + 7 * k + 3) S) : jMet l g mX10_starred 2 0 0 [.ref (jb g + M), .int (nI k)] z sk t (jE (some (.int (nI (cntB S)))) z sk t) := by
  refine j_body (lv := [some (.ref (jb g + M)), some (.int (nI k)), none, none]) i_X10_starred hok hst (fun p e s m args below meth c X => ?_)
  obtain ⟨M0, M1, M2, M3, M4, M5, M6, M7⟩ := id hM
  have e4 : ∀ n, fb_ct S (32 * n) = fb_sm (fun w => fb_ct (fun j => S (32 * w + j)) 32) n := by
    intro n
    induction n with
    | zero => rfl
    | succ n ih => rw [fb_sm_succ, ← ih, show 32 * (n + 1) = 32 * n + 32 by omega, fb_ct_split]
  have key : ∀ w, w ≤ 4 → J p l e (jR 2 0 0) s m args below meth c (jQm below args s g 0 0 (jE (some (.int (nI (cntB S)))) z sk t)) 4 g 0 0 z sk t 4 [some (.ref (jb g + M)), some (.int (nI k)), some (.int (nI (fb_ct S (32 * w)))), some (.int (nI w))] [] := by
    refine up_loop ?_ ?_
    · refine j_iload_n X (i := 3) dX10_starred_4 rfl rfl ?_
      refine j_iconst X (v := (nI 4)) dX10_starred_5 (by decide) ?_
      refine j_icmp_ge X (tgt := 33) dX10_starred_6 (by decide) (fun _ => ?_) (fun q9 => absurd (nI_le (Nat.le_refl _) (by decide)) q9)
      refine j_iload_n X (i := 2) dX10_starred_33 rfl rfl ?_
      exact j_iret X dX10_starred_34 rfl rfl ⟨rfl, rfl, rfl, rfl⟩
    · intro w hw ih
      refine j_iload_n X (i := 3) dX10_starred_4 rfl rfl ?_
      refine j_iconst X (v := (nI 4)) dX10_starred_5 (by decide) ?_
      refine j_icmp_ge X (tgt := 33) dX10_starred_6 (by decide) (fun q9 => absurd q9 (nI_ge hw (by decide))) (fun _ => ?_)
      refine j_iload_n X (i := 2) dX10_starred_9 rfl rfl ?_
      refine j_aload_n X (i := 0) dX10_starred_10 rfl rfl ?_
      refine jFd.get X fd_X10_7 M0 rfl dX10_starred_11 ?_
      refine j_aload_n X (i := 0) dX10_starred_14 rfl rfl ?_
      refine j_iload_n X (i := 1) dX10_starred_15 rfl rfl ?_
      refine j_callV X (m_stars hok hst (M := M)) i_X10_stars tw_6_160 tw_6_162 tp_28 M0 rfl dX10_starred_16 ?_ 
      refine j_iload_n X (i := 3) dX10_starred_19 rfl rfl ?_
      refine j_iadd X dX10_starred_20 ?_
      rw [nI_add]
      refine j_iald X M1 rfl (by omega) (by decide) dX10_starred_21 ?_
      rw [hW w hw]
      refine j_callS X (m_bits hok hst _) i_X10_bits tw_6_172 tw_6_173 dX10_starred_22 ?_ 
      refine j_iadd X dX10_starred_25 ?_
      rw [nI_add, ← fb_ct_split, show 32 * w + 32 = 32 * (w + 1) by omega]
      refine j_istore_n X (i := 2) dX10_starred_26 rfl (by decide) rfl ?_
      refine j_iinc X (i := 3) (v := (nI (w + 1))) dX10_starred_27 rfl (nI_1 w) (by decide) rfl ?_
      refine j_goto X (tgt := 4) dX10_starred_30 (by decide) ?_
      exact ih
  refine j_iconst X (v := (nI 0)) dX10_starred_0 (by decide) ?_
  refine j_istore_n X (i := 2) dX10_starred_1 rfl (by decide) rfl ?_
  refine j_iconst X (v := (nI 0)) dX10_starred_2 (by decide) ?_
  refine j_istore_n X (i := 3) dX10_starred_3 rfl (by decide) rfl ?_
  exact key 0 (Nat.zero_le _)

theorem m_which {l : Launch} {g : jG} (hok : jOk g) (hst : l.stackTraces = false) {z : Option Nat} {sk : jS} {t : jT} (x : Int32) : jMet l g mX10_which 1 0 0 [.int x] z sk t (jE (some (.int (iN (whI x)))) z sk t) := by
  refine j_body (lv := [some (.int x)]) i_X10_which hok hst (fun p e s m args below meth c X => ?_)
  refine j_iload_n X (i := 0) dX10_which_0 rfl rfl ?_
  refine j_iconst X (v := (nI 1)) dX10_which_1 (by decide) ?_
  refine j_icmp_ne X (tgt := 9) dX10_which_2 (by decide) (fun h2 => ?_) (fun h2 => ?_)
  rotate_left
  · subst h2
    refine j_iconst X (v := (nI 0)) dX10_which_5 (by decide) ?_
    refine j_goto X (tgt := 28) dX10_which_6 (by decide) ?_
    exact j_iret X dX10_which_28 rfl rfl ⟨rfl, rfl, rfl, rfl⟩
  refine j_iload_n X (i := 0) dX10_which_9 rfl rfl ?_
  refine j_iconst X (v := (nI 2)) dX10_which_10 (by decide) ?_
  refine j_icmp_ne X (tgt := 18) dX10_which_11 (by decide) (fun h11 => ?_) (fun h11 => ?_)
  rotate_left
  · subst h11
    refine j_iconst X (v := (nI 1)) dX10_which_14 (by decide) ?_
    refine j_goto X (tgt := 28) dX10_which_15 (by decide) ?_
    exact j_iret X dX10_which_28 rfl rfl ⟨rfl, rfl, rfl, rfl⟩
  refine j_iload_n X (i := 0) dX10_which_18 rfl rfl ?_
  refine j_iconst X (v := (nI 4)) dX10_which_19 (by decide) ?_
  refine j_icmp_ne X (tgt := 27) dX10_which_20 (by decide) (fun h20 => ?_) (fun h20 => ?_)
  rotate_left
  · subst h20
    refine j_iconst X (v := (nI 2)) dX10_which_23 (by decide) ?_
    refine j_goto X (tgt := 28) dX10_which_24 (by decide) ?_
    exact j_iret X dX10_which_28 rfl rfl ⟨rfl, rfl, rfl, rfl⟩
  refine j_iconst X (v := -1) dX10_which_27 (by decide) ?_
  exact j_iret X dX10_which_28 rfl rfl ⟨by unfold whI; rw [if_neg (fun q => (of_decide_eq_true q).elim h2 (fun q => q.elim h11 h20))]; rfl, rfl, rfl, rfl⟩

theorem m_isPlate {l : Launch} {g : jG} (hok : jOk g) (hst : l.stackTraces = false) {z : Option Nat} {sk : jS} {t : jT} {M : Nat} (hM : isMod g sk M) {n : Nat} (hn : t (M + 1) 0 = nI n) (hle : n < 100) (x : Int32) : jMet l g mX10_isPlate 2 0 0 [.ref (jb g + M), .int x] z sk t (jE (some (.int (nI (pIx n x).toNat))) z sk t) := by
  refine j_body (lv := [some (.ref (jb g + M)), some (.int x)]) i_X10_isPlate hok hst (fun p e s m args below meth c X => ?_)
  obtain ⟨M0, M1, M2, M3, M4, M5, M6, M7⟩ := id hM
  refine j_iload_n X (i := 1) dX10_isPlate_0 rfl rfl ?_
  refine j_iconst X (v := (nI 0)) dX10_isPlate_1 (by decide) ?_
  refine j_aload_n X (i := 0) dX10_isPlate_2 rfl rfl ?_
  refine jFd.get X fd_X10_7 M0 rfl dX10_isPlate_3 ?_
  refine j_iconst X (v := (nI 0)) dX10_isPlate_6 (by decide) ?_
  refine j_iald X M1 rfl (by decide) (by decide) dX10_isPlate_7 ?_
  rw [hn]
  refine j_iconst X (v := (nI 1)) dX10_isPlate_8 (by decide) ?_
  refine j_isub X dX10_isPlate_9 ?_
  have e1 : nI n - nI 1 = iN ((n : Int) - 1) := by rw [← iN_nI, ← iN_nI, iN_sub]; rfl
  have e2 : inB x (nI 0) (iN ((n : Int) - 1)) = pIx n x := by
    unfold inB pIx
    rw [iN_toInt (by omega) (by omega), show (nI 0).toInt = 0 by decide]
    exact decide_eq_decide.mpr (by omega)
  rw [e1]
  refine j_callS X (m_in hok hst _ _ _) i_X10_in tw_6_154 tw_6_155 dX10_isPlate_10 ?_ 
  rw [e2]
  exact j_iret X dX10_isPlate_13 rfl (nbB _) ⟨rfl, rfl, rfl, rfl⟩

theorem m_isSheet {l : Launch} {g : jG} (hok : jOk g) (hst : l.stackTraces = false) {z : Option Nat} {sk : jS} {t : jT} {M : Nat} (hM : isMod g sk M) {n : Nat} (hn : t (M + 1) 1 = nI n) (hle : n < 100) (x : Int32) : jMet l g mX10_isSheet 2 0 0 [.ref (jb g + M), .int x] z sk t (jE (some (.int (nI (pIx n x).toNat))) z sk t) := by
  refine j_body (lv := [some (.ref (jb g + M)), some (.int x)]) i_X10_isSheet hok hst (fun p e s m args below meth c X => ?_)
  obtain ⟨M0, M1, M2, M3, M4, M5, M6, M7⟩ := id hM
  refine j_iload_n X (i := 1) dX10_isSheet_0 rfl rfl ?_
  refine j_iconst X (v := (nI 0)) dX10_isSheet_1 (by decide) ?_
  refine j_aload_n X (i := 0) dX10_isSheet_2 rfl rfl ?_
  refine jFd.get X fd_X10_7 M0 rfl dX10_isSheet_3 ?_
  refine j_iconst X (v := (nI 1)) dX10_isSheet_6 (by decide) ?_
  refine j_iald X M1 rfl (by decide) (by decide) dX10_isSheet_7 ?_
  rw [hn]
  refine j_iconst X (v := (nI 1)) dX10_isSheet_8 (by decide) ?_
  refine j_isub X dX10_isSheet_9 ?_
  have e1 : nI n - nI 1 = iN ((n : Int) - 1) := by rw [← iN_nI, ← iN_nI, iN_sub]; rfl
  have e2 : inB x (nI 0) (iN ((n : Int) - 1)) = pIx n x := by
    unfold inB pIx
    rw [iN_toInt (by omega) (by omega), show (nI 0).toInt = 0 by decide]
    exact decide_eq_decide.mpr (by omega)
  rw [e1]
  refine j_callS X (m_in hok hst _ _ _) i_X10_in tw_6_154 tw_6_155 dX10_isSheet_10 ?_ 
  rw [e2]
  exact j_iret X dX10_isSheet_13 rfl (nbB _) ⟨rfl, rfl, rfl, rfl⟩

theorem m_fails {l : Launch} {g : jG} (hok : jOk g) (hst : l.stackTraces = false) {z : Option Nat} {sk : jS} {t : jT} {M : Nat} (hM : isMod g sk M) {n : Nat} (hn : n < 4) : jMet l g mX10_fails 1 0 0 [.ref (jb g + M), .int (nI n)] z sk t (jE (some (.int (nI (decide (0 < n)).toNat))) z sk (jU t M 7 (nI n))) := by
  refine j_body (lv := [some (.ref (jb g + M)), some (.int (nI n))]) i_X10_fails hok hst (fun p e s m args below meth c X => ?_)
  obtain ⟨M0, M1, M2, M3, M4, M5, M6, M7⟩ := id hM
  refine j_aload_n X (i := 0) dX10_fails_0 rfl rfl ?_
  refine j_iload_n X (i := 1) dX10_fails_1 rfl rfl ?_
  refine jFd.put X fd_X10_39 M0 rfl rfl rfl rfl dX10_fails_2 ?_
  refine j_iload_n X (i := 1) dX10_fails_5 rfl rfl ?_
  by_cases h : 0 < n
  · rw [decide_eq_true h]
    refine j_if_le X (tgt := 13) dX10_fails_6 (by decide) (fun q9 => absurd q9 ((show ¬ nI n ≤ nI 0 from nI_ge h (by omega)))) (fun _ => ?_)
    refine j_iconst X (v := (nI 1)) dX10_fails_9 (by decide) ?_
    refine j_goto X (tgt := 14) dX10_fails_10 (by decide) ?_
    exact j_iret X dX10_fails_14 rfl rfl ⟨rfl, rfl, rfl, rfl⟩
  · rw [decide_eq_false h]
    refine j_if_le X (tgt := 13) dX10_fails_6 (by decide) (fun _ => ?_) (fun q9 => absurd ((show nI n ≤ nI 0 from nI_le (by omega) (by decide))) q9)
    refine j_iconst X (v := (nI 0)) dX10_fails_13 (by decide) ?_
    exact j_iret X dX10_fails_14 rfl rfl ⟨rfl, rfl, rfl, rfl⟩

theorem m_refuses {l : Launch} {g : jG} (hok : jOk g) (hst : l.stackTraces = false) {z : Option Nat} {sk : jS} {t : jT} {M : Nat} (hM : isMod g sk M) (a e9 d : Int32) : jMet l g mX10_refuses 1 0 0 [.ref (jb g + M), .int a, .int e9, .int d] z sk t (jE (some (.int (nI 0))) z sk (jU (jU (jU t M 7 a) M 8 e9) M 9 d)) := by
  refine j_body (lv := [some (.ref (jb g + M)), some (.int a), some (.int e9), some (.int d)]) i_X10_refuses hok hst (fun p e s m args below meth c X => ?_)
  obtain ⟨M0, M1, M2, M3, M4, M5, M6, M7⟩ := id hM
  refine j_aload_n X (i := 0) dX10_refuses_0 rfl rfl ?_
  refine j_iload_n X (i := 1) dX10_refuses_1 rfl rfl ?_
  refine jFd.put X fd_X10_39 M0 rfl rfl rfl rfl dX10_refuses_2 ?_
  refine j_aload_n X (i := 0) dX10_refuses_5 rfl rfl ?_
  refine j_iload_n X (i := 2) dX10_refuses_6 rfl rfl ?_
  refine jFd.put X fd_X10_42 M0 rfl rfl rfl rfl dX10_refuses_7 ?_
  refine j_aload_n X (i := 0) dX10_refuses_10 rfl rfl ?_
  refine j_iload_n X (i := 3) dX10_refuses_11 rfl rfl ?_
  refine jFd.put X fd_X10_45 M0 rfl rfl rfl rfl dX10_refuses_12 ?_
  refine j_iconst X (v := (nI 0)) dX10_refuses_15 (by decide) ?_
  exact j_iret X dX10_refuses_16 rfl rfl ⟨rfl, rfl, rfl, rfl⟩

theorem m_sets {l : Launch} {g : jG} (hok : jOk g) (hst : l.stackTraces = false) {z : Option Nat} {sk : jS} {t : jT} {M : Nat} (hM : isMod g sk M) {k : Nat} (hk : k < 6) (dx dy : Int32) : jMet l g mX10_sets 1 0 0 [.ref (jb g + M), .int (nI k), .int dx, .int dy] z sk t (jE none z sk (jU (jU t (M + 1) (9 + 7 * k + 1) dx) (M + 1) (9 + 7 * k + 2) dy)) := by
  refine j_body (lv := [some (.ref (jb g + M)), some (.int (nI k)), some (.int dx), some (.int dy)]) i_X10_sets hok hst (fun p e s m args below meth c X => ?_)
  obtain ⟨M0, M1, M2, M3, M4, M5, M6, M7⟩ := id hM
  refine j_aload_n X (i := 0) dX10_sets_0 rfl rfl ?_
  refine jFd.get X fd_X10_7 M0 rfl dX10_sets_1 ?_
  refine j_bipush X (v := (nI 9)) dX10_sets_4 (by decide) ?_
  refine j_bipush X (v := (nI 7)) dX10_sets_6 (by decide) ?_
  refine j_iload_n X (i := 1) dX10_sets_8 rfl rfl ?_
  refine j_imul X dX10_sets_9 ?_
  refine j_iadd X dX10_sets_10 ?_
  refine j_iconst X (v := (nI 1)) dX10_sets_11 (by decide) ?_
  refine j_iadd X dX10_sets_12 ?_
  rw [pk_mul, nI_add, nI_add]
  refine j_iload_n X (i := 2) dX10_sets_13 rfl rfl ?_
  refine j_iast X M1 rfl (by omega) (by decide) dX10_sets_14 ?_
  refine j_aload_n X (i := 0) dX10_sets_15 rfl rfl ?_
  refine jFd.get X fd_X10_7 M0 rfl dX10_sets_16 ?_
  refine j_bipush X (v := (nI 9)) dX10_sets_19 (by decide) ?_
  refine j_bipush X (v := (nI 7)) dX10_sets_21 (by decide) ?_
  refine j_iload_n X (i := 1) dX10_sets_23 rfl rfl ?_
  refine j_imul X dX10_sets_24 ?_
  refine j_iadd X dX10_sets_25 ?_
  refine j_iconst X (v := (nI 2)) dX10_sets_26 (by decide) ?_
  refine j_iadd X dX10_sets_27 ?_
  rw [pk_mul, nI_add, nI_add]
  refine j_iload_n X (i := 3) dX10_sets_28 rfl rfl ?_
  refine j_iast X M1 rfl (by omega) (by decide) dX10_sets_29 ?_
  exact j_vret X dX10_sets_30 rfl ⟨rfl, rfl, rfl, rfl⟩

theorem m_copies {l : Launch} {g : jG} (hok : jOk g) (hst : l.stackTraces = false) {z : Option Nat} {sk : jS} {t : jT} {i0 i1 n0 n1 o0 o1 : Nat} (h0 : sk i0 = some (kA .int n0)) (h1 : sk i1 = some (kA .int n1)) (hne : i0 ≠ i1) (l0 : o0 + 267 ≤ n0) (l1 : o1 + 267 ≤ n1) (b0 : n0 < 2 ^ 31) (b1 : n1 < 2 ^ 31) : jMet l g mX10_copies 1 0 0 [.ref (jb g + i0), .int (nI o0), .ref (jb g + i1), .int (nI o1)] z sk t (jE none z sk (jUf t i1 (cpM t i0 o0 i1 o1 267))) := by
  refine j_body (lv := [some (.ref (jb g + i0)), some (.int (nI o0)), some (.ref (jb g + i1)), some (.int (nI o1)), none]) i_X10_copies hok hst (fun p e s m args below meth c X => ?_)
  have key : ∀ k, k ≤ 267 → J p l e (jR 1 0 0) s m args below meth c (jQm below args s g 0 0 (jE none z sk (jUf t i1 (cpM t i0 o0 i1 o1 267)))) 5 g 0 0 z sk  (jUf t i1 (cpM t i0 o0 i1 o1 k)) 3 [some (.ref (jb g + i0)), some (.int (nI o0)), some (.ref (jb g + i1)), some (.int (nI o1)), some (.int (nI k))] [] := by
    refine up_loop ?_ ?_
    · refine j_iload X (i := 4) dX10_copies_3 rfl ?_
      refine j_sipush X (v := (nI 267)) dX10_copies_5 (by decide) ?_
      refine j_icmp_ge X (tgt := 29) dX10_copies_8 (by decide) (fun _ => ?_) (fun q9 => absurd (nI_le (Nat.le_refl _) (by decide)) q9)
      exact j_vret X dX10_copies_29 rfl ⟨rfl, rfl, rfl, rfl⟩
    · intro k hk ih
      refine j_iload X (i := 4) dX10_copies_3 rfl ?_
      refine j_sipush X (v := (nI 267)) dX10_copies_5 (by decide) ?_
      refine j_icmp_ge X (tgt := 29) dX10_copies_8 (by decide) (fun q9 => absurd q9 (nI_ge hk (by decide))) (fun _ => ?_)
      refine j_aload_n X (i := 2) dX10_copies_11 rfl rfl ?_
      refine j_iload_n X (i := 3) dX10_copies_12 rfl rfl ?_
      refine j_iload X (i := 4) dX10_copies_13 rfl ?_
      refine j_iadd X dX10_copies_15 ?_
      rw [nI_add]
      refine j_aload_n X (i := 0) dX10_copies_16 rfl rfl ?_
      refine j_iload_n X (i := 1) dX10_copies_17 rfl rfl ?_
      refine j_iload X (i := 4) dX10_copies_18 rfl ?_
      refine j_iadd X dX10_copies_20 ?_
      rw [nI_add]
      refine j_iald X h0 rfl (by omega) b0 dX10_copies_21 ?_
      rw [jUf_ne _ _ hne]
      refine j_iast X h1 rfl (by omega) b1 dX10_copies_22 ?_
      refine j_iinc X (i := 4) (v := (nI (k + 1))) dX10_copies_23 rfl (nI_1 k) (by decide) rfl ?_
      refine j_goto X (tgt := 3) dX10_copies_26 (by decide) ?_
      have e : jU (jUf t i1 (cpM t i0 o0 i1 o1 k)) i1 (o1 + k) (t i0 (o0 + k)) = jUf t i1 (cpM t i0 o0 i1 o1 (k + 1)) := by
        rw [jU_row, jUf_jUf, jUf_eq]
        congr 1
        funext j
        unfold upd cpM
        by_cases hj : j = o1 + k
        · subst hj
          rw [if_pos rfl, if_pos (by omega), show o1 + k - o1 = k by omega]
        · rw [if_neg hj]
          by_cases h2 : o1 ≤ j ∧ j < o1 + k
          · rw [if_pos h2, if_pos (by omega)]
          · rw [if_neg h2, if_neg (by omega)]
      rw [e]
      exact ih
  refine j_iconst X (v := (nI 0)) dX10_copies_0 (by decide) ?_
  refine j_istore X (i := 4) dX10_copies_1 (by decide) rfl ?_
  have k0 := key 0 (Nat.zero_le _)
  rw [show cpM t i0 o0 i1 o1 0 = t i1 from funext fun j => if_neg (by omega), jUf_self] at k0
  exact k0

theorem m_keepsIn {l : Launch} {g : jG} (hok : jOk g) (hst : l.stackTraces = false) {z : Option Nat} {sk : jS} {t : jT} {M : Nat} (hM : isMod g sk M) (hw : t M 6 = nI 1) (r : Nat) : jMet l g mX10_keeps 2 0 0 [.ref (jb g + M), .ref (jb g + r)] z sk t (jE none z sk (jU t M 7 (nI 0))) := by
  refine j_body (lv := [some (.ref (jb g + M)), some (.ref (jb g + r)), none]) i_X10_keeps hok hst (fun p e s m args below meth c X => ?_)
  obtain ⟨M0, M1, M2, M3, M4, M5, M6, M7⟩ := id hM
  refine j_aload_n X (i := 0) dX10_keeps_0 rfl rfl ?_
  refine j_iconst X (v := (nI 0)) dX10_keeps_1 (by decide) ?_
  refine jFd.put X fd_X10_39 M0 rfl rfl rfl rfl dX10_keeps_2 ?_
  refine j_aload_n X (i := 0) dX10_keeps_5 rfl rfl ?_
  refine jFd.get X fd_X10_48 M0 rfl dX10_keeps_6 ?_
  rw [show jU t M 7 (nI 0) M 6 = nI 1 by rw [jU_eq]; exact hw]
  refine j_if_eq X (tgt := 13) dX10_keeps_9 (by decide) (fun q9 => absurd q9 (by decide)) (fun _ => ?_)
  exact j_vret X dX10_keeps_12 rfl ⟨rfl, rfl, rfl, rfl⟩

theorem RmH.first {f f2 : Nat → Int32} {h : Nat × (Nat → SV)} {V : SV} (hh : RmH f h) (hk : ∀ i, i < h.1 → np (h.2 i) ≤ 6 ∧ ns (h.2 i) ≤ 8) (hV : RmV (fun k => f2 (267 * h.1 + k)) V) (h8 : h.1 < 8) (e : ∀ k, k < 267 * h.1 → f2 k = f k) : RmH f2 (pushH h V) := by
  unfold pushH
  rw [if_pos h8]
  refine ⟨h8, fun i hi => ?_⟩
  show RmV _ (if i = h.1 then V else h.2 i)
  have hi : i < h.1 + 1 := hi
  by_cases q : i = h.1
  · rw [if_pos q, q]; exact hV
  · rw [if_neg q]
    exact (hh.2 i (by omega)).cong (hk i (by omega)).1 (hk i (by omega)).2 (fun k hk => e _ (by omega))
theorem RmH.full {f f2 : Nat → Int32} {h : Nat × (Nat → SV)} {V : SV} (hh : RmH f h) (hk : ∀ i, i < h.1 → np (h.2 i) ≤ 6 ∧ ns (h.2 i) ≤ 8) (hV : RmV (fun k => f2 (267 * 7 + k)) V) (h8 : h.1 = 8) (e : ∀ k, k < 267 * 7 → f2 k = f (k + 267)) : RmH f2 (pushH h V) := by
  unfold pushH
  rw [if_neg (by omega)]
  refine ⟨Nat.le_refl 8, fun i hi => ?_⟩
  show RmV _ (if i = 7 then V else h.2 (i + 1))
  have hi : i < 8 := hi
  by_cases q : i = 7
  · rw [if_pos q, q]; exact hV
  · rw [if_neg q]
    refine (hh.2 (i + 1) (by omega)).cong (hk (i + 1) (by omega)).1 (hk (i + 1) (by omega)).2 (fun k hk => ?_)
    show f2 (267 * i + k) = f (267 * (i + 1) + k)
    rw [e _ (by omega)]
    congr 1
    omega
theorem m_keeps {l : Launch} {g : jG} (hok : jOk g) (hst : l.stackTraces = false) {z : Option Nat} {sk : jS} {t : jT} {M : Nat} (hM : isMod g sk M) (hw : t M 6 = nI 0) {h : Nat × (Nat → SV)} (hc : t M 5 = nI h.1) (hh : RmH (t (M + 2)) h) (hk : ∀ i, i < h.1 → np (h.2 i) ≤ 6 ∧ ns (h.2 i) ≤ 8) {r : Nat} (hr : sk r = some (kA .int 267)) (r1 : r ≠ M) (r2 : r ≠ M + 2) {V : SV} (hV : RmV (t r) V) (hVk : np V ≤ 6 ∧ ns V ≤ 8) : jMet l g mX10_keeps 2 0 0 [.ref (jb g + M), .ref (jb g + r)] z sk t (fun v2 z2 sk2 t2 => v2 = none ∧ z = z2 ∧ sk = sk2 ∧ (∀ c, c ≠ M → c ≠ M + 2 → t2 c = t c) ∧ (∀ k, k ≠ 5 → k ≠ 7 → t2 M k = t M k) ∧ t2 M 5 = nI (pushH h V).1 ∧ t2 M 7 = nI 0 ∧ RmH (t2 (M + 2)) (pushH h V)) := by
  refine j_body (lv := [some (.ref (jb g + M)), some (.ref (jb g + r)), none]) i_X10_keeps hok hst (fun p e s m args below meth c X => ?_)
  obtain ⟨M0, M1, M2, M3, M4, M5, M6, M7⟩ := id hM
  have copy : ∀ (t1 : jT) (n : Nat), n ≤ 7 → (∀ c, c ≠ M → c ≠ M + 2 → t1 c = t c) → (∀ k, k ≠ 5 → k ≠ 7 → t1 M k = t M k) → t1 M 5 = nI n → t1 M 7 = nI 0 → (n + 1 = (pushH h V).1) → (∀ t2 : jT, (∀ k, k < 267 * n → t2 (M + 2) k = t1 (M + 2) k) → RmV (fun k => t2 (M + 2) (267 * n + k)) V → RmH (t2 (M + 2)) (pushH h V)) → J p l e (jR 2 0 0) s m args below meth c (jQm below args s g 0 0 (fun v2 z2 sk2 t2 => v2 = none ∧ z = z2 ∧ sk = sk2 ∧ (∀ c, c ≠ M → c ≠ M + 2 → t2 c = t c) ∧ (∀ k, k ≠ 5 → k ≠ 7 → t2 M k = t M k) ∧ t2 M 5 = nI (pushH h V).1 ∧ t2 M 7 = nI 0 ∧ RmH (t2 (M + 2)) (pushH h V))) 3 g 0 0 z sk  t1 63 [some (.ref (jb g + M)), some (.ref (jb g + r)), none] [] := by
    intro t1 n hn7 hf hm h5 h7 hcn hfin
    refine j_aload_n X (i := 1) dX10_keeps_63 rfl rfl ?_
    refine j_iconst X (v := (nI 0)) dX10_keeps_64 (by decide) ?_
    refine j_aload_n X (i := 0) dX10_keeps_65 rfl rfl ?_
    refine jFd.get X fd_X10_13 M0 rfl dX10_keeps_66 ?_
    refine j_sipush X (v := (nI 267)) dX10_keeps_69 (by decide) ?_
    refine j_aload_n X (i := 0) dX10_keeps_72 rfl rfl ?_
    refine jFd.get X fd_X10_52 M0 rfl dX10_keeps_73 ?_
    rw [h5]
    refine j_imul X dX10_keeps_76 ?_
    rw [pk_mul]
    refine j_callS X (m_copies hok hst (o0 := 0) (o1 := 267 * n) hr M2 r2 (by omega) (by omega) (by decide) (by decide)) i_X10_copies tw_6_143 tw_6_144 dX10_keeps_77 ?_ 
    have e5 : jUf t1 (M + 2) (cpM t1 r 0 (M + 2) (267 * n) 267) M 5 = nI n := by rw [jUf_ne _ _ (by omega)]; exact h5
    refine j_aload_n X (i := 0) dX10_keeps_80 rfl rfl ?_
    refine j_dup X dX10_keeps_81 rfl ?_
    refine jFd.get X fd_X10_52 M0 rfl dX10_keeps_82 ?_
    refine j_iconst X (v := (nI 1)) dX10_keeps_85 (by decide) ?_
    rw [e5]
    refine j_iadd X dX10_keeps_86 ?_
    rw [nI_add]
    refine jFd.put X fd_X10_52 M0 rfl rfl rfl rfl dX10_keeps_87 ?_
    have eK : (jU (jUf t1 (M + 2) (cpM t1 r 0 (M + 2) (267 * n) 267)) M 5 (nI (n + 1))) (M + 2) = cpM t1 r 0 (M + 2) (267 * n) 267 := by rw [jU_ne _ _ _ (by omega), jUf_eq]
    have eM : (jU (jUf t1 (M + 2) (cpM t1 r 0 (M + 2) (267 * n) 267)) M 5 (nI (n + 1))) M = upd (t1 M) 5 (nI (n + 1)) := by rw [jU_eq, jUf_ne _ _ (by omega)]
    refine j_vret X dX10_keeps_90 rfl ⟨rfl, rfl, rfl, fun c h1 h2 => by rw [jU_ne _ _ _ h1, jUf_ne _ _ h2]; exact hf c h1 h2, fun k k5 k7 => by rw [eM]; unfold upd; rw [if_neg k5]; exact hm k k5 k7, by rw [eM, ← hcn]; rfl, by rw [eM]; exact h7, ?_⟩
    refine hfin _ (fun k hk => ?_) ?_
    · rw [eK]
      exact if_neg (by omega)
    · rw [eK]
      refine hV.cong hVk.1 hVk.2 (fun k hk => ?_)
      show cpM t1 r 0 (M + 2) (267 * n) 267 (267 * n + k) = t r k
      unfold cpM
      rw [if_pos (by omega), hf r r1 r2]
      congr 1
      omega
  have e6 : jU t M 7 (nI 0) M 6 = nI 0 := by rw [jU_eq]; exact hw
  have e5 : jU t M 7 (nI 0) M 5 = nI h.1 := by rw [jU_eq]; exact hc
  have o7 : ∀ c, c ≠ M → jU t M 7 (nI 0) c = t c := fun c hc => jU_ne _ _ _ hc
  have m7 : ∀ k, k ≠ 7 → jU t M 7 (nI 0) M k = t M k := fun k hk => by rw [jU_eq]; exact if_neg hk
  have z7 : jU t M 7 (nI 0) M 7 = nI 0 := by rw [jU_eq]; rfl
  have h8 := hh.1
  refine j_aload_n X (i := 0) dX10_keeps_0 rfl rfl ?_
  refine j_iconst X (v := (nI 0)) dX10_keeps_1 (by decide) ?_
  refine jFd.put X fd_X10_39 M0 rfl rfl rfl rfl dX10_keeps_2 ?_
  refine j_aload_n X (i := 0) dX10_keeps_5 rfl rfl ?_
  refine jFd.get X fd_X10_48 M0 rfl dX10_keeps_6 ?_
  rw [e6]
  refine j_if_eq X (tgt := 13) dX10_keeps_9 (by decide) (fun _ => ?_) (fun q9 => absurd (rfl) q9)
  refine j_aload_n X (i := 0) dX10_keeps_13 rfl rfl ?_
  refine jFd.get X fd_X10_52 M0 rfl dX10_keeps_14 ?_
  refine j_bipush X (v := (nI 8)) dX10_keeps_17 (by decide) ?_
  rw [e5]
  generalize jU t M 7 (nI 0) = t0 at e6 e5 o7 m7 z7 ⊢
  by_cases hq : h.1 = 8
  · refine j_icmp_ne X (tgt := 63) dX10_keeps_19 (by decide) (fun q9 => absurd ((congrArg nI hq)) q9) (fun _ => ?_)
    have loop : ∀ k, k ≤ 1869 → J p l e (jR 2 0 0) s m args below meth c (jQm below args s g 0 0 (fun v2 z2 sk2 t2 => v2 = none ∧ z = z2 ∧ sk = sk2 ∧ (∀ c, c ≠ M → c ≠ M + 2 → t2 c = t c) ∧ (∀ k, k ≠ 5 → k ≠ 7 → t2 M k = t M k) ∧ t2 M 5 = nI (pushH h V).1 ∧ t2 M 7 = nI 0 ∧ RmH (t2 (M + 2)) (pushH h V))) 3 g 0 0 z sk  (jUf t0 (M + 2) (fun j => if j < k then t0 (M + 2) (j + 267) else t0 (M + 2) j)) 24 [some (.ref (jb g + M)), some (.ref (jb g + r)), some (.int (nI k))] [] := by
      refine up_loop ?_ ?_
      · refine j_iload_n X (i := 2) dX10_keeps_24 rfl rfl ?_
        refine j_sipush X (v := (nI 1869)) dX10_keeps_25 (by decide) ?_
        refine j_icmp_ge X (tgt := 53) dX10_keeps_28 (by decide) (fun _ => ?_) (fun q9 => absurd (nI_le (Nat.le_refl _) (by decide)) q9)
        obtain ⟨t1, ht1⟩ : ∃ t1, t1 = jUf t0 (M + 2) (fun j => if j < 1869 then t0 (M + 2) (j + 267) else t0 (M + 2) j) := ⟨_, rfl⟩
        have oM : ∀ c, c ≠ M + 2 → t1 c = t0 c := fun c hc => by rw [ht1]; exact jUf_ne _ _ hc
        have eK : t1 (M + 2) = fun j => if j < 1869 then t0 (M + 2) (j + 267) else t0 (M + 2) j := by rw [ht1]; exact jUf_eq _ _ _
        rw [← ht1]
        clear ht1
        refine j_aload_n X (i := 0) dX10_keeps_53 rfl rfl ?_
        refine j_dup X dX10_keeps_54 rfl ?_
        refine jFd.get X fd_X10_52 M0 rfl dX10_keeps_55 ?_
        refine j_iconst X (v := (nI 1)) dX10_keeps_58 (by decide) ?_
        rw [oM M (by omega), e5, hq]
        refine j_isub X dX10_keeps_59 ?_
        refine jFd.put X fd_X10_52 M0 rfl rfl rfl rfl dX10_keeps_60 ?_
        refine j_drop 2 ?_
        refine copy _ 7 (by omega) (fun c h1 h2 => ?_) (fun k k5 k7 => ?_) ?_ ?_ ?_ (fun t2 f1 f2 => ?_)
        · rw [jU_ne _ _ _ h1, oM c h2, o7 c h1]
        · rw [jU_eq, oM M (by omega)]
          unfold upd
          rw [if_neg k5]
          exact m7 k k7
        · rw [jU_eq]; rfl
        · rw [jU_eq, oM M (by omega)]; exact z7
        · unfold pushH; rw [if_neg (by omega)]
        · refine hh.full hk f2 hq (fun k hk => ?_)
          rw [f1 k hk, jU_ne _ _ _ (by omega), eK, ← o7 (M + 2) (by omega)]
          exact if_pos (by omega)
      · intro k hk ih
        refine j_iload_n X (i := 2) dX10_keeps_24 rfl rfl ?_
        refine j_sipush X (v := (nI 1869)) dX10_keeps_25 (by decide) ?_
        refine j_icmp_ge X (tgt := 53) dX10_keeps_28 (by decide) (fun q9 => absurd q9 (nI_ge hk (by decide))) (fun _ => ?_)
        refine j_aload_n X (i := 0) dX10_keeps_31 rfl rfl ?_
        refine jFd.get X fd_X10_13 M0 rfl dX10_keeps_32 ?_
        refine j_iload_n X (i := 2) dX10_keeps_35 rfl rfl ?_
        refine j_aload_n X (i := 0) dX10_keeps_36 rfl rfl ?_
        refine jFd.get X fd_X10_13 M0 rfl dX10_keeps_37 ?_
        refine j_iload_n X (i := 2) dX10_keeps_40 rfl rfl ?_
        refine j_sipush X (v := (nI 267)) dX10_keeps_41 (by decide) ?_
        refine j_iadd X dX10_keeps_44 ?_
        rw [nI_add]
        refine j_iald X M2 rfl (by omega) (by decide) dX10_keeps_45 ?_
        rw [jUf_eq]
        refine j_iast X M2 rfl (by omega) (by decide) dX10_keeps_46 ?_
        refine j_iinc X (i := 2) (v := (nI (k + 1))) dX10_keeps_47 rfl (nI_1 k) (by decide) rfl ?_
        refine j_goto X (tgt := 24) dX10_keeps_50 (by decide) ?_
        have e : jU (jUf t0 (M + 2) (fun j => if j < k then t0 (M + 2) (j + 267) else t0 (M + 2) j)) (M + 2) k (if k + 267 < k then t0 (M + 2) (k + 267 + 267) else t0 (M + 2) (k + 267)) = jUf t0 (M + 2) (fun j => if j < k + 1 then t0 (M + 2) (j + 267) else t0 (M + 2) j) := by
          rw [jU_row, jUf_jUf, jUf_eq]
          congr 1
          funext j
          unfold upd
          by_cases hj : j = k
          · subst hj
            rw [if_pos rfl, if_neg (by omega), if_pos (by omega)]
          · rw [if_neg hj]
            show (if j < k then _ else _) = _
            by_cases h2 : j < k
            · rw [if_pos h2, if_pos (by omega)]
            · rw [if_neg h2, if_neg (by omega)]
        rw [e]
        exact ih
    refine j_iconst X (v := (nI 0)) dX10_keeps_22 (by decide) ?_
    refine j_istore_n X (i := 2) dX10_keeps_23 rfl (by decide) rfl ?_
    have k0 := loop 0 (Nat.zero_le _)
    rw [show (fun j => if j < 0 then t0 (M + 2) (j + 267) else t0 (M + 2) j) = t0 (M + 2) from funext fun j => if_neg (Nat.not_lt_zero j), jUf_self] at k0
    exact k0
  · refine j_icmp_ne X (tgt := 63) dX10_keeps_19 (by decide) (fun _ => ?_) (fun q9 => absurd q9 ((fun q => hq ((nI_eq (by omega) (by decide)).mp q))))
    refine copy _ h.1 (by omega) (fun c h1 h2 => o7 c h1) (fun k k5 k7 => m7 k k7) e5 z7 ?_ (fun t2 f1 f2 => ?_)
    · unfold pushH; rw [if_pos (by omega)]
    · refine hh.first hk f2 (by omega) (fun k hk => ?_)
      rw [f1 k hk, o7 _ (by omega)]

