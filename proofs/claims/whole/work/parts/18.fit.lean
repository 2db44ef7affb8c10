theorem abs_iN {d : Int} (h1 : -3 ≤ d) (h2 : d ≤ 3) : (if 0 ≤ iN d then iN d else 0 - iN d) = nI d.natAbs := by
  rcases (by omega : d = -3 ∨ d = -2 ∨ d = -1 ∨ d = 0 ∨ d = 1 ∨ d = 2 ∨ d = 3) with rfl | rfl | rfl | rfl | rfl | rfl | rfl <;> decide +kernel
abbrev jFit (g : jG) (f : Nat) : jK := kO 2 [fun _ => .ref (jb g + (f + 1)), fun _ => .ref (jb g + (f + 2)), fun _ => .ref (jb g + (f + 3)), fun _ => .ref (jb g + (f + 4)), fun _ => .ref (jb g + (f + 5)), .int, .int, .int]
abbrev F3 : Type := Int × Int × Int
/-- a better shift is taken -/
def stp (s : F3) (dx dy : Int) (n : Nat) : F3 := if (n : Int) > s.1 ∨ ((n : Int) = s.1 ∧ dx.natAbs + dy.natAbs < s.2.1.natAbs + s.2.2.natAbs) then ((n : Int), dx, dy) else s
def bsG (S U : Nat → Bool) (s : F3) : Nat → F3
  | 0 => s
  | j + 1 => stp (bsG S U s j) ((j / 7 : Nat) - 3) ((j % 7 : Nat) - 3) (matB S U ((j / 7 : Nat) - 3) ((j % 7 : Nat) - 3))
/-- the best shift of two sets: how many match, columns, rows -/
def bst (S U : Nat → Bool) : F3 := bsG S U (-1, 0, 0) 49
def okF (s : F3) : Prop := -1 ≤ s.1 ∧ s.1 ≤ 128 ∧ -3 ≤ s.2.1 ∧ s.2.1 ≤ 3 ∧ -3 ≤ s.2.2 ∧ s.2.2 ≤ 3
theorem matB_le (S U : Nat → Bool) (dx dy : Int) : matB S U dx dy ≤ 128 := fb_ct_le _ _
theorem stp_ok {s : F3} (h : okF s) {dx dy : Int} {n : Nat} (hn : n ≤ 128) (h1 : -3 ≤ dx) (h2 : dx ≤ 3) (h3 : -3 ≤ dy) (h4 : dy ≤ 3) : okF (stp s dx dy n) := by
  unfold stp
  split
  · exact ⟨by show -1 ≤ (n : Int); omega, by show (n : Int) ≤ 128; omega, h1, h2, h3, h4⟩
  · exact h
theorem bsG_ok {S U : Nat → Bool} {s : F3} (h : okF s) : ∀ j, j ≤ 49 → okF (bsG S U s j)
  | 0, _ => h
  | j + 1, hj => stp_ok (bsG_ok h j (by omega)) (matB_le _ _ _ _) (by omega) (by omega) (by omega) (by omega)
theorem bsG_one (S U : Nat → Bool) (a b : Int) : ∀ j, 0 < j → bsG S U (-1, a, b) j = bsG S U (-1, 0, 0) j
  | 0, h => absurd h (by decide)
  | 1, _ => by
    show stp (-1, a, b) _ _ _ = stp (-1, 0, 0) _ _ _
    unfold stp
    rw [if_pos (Or.inl (by show (_ : Int) > -1; omega)), if_pos (Or.inl (by show (_ : Int) > -1; omega))]
  | j + 2, _ => by
    show stp (bsG S U (-1, a, b) (j + 1)) _ _ _ = stp (bsG S U (-1, 0, 0) (j + 1)) _ _ _
    rw [bsG_one S U a b (j + 1) (by omega)]
theorem bst_eq (S U : Nat → Bool) (a b : Int) : bsG S U (-1, a, b) 49 = bst S U := bsG_one S U a b 49 (by decide)
theorem bst_ok (S U : Nat → Bool) : okF (bst S U) := bsG_ok ⟨by decide, by decide, by decide, by decide, by decide, by decide⟩ 49 (Nat.le_refl _)
/-- the best of the first j shifts has at least as many matches as each, and as many as one -/
theorem bsG_max (S U : Nat → Bool) (s : F3) (hs : s.1 = -1) : ∀ j, (∀ k, k < j → (matB S U ((k / 7 : Nat) - 3) ((k % 7 : Nat) - 3) : Int) ≤ (bsG S U s j).1) ∧ (j = 0 ∨ ∃ k, k < j ∧ (bsG S U s j).1 = (matB S U ((k / 7 : Nat) - 3) ((k % 7 : Nat) - 3) : Int))
  | 0 => ⟨fun k hk => absurd hk (by omega), Or.inl rfl⟩
  | j + 1 => by
    obtain ⟨h1, h2⟩ := bsG_max S U s hs j
    have e : bsG S U s (j + 1) = stp (bsG S U s j) ((j / 7 : Nat) - 3) ((j % 7 : Nat) - 3) (matB S U ((j / 7 : Nat) - 3) ((j % 7 : Nat) - 3)) := rfl
    rw [e]
    unfold stp
    split
    · next hc =>
      refine ⟨fun k hk => ?_, Or.inr ⟨j, by omega, rfl⟩⟩
      by_cases hkj : k = j
      · subst hkj; exact Int.le_refl _
      · have := h1 k (by omega)
        show _ ≤ ((matB S U ((j / 7 : Nat) - 3) ((j % 7 : Nat) - 3) : Nat) : Int)
        rcases hc with hc | hc <;> omega
    · next hc =>
      refine ⟨fun k hk => ?_, Or.inr ?_⟩
      · by_cases hkj : k = j
        · subst hkj
          have := fun q => hc (Or.inl q)
          omega
        · exact h1 k (by omega)
      · rcases h2 with h2 | ⟨k, hk, h2⟩
        · subst h2
          refine absurd (Or.inl ?_) hc
          show (_ : Int) > s.1
          omega
        · exact ⟨k, by omega, h2⟩
/-- the three numbers of a fitting -/
def fit3 (t : jT) (f : Nat) (s : F3) : jT := jUf t f (fun k => if k = 5 then iN s.1 else if k = 6 then iN s.2.1 else if k = 7 then iN s.2.2 else t f k)
theorem fit3_f (t : jT) (f : Nat) (s : F3) : fit3 t f s f = fun k => if k = 5 then iN s.1 else if k = 6 then iN s.2.1 else if k = 7 then iN s.2.2 else t f k := jUf_eq _ _ _
theorem fit3_ne (t : jT) {f a : Nat} (s : F3) (h : a ≠ f) : fit3 t f s a = t a := jUf_ne _ _ h
theorem fit3_put (t : jT) (f : Nat) (s : F3) (x : Int32) (u : F3) : jU (jU (jU (fit3 t f s) f 5 (iN u.1)) f 6 (iN u.2.1)) f 7 (iN u.2.2) = fit3 t f u := by
  unfold fit3
  rw [jU_row, jU_row, jU_row]
  simp only [jUf_eq, jUf_jUf]
  congr 1
  funext k
  simp only [upd]
  by_cases h7 : k = 7
  · subst h7; rfl
  · by_cases h6 : k = 6
    · subst h6; rfl
    · by_cases h5 : k = 5
      · subst h5; rfl
      · simp [h5, h6, h7]
theorem fit3_of (t : jT) (f : Nat) {s : F3} (h5 : t f 5 = iN s.1) (h6 : t f 6 = iN s.2.1) (h7 : t f 7 = iN s.2.2) : t = fit3 t f s := by
  unfold fit3
  have : (fun k => if k = 5 then iN s.1 else if k = 6 then iN s.2.1 else if k = 7 then iN s.2.2 else t f k) = t f := by
    funext k
    by_cases e5 : k = 5
    · subst e5; rw [if_pos rfl, h5]
    · by_cases e6 : k = 6
      · subst e6; rw [if_neg e5, if_pos rfl, h6]
      · by_cases e7 : k = 7
        · subst e7; rw [if_neg e5, if_neg e6, if_pos rfl, h7]
        · rw [if_neg e5, if_neg e6, if_neg e7]
  rw [this, jUf_self]
theorem fit3_most (t : jT) (f : Nat) (s : F3) (m : Int) : jU (fit3 t f s) f 5 (iN m) = fit3 t f (m, s.2) := by
  unfold fit3
  rw [jU_row, jUf_eq, jUf_jUf]
  congr 1
  funext k
  simp only [upd]
  by_cases h5 : k = 5 <;> simp [h5]

theorem s_isShift {l : Launch} {g : jG} (hok : jOk g) (hst : l.stackTraces = false) {z : Option Nat} {sk : jS} {t : jT} (x y : Int32) : jMet l g mX9_isShift 1 0 0 [.int x, .int y] z sk t (jE (some (.int (nI (isSh x y).toNat))) z sk t) := by
  refine j_body (lv := [some (.int x), some (.int y)]) i_X9_isShift hok hst (fun p e s m args below meth c X => ?_)
  have m3 : ∀ w : Int32, w < -3 ↔ w.toInt < -3 := fun w => by rw [Int32.lt_iff_toInt_lt]; rfl
  have no : ∀ h : isSh x y = false, J p l e (jR 1 0 0) s m args below meth c (jQm below args s g 0 0 (jE (some (.int (nI (isSh x y).toNat))) z sk t)) 2 g 0 0 z sk t 26 [some (.int x), some (.int y)] [] := fun h => by
    refine j_iconst X (v := (nI 0)) dX9_isShift_26 (by decide) ?_
    exact j_iret X dX9_isShift_27 rfl rfl ⟨by rw [h]; rfl, rfl, rfl, rfl⟩
  refine j_iload_n X (i := 0) dX9_isShift_0 rfl rfl ?_
  refine j_bipush X (v := -3) dX9_isShift_1 (by decide) ?_
  refine j_icmp_lt X (tgt := 26) dX9_isShift_3 (by decide) (fun h3 => ?_) (fun h3 => ?_)
  · exact no (decide_eq_false (by rw [m3] at h3; omega))
  refine j_iload_n X (i := 0) dX9_isShift_6 rfl rfl ?_
  refine j_iconst X (v := (nI 3)) dX9_isShift_7 (by decide) ?_
  refine j_icmp_gt X (tgt := 26) dX9_isShift_8 (by decide) (fun h8 => ?_) (fun h8 => ?_)
  · exact no (decide_eq_false (by rw [i_gt (by decide)] at h8; omega))
  refine j_iload_n X (i := 1) dX9_isShift_11 rfl rfl ?_
  refine j_bipush X (v := -3) dX9_isShift_12 (by decide) ?_
  refine j_icmp_lt X (tgt := 26) dX9_isShift_14 (by decide) (fun h14 => ?_) (fun h14 => ?_)
  · exact no (decide_eq_false (by rw [m3] at h14; omega))
  refine j_iload_n X (i := 1) dX9_isShift_17 rfl rfl ?_
  refine j_iconst X (v := (nI 3)) dX9_isShift_18 (by decide) ?_
  refine j_icmp_gt X (tgt := 26) dX9_isShift_19 (by decide) (fun h19 => ?_) (fun h19 => ?_)
  · exact no (decide_eq_false (by rw [i_gt (by decide)] at h19; omega))
  rw [m3] at h3 h14
  rw [i_gt (by decide)] at h8 h19
  refine j_iconst X (v := (nI 1)) dX9_isShift_22 (by decide) ?_
  refine j_goto X (tgt := 27) dX9_isShift_23 (by decide) ?_
  exact j_iret X dX9_isShift_27 rfl rfl ⟨by rw [show isSh x y = true from decide_eq_true (by omega)]; rfl, rfl, rfl, rfl⟩

theorem s_consider {l : Launch} {g : jG} (hok : jOk g) (hst : l.stackTraces = false) {z : Option Nat} {sk : jS} {t : jT} {f : Nat} (hT : sk f = some (jFit g f)) {s0 : F3} (h0 : okF s0) {dx dy : Int} {n : Nat} (hn : n ≤ 128) (a1 : -3 ≤ dx) (a2 : dx ≤ 3) (a3 : -3 ≤ dy) (a4 : dy ≤ 3) : jMet l g mX1_consider 2 0 0 [.ref (jb g + f), .int (iN dx), .int (iN dy), .int (nI n)] z sk (fit3 t f s0) (jE none z sk (fit3 t f (stp s0 dx dy n))) := by
  refine j_body (lv := [some (.ref (jb g + f)), some (.int (iN dx)), some (.int (iN dy)), some (.int (nI n)), none]) i_X1_consider hok hst (fun p e s m args below meth c X => ?_)
  obtain ⟨b1, b2, b3, b4, b5, b6⟩ := id h0
  have e5 : fit3 t f s0 f 5 = iN s0.1 := by rw [fit3_f]; rfl
  have e6 : fit3 t f s0 f 6 = iN s0.2.1 := by rw [fit3_f]; rfl
  have e7 : fit3 t f s0 f 7 = iN s0.2.2 := by rw [fit3_f]; rfl
  have take : ((n : Int) > s0.1 ∨ ((n : Int) = s0.1 ∧ dx.natAbs + dy.natAbs < s0.2.1.natAbs + s0.2.2.natAbs)) → ∀ w, J p l e (jR 2 0 0) s m args below meth c (jQm below args s g 0 0 (jE none z sk (fit3 t f (stp s0 dx dy n)))) 5 g 0 0 z sk (fit3 t f s0) 55 [some (.ref (jb g + f)), some (.int (iN dx)), some (.int (iN dy)), some (.int (nI n)), some (.int w)] [] := fun h w => by
    refine j_aload_n X (i := 0) dX1_consider_55 rfl rfl ?_
    refine j_iload_n X (i := 3) dX1_consider_56 rfl rfl ?_
    refine jFd.put X fd_X1_27 hT rfl rfl rfl rfl dX1_consider_57 ?_
    refine j_aload_n X (i := 0) dX1_consider_60 rfl rfl ?_
    refine j_iload_n X (i := 1) dX1_consider_61 rfl rfl ?_
    refine jFd.put X fd_X1_31 hT rfl rfl rfl rfl dX1_consider_62 ?_
    refine j_aload_n X (i := 0) dX1_consider_65 rfl rfl ?_
    refine j_iload_n X (i := 2) dX1_consider_66 rfl rfl ?_
    refine jFd.put X fd_X1_34 hT rfl rfl rfl rfl dX1_consider_67 ?_
    refine j_vret X dX1_consider_70 rfl ⟨rfl, rfl, rfl, ?_⟩
    unfold stp
    rw [if_pos h]
    exact fit3_put t f s0 0 ((n : Int), dx, dy)
  have keep : ¬ ((n : Int) > s0.1 ∨ ((n : Int) = s0.1 ∧ dx.natAbs + dy.natAbs < s0.2.1.natAbs + s0.2.2.natAbs)) → ∀ w, J p l e (jR 2 0 0) s m args below meth c (jQm below args s g 0 0 (jE none z sk (fit3 t f (stp s0 dx dy n)))) 5 g 0 0 z sk (fit3 t f s0) 70 [some (.ref (jb g + f)), some (.int (iN dx)), some (.int (iN dy)), some (.int (nI n)), some (.int w)] [] := fun h w => by
    exact j_vret X dX1_consider_70 rfl ⟨rfl, rfl, rfl, by unfold stp; rw [if_neg h]⟩
  have rest : ∀ b : Bool, (b = true ↔ dx.natAbs + dy.natAbs < s0.2.1.natAbs + s0.2.2.natAbs) → J p l e (jR 2 0 0) s m args below meth c (jQm below args s g 0 0 (jE none z sk (fit3 t f (stp s0 dx dy n)))) 5 g 0 0 z sk (fit3 t f s0) 34 [some (.ref (jb g + f)), some (.int (iN dx)), some (.int (iN dy)), some (.int (nI n)), some (.int (nI b.toNat))] [] := fun b hb => by
    refine j_iload_n X (i := 3) dX1_consider_34 rfl rfl ?_
    refine j_aload_n X (i := 0) dX1_consider_35 rfl rfl ?_
    refine jFd.get X fd_X1_27 hT rfl dX1_consider_36 ?_
    rw [e5, ← iN_nI n]
    refine j_icmp_gt X (tgt := 55) dX1_consider_39 (by decide) (fun h => ?_) (fun h => ?_)
    · exact take (Or.inl ((iN_lt (by omega) (by omega) (by omega) (by omega)).mp h)) _
    have h' : ¬ (n : Int) > s0.1 := fun q => h ((iN_lt (by omega) (by omega) (by omega) (by omega)).mpr q)
    refine j_iload_n X (i := 3) dX1_consider_42 rfl rfl ?_
    refine j_aload_n X (i := 0) dX1_consider_43 rfl rfl ?_
    refine jFd.get X fd_X1_27 hT rfl dX1_consider_44 ?_
    rw [e5]
    refine j_icmp_ne X (tgt := 70) dX1_consider_47 (by decide) (fun h => ?_) (fun h => ?_)
    · exact keep (fun q => q.elim h' (fun q => h (by rw [q.1]))) _
    have h2 := (iN_eq (by omega) (by omega) (by omega) (by omega)).mp h
    refine j_iload X (i := 4) dX1_consider_50 rfl ?_
    cases b with
    | false =>
      refine j_if_eq X (tgt := 70) dX1_consider_52 (by decide) (fun _ => ?_) (fun h => absurd (rfl) h)
      exact keep (fun q => q.elim h' (fun q => absurd (hb.mpr q.2) (by decide))) _
    | true =>
      refine j_if_eq X (tgt := 70) dX1_consider_52 (by decide) (fun h => absurd h (by decide)) (fun _ => ?_)
      exact take (Or.inr ⟨h2, hb.mp rfl⟩) _
  refine j_iload_n X (i := 1) dX1_consider_0 rfl rfl ?_
  refine j_mabs X tw_2_85 tw_2_86 tw_1_25 tw_2_87  dX1_consider_1 ?_
  refine j_iload_n X (i := 2) dX1_consider_4 rfl rfl ?_
  refine j_mabs X tw_2_85 tw_2_86 tw_1_25 tw_2_87  dX1_consider_5 ?_
  rw [abs_iN a1 a2, abs_iN a3 a4]
  refine j_iadd X dX1_consider_8 ?_
  rw [nI_add]
  refine j_aload_n X (i := 0) dX1_consider_9 rfl rfl ?_
  refine jFd.get X fd_X1_31 hT rfl dX1_consider_10 ?_
  rw [e6]
  refine j_mabs X tw_2_85 tw_2_86 tw_1_25 tw_2_87  dX1_consider_13 ?_
  refine j_aload_n X (i := 0) dX1_consider_16 rfl rfl ?_
  refine jFd.get X fd_X1_34 hT rfl dX1_consider_17 ?_
  rw [e7]
  refine j_mabs X tw_2_85 tw_2_86 tw_1_25 tw_2_87  dX1_consider_20 ?_
  rw [abs_iN b3 b4, abs_iN b5 b6]
  refine j_iadd X dX1_consider_23 ?_
  rw [nI_add]
  have hle := nI_leI (a := s0.2.1.natAbs + s0.2.2.natAbs) (b := dx.natAbs + dy.natAbs) (by omega) (by omega)
  refine j_icmp_ge X (tgt := 31) dX1_consider_24 (by decide) (fun h24 => ?_) (fun h24 => ?_)
  · refine j_iconst X (v := (nI 0)) dX1_consider_31 (by decide) ?_
    refine j_istore X (i := 4) dX1_consider_32 (by decide) rfl ?_
    exact rest false ⟨fun q => (by cases q), fun q => absurd (hle.mp h24) (by omega)⟩
  · refine j_iconst X (v := (nI 1)) dX1_consider_27 (by decide) ?_
    refine j_goto X (tgt := 32) dX1_consider_28 (by decide) ?_
    refine j_istore X (i := 4) dX1_consider_32 (by decide) rfl ?_
    have hn24 : ¬ (s0.2.1.natAbs + s0.2.2.natAbs ≤ dx.natAbs + dy.natAbs) := fun q => h24 (hle.mpr q)
    exact rest true ⟨fun _ => by omega, fun _ => rfl⟩

theorem s_tryAll {l : Launch} {g : jG} (hok : jOk g) (hst : l.stackTraces = false) {z : Option Nat} {sk : jS} {t : jT} {i r i2 r2 f : Nat} {S U : Nat → Bool} (hT : sk i = some (jPlate g r)) (hR : sk r = some (kA .int 8)) (hS : Rows (t r) S) (hT2 : sk i2 = some (jPlate g r2)) (hR2 : sk r2 = some (kA .int 8)) (hU : Rows (t r2) U) (hF : sk f = some (jFit g f)) (hrf : r ≠ f) (hr2f : r2 ≠ f) {bx bY : Int} (h6 : t f 6 = iN bx) (h7 : t f 7 = iN bY) (c1 : -3 ≤ bx) (c2 : bx ≤ 3) (c3 : -3 ≤ bY) (c4 : bY ≤ 3) : jMet l g mX1_tryAllShifts 4 0 0 [.ref (jb g + f), .ref (jb g + i), .ref (jb g + i2)] z sk t (jE none z sk (fit3 t f (bst S U))) := by
  refine j_body (lv := [some (.ref (jb g + f)), some (.ref (jb g + i)), some (.ref (jb g + i2)), none, none]) i_X1_tryAllShifts hok hst (fun p e s m args below meth c X => ?_)
  have hS1 : ∀ s0, Rows ((fit3 t f s0) r) S := fun s0 => by rw [fit3_ne _ _ hrf]; exact hS
  have hU1 : ∀ s0, Rows ((fit3 t f s0) r2) U := fun s0 => by rw [fit3_ne _ _ hr2f]; exact hU
  have hok0 : okF (-1, bx, bY) := ⟨Int.le_refl _, by show (-1 : Int) ≤ 128; decide, c1, c2, c3, c4⟩
  have outer : ∀ a, a ≤ 7 → J p l e (jR 4 0 0) s m args below meth c (jQm below args s g 0 0 (jE none z sk (fit3 t f (bst S U)))) 5 g 0 0 z sk  (fit3 t f (bsG S U (-1, bx, bY) (7 * a))) 8 [some (.ref (jb g + f)), some (.ref (jb g + i)), some (.ref (jb g + i2)), some (.int (iN ((a : Int) - 3))), none] [] := by
    refine up_loop ?_ ?_
    · refine j_iload_n X (i := 3) dX1_tryAllShifts_8 rfl rfl ?_
      refine j_iconst X (v := (nI 3)) dX1_tryAllShifts_9 (by decide) ?_
      refine j_icmp_gt X (tgt := 50) dX1_tryAllShifts_10 (by decide) (fun h => ?_) (fun h => absurd (by decide) h)
      exact j_vret X dX1_tryAllShifts_50 rfl ⟨rfl, rfl, rfl, by rw [bst_eq S U bx bY]⟩
    · intro a ha ih
      refine j_iload_n X (i := 3) dX1_tryAllShifts_8 rfl rfl ?_
      refine j_iconst X (v := (nI 3)) dX1_tryAllShifts_9 (by decide) ?_
      refine j_icmp_gt X (tgt := 50) dX1_tryAllShifts_10 (by decide) (fun h => ?_) (fun h => ?_)
      · rw [← iN_nI 3] at h
        have := (iN_lt (by decide) (by decide) (by omega) (by omega)).mp h
        omega
      refine j_bipush X (v := -3) dX1_tryAllShifts_13 (by decide) ?_
      refine j_istore X (i := 4) dX1_tryAllShifts_15 (by decide) rfl ?_
      have inner : ∀ b, b ≤ 7 → J p l e (jR 4 0 0) s m args below meth c (jQm below args s g 0 0 (jE none z sk (fit3 t f (bst S U)))) 5 g 0 0 z sk  (fit3 t f (bsG S U (-1, bx, bY) (7 * a + b))) 17 [some (.ref (jb g + f)), some (.ref (jb g + i)), some (.ref (jb g + i2)), some (.int (iN ((a : Int) - 3))), some (.int (iN ((b : Int) - 3)))] [] := by
        refine up_loop ?_ ?_
        · refine j_iload X (i := 4) dX1_tryAllShifts_17 rfl ?_
          refine j_iconst X (v := (nI 3)) dX1_tryAllShifts_19 (by decide) ?_
          refine j_icmp_gt X (tgt := 44) dX1_tryAllShifts_20 (by decide) (fun h => ?_) (fun h => absurd (by decide) h)
          refine j_iinc X (i := 3) (v := (iN (((a + 1 : Nat) : Int) - 3))) dX1_tryAllShifts_44 rfl (by show iN _ + iN 1 = _; rw [iN_add]; congr 1; omega) (by decide) rfl ?_
          refine j_goto X (tgt := 8) dX1_tryAllShifts_47 (by decide) ?_
          refine j_drop 4 ?_
          exact ih
        · intro b hb ih2
          refine j_iload X (i := 4) dX1_tryAllShifts_17 rfl ?_
          refine j_iconst X (v := (nI 3)) dX1_tryAllShifts_19 (by decide) ?_
          refine j_icmp_gt X (tgt := 44) dX1_tryAllShifts_20 (by decide) (fun h => ?_) (fun h => ?_)
          · rw [← iN_nI 3] at h
            have := (iN_lt (by decide) (by decide) (by omega) (by omega)).mp h
            omega
          refine j_aload_n X (i := 0) dX1_tryAllShifts_23 rfl rfl ?_
          refine j_iload_n X (i := 3) dX1_tryAllShifts_24 rfl rfl ?_
          refine j_iload X (i := 4) dX1_tryAllShifts_25 rfl ?_
          refine j_aload_n X (i := 1) dX1_tryAllShifts_27 rfl rfl ?_
          refine j_aload_n X (i := 2) dX1_tryAllShifts_28 rfl rfl ?_
          refine j_iload_n X (i := 3) dX1_tryAllShifts_29 rfl rfl ?_
          refine j_iload X (i := 4) dX1_tryAllShifts_30 rfl ?_
          refine j_callV X (s_countMatches hok hst (dx := (a : Int) - 3) (dy := (b : Int) - 3) hT hR (hS1 _) hT2 hR2 (hU1 _) (by omega) (by omega) (by omega) (by omega)) i_X5_countMatches tw_2_63 tw_2_64 tw_2_65 hT rfl dX1_tryAllShifts_32 ?_ 
          refine j_callV X (s_consider hok hst (dx := (a : Int) - 3) (dy := (b : Int) - 3) hF (bsG_ok hok0 (7 * a + b) (by omega)) (matB_le S U _ _) (by omega) (by omega) (by omega) (by omega)) i_X1_consider tw_2_81 tw_2_83 tp_1 hF rfl dX1_tryAllShifts_35 ?_ 
          refine j_iinc X (i := 4) (v := (iN (((b + 1 : Nat) : Int) - 3))) dX1_tryAllShifts_38 rfl (by show iN _ + iN 1 = _; rw [iN_add]; congr 1; omega) (by decide) rfl ?_
          refine j_goto X (tgt := 17) dX1_tryAllShifts_41 (by decide) ?_
          have e : bsG S U (-1, bx, bY) (7 * a + (b + 1)) = stp (bsG S U (-1, bx, bY) (7 * a + b)) ((a : Int) - 3) ((b : Int) - 3) (matB S U ((a : Int) - 3) ((b : Int) - 3)) := by
            show stp (bsG S U (-1, bx, bY) (7 * a + b)) (((7 * a + b) / 7 : Nat) - 3) (((7 * a + b) % 7 : Nat) - 3) (matB S U (((7 * a + b) / 7 : Nat) - 3) (((7 * a + b) % 7 : Nat) - 3)) = _
            rw [show (7 * a + b) / 7 = a by omega, show (7 * a + b) % 7 = b by omega]
          rw [e] at ih2
          exact ih2
      exact inner 0 (Nat.zero_le _)
  refine j_aload_n X (i := 0) dX1_tryAllShifts_0 rfl rfl ?_
  refine j_iconst X (v := -1) dX1_tryAllShifts_1 (by decide) ?_
  refine jFd.put X fd_X1_27 hF rfl rfl rfl rfl dX1_tryAllShifts_2 ?_
  have e0 : jU t f 5 (-1) = fit3 t f (-1, bx, bY) := by
    conv => lhs; rw [fit3_of t f (s := ((t f 5).toInt, bx, bY)) (by unfold iN; exact (Int32.ofInt_toInt _).symm) h6 h7]
    exact fit3_most t f _ (-1)
  rw [e0]
  refine j_bipush X (v := -3) dX1_tryAllShifts_5 (by decide) ?_
  refine j_istore_n X (i := 3) dX1_tryAllShifts_7 rfl (by decide) rfl ?_
  exact outer 0 (Nat.zero_le _)

