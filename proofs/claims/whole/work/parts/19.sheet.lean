abbrev jSheet (g : jG) (a b : Nat) : jK := kO 7 [fun _ => .ref (jb g + a), fun _ => .ref (jb g + b), .int, .int, .int]
def Rows3 (f : Nat → Int32) (P : Nat → Nat → Bool) : Prop := ∀ j, j < 3 → ∀ y, y < 8 → f (8 * j + y) = nI (rN (fun x => P j (16 * y + x)))
/-- a sheet in the memory -/
def RcS (t : jT) (i a b : Nat) (v : TV) : Prop := t i 2 = nI v.1.1 ∧ t i 3 = nI v.1.2.1 ∧ t i 4 = iN v.1.2.2 ∧ Rows3 (t a) v.2.1 ∧ Rows3 (t b) v.2.2
theorem RcS.cong {t u : jT} {i a b : Nat} {v : TV} (h : RcS t i a b v) (hi : u i = t i) (ha : u a = t a) (hb : u b = t b) : RcS u i a b v := by
  unfold RcS
  rw [hi, ha, hb]
  exact h
def colN (P : Nat → Nat → Bool) (k : Nat) : Nat := (P 0 k).toNat + 2 * (P 1 k).toNat + 4 * (P 2 k).toNat
def colP (P : Nat → Nat → Bool) (k : Nat) (i : Nat) : Nat := fb_sm (fun j => (P j k).toNat * 2 ^ j) i
theorem colP_3 (P : Nat → Nat → Bool) (k : Nat) : colP P k 3 = colN P k := by simp [colP, colN, fb_sm]; omega
theorem tn_lt (b : Bool) : b.toNat < 2 := by cases b <;> decide
theorem colP_lt (P : Nat → Nat → Bool) (k : Nat) : ∀ i, i < 3 → colP P k i < 2 ^ i := by
  intro i hi
  have h0 := tn_lt (P 0 k)
  have h1 := tn_lt (P 1 k)
  rcases (by omega : i = 0 ∨ i = 1 ∨ i = 2) with rfl | rfl | rfl <;> simp [colP, fb_sm] <;> omega
theorem or_bit : ∀ i, i < 3 → ∀ a, a < 2 ^ i → ∀ b, b < 2 → nI a ||| nI b <<< (nI i &&& 31) = nI (a + b * 2 ^ i) := by decide +kernel
theorem bit_at (q : Nat → Bool) {x : Nat} (hx : x < 16) : nI (rN q) >>> (nI x &&& 31) &&& nI 1 = nI (q x).toNat := by
  have hs : ∀ k, k < 16 → ((nI k &&& 31).toBitVec.smod 32).toNat = k := by decide +kernel
  rw [pk_shrN (Nat.lt_trans (rN_lt q) (by decide)) (nI x &&& 31) x (hs x hx), nx_and, Nat.and_one_is_mod]
  congr 1
  have h := tb_mod (rN q) x
  rw [rN_bit] at h
  rw [← h]
  cases q x <;> simp [hx]
def plaB (P : Nat → Nat → Bool) (c : Nat) : Nat := fb_ct (fun k => decide (colN P k = c)) 128
def misK (P Mn : Nat → Nat → Bool) (k : Nat) : Bool := (P 0 k ^^ Mn 0 k) || ((P 1 k ^^ Mn 1 k) || (P 2 k ^^ Mn 2 k))
def misB (P Mn : Nat → Nat → Bool) : Nat := fb_ct (misK P Mn) 128
theorem misK_col (P Mn : Nat → Nat → Bool) (k : Nat) : colN P k = colN Mn k ↔ misK P Mn k = false := by
  unfold misK colN
  cases P 0 k <;> cases P 1 k <;> cases P 2 k <;> cases Mn 0 k <;> cases Mn 1 k <;> cases Mn 2 k <;> decide
theorem colN_lt (P : Nat → Nat → Bool) (k : Nat) : colN P k < 8 := by
  have := tn_lt (P 0 k)
  have := tn_lt (P 1 k)
  have := tn_lt (P 2 k)
  unfold colN; omega
theorem misB_rows (P Mn : Nat → Nat → Bool) : misB P Mn = fb_sm (fun y => fb_ct (fun x => misK P Mn (16 * y + x)) 16) 8 := ct_rows _ 8

theorem s_inksAt {l : Launch} {g : jG} (hok : jOk g) (hst : l.stackTraces = false) {z : Option Nat} {sk : jS} {t : jT} {a : Nat} {P : Nat → Nat → Bool} (hA : sk a = some (kA .int 24)) (hP : Rows3 (t a) P) {x y : Nat} (hx : x < 16) (hy : y < 8) : jMet l g mX7_inksAt 1 0 0 [.ref (jb g + a), .int (nI x), .int (nI y)] z sk t (jE (some (.int (nI (colN P (16 * y + x))))) z sk t) := by
  refine j_body (lv := [some (.ref (jb g + a)), some (.int (nI x)), some (.int (nI y)), none, none]) i_X7_inksAt hok hst (fun p e s m args below meth c X => ?_)
  refine j_iconst X (v := (nI 0)) dX7_inksAt_0 (by decide) ?_
  refine j_istore_n X (i := 3) dX7_inksAt_1 rfl (by decide) rfl ?_
  refine j_iconst X (v := (nI 0)) dX7_inksAt_2 (by decide) ?_
  refine j_istore X (i := 4) dX7_inksAt_3 (by decide) rfl ?_
  have key : ∀ i, i ≤ 3 → J p l e (jR 1 0 0) s m args below meth c (jQm below args s g 0 0 (jE (some (.int (nI (colN P (16 * y + x))))) z sk t)) 5 g 0 0 z sk t 5 [some (.ref (jb g + a)), some (.int (nI x)), some (.int (nI y)), some (.int (nI (colP P (16 * y + x) i))), some (.int (nI i))] [] := by
    refine up_loop ?_ ?_
    · refine j_iload X (i := 4) dX7_inksAt_5 rfl ?_
      refine j_iconst X (v := (nI 3)) dX7_inksAt_7 (by decide) ?_
      refine j_icmp_ge X (tgt := 36) dX7_inksAt_8 (by decide) (fun _ => ?_) (fun q9 => absurd (nI_le (Nat.le_refl _) (by decide)) q9)
      refine j_iload_n X (i := 3) dX7_inksAt_36 rfl rfl ?_
      rw [colP_3]
      exact j_iret X dX7_inksAt_37 rfl rfl ⟨rfl, rfl, rfl, rfl⟩
    · intro i hi ih
      refine j_iload X (i := 4) dX7_inksAt_5 rfl ?_
      refine j_iconst X (v := (nI 3)) dX7_inksAt_7 (by decide) ?_
      refine j_icmp_ge X (tgt := 36) dX7_inksAt_8 (by decide) (fun q9 => absurd q9 (nI_ge hi (by decide))) (fun _ => ?_)
      refine j_iload_n X (i := 3) dX7_inksAt_11 rfl rfl ?_
      refine j_aload_n X (i := 0) dX7_inksAt_12 rfl rfl ?_
      refine j_iload X (i := 4) dX7_inksAt_13 rfl ?_
      refine j_bipush X (v := (nI 8)) dX7_inksAt_15 (by decide) ?_
      refine j_imul X dX7_inksAt_17 ?_
      refine j_iload_n X (i := 2) dX7_inksAt_18 rfl rfl ?_
      refine j_iadd X dX7_inksAt_19 ?_
      rw [pk_mul, nI_add]
      refine j_iald X hA rfl (by omega) (by decide) dX7_inksAt_20 ?_
      rw [show i * 8 + y = 8 * i + y by omega, hP i hi y hy]
      refine j_iload_n X (i := 1) dX7_inksAt_21 rfl rfl ?_
      refine j_ishr X dX7_inksAt_22 ?_
      refine j_iconst X (v := (nI 1)) dX7_inksAt_23 (by decide) ?_
      refine j_iand X dX7_inksAt_24 ?_
      rw [bit_at _ hx]
      refine j_iload X (i := 4) dX7_inksAt_25 rfl ?_
      refine j_ishl X dX7_inksAt_27 ?_
      refine j_ior X dX7_inksAt_28 ?_
      rw [or_bit i hi _ (colP_lt P _ i hi) _ (tn_lt _)]
      refine j_istore_n X (i := 3) dX7_inksAt_29 rfl (by decide) rfl ?_
      refine j_iinc X (i := 4) (v := (nI (i + 1))) dX7_inksAt_30 rfl (nI_1 i) (by decide) rfl ?_
      refine j_goto X (tgt := 5) dX7_inksAt_33 (by decide) ?_
      exact ih
  exact key 0 (Nat.zero_le _)

theorem s_colourAt {l : Launch} {g : jG} (hok : jOk g) (hst : l.stackTraces = false) {z : Option Nat} {sk : jS} {t : jT} {i a b : Nat} {P Mn : Nat → Nat → Bool} (hT : sk i = some (jSheet g a b)) (hA : sk a = some (kA .int 24)) (hB : sk b = some (kA .int 24)) (hP : Rows3 (t a) P) (hM : Rows3 (t b) Mn) {x y : Nat} (hx : x < 16) (hy : y < 8) : jMet l g mX7_colourAt 2 0 0 [.ref (jb g + i), .int (nI x), .int (nI y)] z sk t (jE (some (.int (nI (colN P (16 * y + x))))) z sk t) := by
  refine j_body (lv := [some (.ref (jb g + i)), some (.int (nI x)), some (.int (nI y))]) i_X7_colourAt hok hst (fun p e s m args below meth c X => ?_)
  refine j_aload_n X (i := 0) dX7_colourAt_0 rfl rfl ?_
  refine jFd.get X fd_X7_9 hT rfl dX7_colourAt_1 ?_
  refine j_iload_n X (i := 1) dX7_colourAt_4 rfl rfl ?_
  refine j_iload_n X (i := 2) dX7_colourAt_5 rfl rfl ?_
  refine j_callS X (s_inksAt hok hst hA hP hx hy) i_X7_inksAt tw_2_123 tw_2_124 dX7_colourAt_6 ?_ 
  exact j_iret X dX7_colourAt_9 rfl rfl ⟨rfl, rfl, rfl, rfl⟩

theorem s_meantAt {l : Launch} {g : jG} (hok : jOk g) (hst : l.stackTraces = false) {z : Option Nat} {sk : jS} {t : jT} {i a b : Nat} {P Mn : Nat → Nat → Bool} (hT : sk i = some (jSheet g a b)) (hA : sk a = some (kA .int 24)) (hB : sk b = some (kA .int 24)) (hP : Rows3 (t a) P) (hM : Rows3 (t b) Mn) {x y : Nat} (hx : x < 16) (hy : y < 8) : jMet l g mX7_meantAt 2 0 0 [.ref (jb g + i), .int (nI x), .int (nI y)] z sk t (jE (some (.int (nI (colN Mn (16 * y + x))))) z sk t) := by
  refine j_body (lv := [some (.ref (jb g + i)), some (.int (nI x)), some (.int (nI y))]) i_X7_meantAt hok hst (fun p e s m args below meth c X => ?_)
  refine j_aload_n X (i := 0) dX7_meantAt_0 rfl rfl ?_
  refine jFd.get X fd_X7_15 hT rfl dX7_meantAt_1 ?_
  refine j_iload_n X (i := 1) dX7_meantAt_4 rfl rfl ?_
  refine j_iload_n X (i := 2) dX7_meantAt_5 rfl rfl ?_
  refine j_callS X (s_inksAt hok hst hB hM hx hy) i_X7_inksAt tw_2_123 tw_2_124 dX7_meantAt_6 ?_ 
  exact j_iret X dX7_meantAt_9 rfl rfl ⟨rfl, rfl, rfl, rfl⟩

theorem s_countPlaces {l : Launch} {g : jG} (hok : jOk g) (hst : l.stackTraces = false) {z : Option Nat} {sk : jS} {t : jT} {i a b : Nat} {P Mn : Nat → Nat → Bool} (hT : sk i = some (jSheet g a b)) (hA : sk a = some (kA .int 24)) (hB : sk b = some (kA .int 24)) (hP : Rows3 (t a) P) (hM : Rows3 (t b) Mn) {cl : Nat} (hc : cl < 8) : jMet l g mX7_countPlaces 3 0 0 [.ref (jb g + i), .int (nI cl)] z sk t (jE (some (.int (nI (plaB P cl)))) z sk t) := by
  refine j_body (lv := [some (.ref (jb g + i)), some (.int (nI cl)), none, none, none]) i_X7_countPlaces hok hst (fun p e s m args below meth c X => ?_)
  have outer : ∀ y, y ≤ 8 → J p l e (jR 3 0 0) s m args below meth c (jQm below args s g 0 0 (jE (some (.int (nI (plaB P cl)))) z sk t)) 5 g 0 0 z sk t 4 [some (.ref (jb g + i)), some (.int (nI cl)), some (.int (nI (fb_ct (fun k => decide (colN P k = cl)) (16 * y)))), some (.int (nI y)), none] [] := by
    refine up_loop ?_ ?_
    · refine j_iload_n X (i := 3) dX7_countPlaces_4 rfl rfl ?_
      refine j_bipush X (v := (nI 8)) dX7_countPlaces_5 (by decide) ?_
      refine j_icmp_ge X (tgt := 46) dX7_countPlaces_7 (by decide) (fun _ => ?_) (fun q9 => absurd (nI_le (Nat.le_refl _) (by decide)) q9)
      refine j_iload_n X (i := 2) dX7_countPlaces_46 rfl rfl ?_
      exact j_iret X dX7_countPlaces_47 rfl rfl ⟨rfl, rfl, rfl, rfl⟩
    · intro y hy ih
      refine j_iload_n X (i := 3) dX7_countPlaces_4 rfl rfl ?_
      refine j_bipush X (v := (nI 8)) dX7_countPlaces_5 (by decide) ?_
      refine j_icmp_ge X (tgt := 46) dX7_countPlaces_7 (by decide) (fun q9 => absurd q9 (nI_ge hy (by decide))) (fun _ => ?_)
      refine j_iconst X (v := (nI 0)) dX7_countPlaces_10 (by decide) ?_
      refine j_istore X (i := 4) dX7_countPlaces_11 (by decide) rfl ?_
      have inner : ∀ x, x ≤ 16 → J p l e (jR 3 0 0) s m args below meth c (jQm below args s g 0 0 (jE (some (.int (nI (plaB P cl)))) z sk t)) 5 g 0 0 z sk t 13 [some (.ref (jb g + i)), some (.int (nI cl)), some (.int (nI (fb_ct (fun k => decide (colN P k = cl)) (16 * y + x)))), some (.int (nI y)), some (.int (nI x))] [] := by
        refine up_loop ?_ ?_
        · refine j_iload X (i := 4) dX7_countPlaces_13 rfl ?_
          refine j_bipush X (v := (nI 16)) dX7_countPlaces_15 (by decide) ?_
          refine j_icmp_ge X (tgt := 40) dX7_countPlaces_17 (by decide) (fun _ => ?_) (fun q9 => absurd (nI_le (Nat.le_refl _) (by decide)) q9)
          refine j_iinc X (i := 3) (v := (nI (y + 1))) dX7_countPlaces_40 rfl (nI_1 y) (by decide) rfl ?_
          refine j_goto X (tgt := 4) dX7_countPlaces_43 (by decide) ?_
          refine j_drop 4 ?_
          exact ih
        · intro x hx ih2
          refine j_iload X (i := 4) dX7_countPlaces_13 rfl ?_
          refine j_bipush X (v := (nI 16)) dX7_countPlaces_15 (by decide) ?_
          refine j_icmp_ge X (tgt := 40) dX7_countPlaces_17 (by decide) (fun q9 => absurd q9 (nI_ge hx (by decide))) (fun _ => ?_)
          refine j_aload_n X (i := 0) dX7_countPlaces_20 rfl rfl ?_
          refine j_iload X (i := 4) dX7_countPlaces_21 rfl ?_
          refine j_iload_n X (i := 3) dX7_countPlaces_23 rfl rfl ?_
          refine j_callV X (s_colourAt hok hst hT hA hB hP hM hx hy) i_X7_colourAt tw_2_119 tw_2_120 tw_2_121 hT rfl dX7_countPlaces_24 ?_ 
          refine j_iload_n X (i := 1) dX7_countPlaces_27 rfl rfl ?_
          have hn : fb_ct (fun k => decide (colN P k = cl)) (16 * y + (x + 1)) = fb_ct (fun k => decide (colN P k = cl)) (16 * y + x) + (if colN P (16 * y + x) = cl then 1 else 0) := by
            show fb_ct _ (16 * y + x + 1) = _
            rw [fb_ct_succ]
            simp
          by_cases hq : colN P (16 * y + x) = cl
          · rw [if_pos hq] at hn
            refine j_icmp_ne X (tgt := 34) dX7_countPlaces_28 (by decide) (fun q9 => absurd (by rw [hq]) q9) (fun _ => ?_)
            refine j_iinc X (i := 2) (v := (nI (fb_ct (fun k => decide (colN P k = cl)) (16 * y + x) + 1))) dX7_countPlaces_31 rfl (nI_1 _) (by decide) rfl ?_
            refine j_iinc X (i := 4) (v := (nI (x + 1))) dX7_countPlaces_34 rfl (nI_1 x) (by decide) rfl ?_
            refine j_goto X (tgt := 13) dX7_countPlaces_37 (by decide) ?_
            rw [hn] at ih2
            exact ih2
          · rw [if_neg hq] at hn
            have hne : ¬ nI (colN P (16 * y + x)) = nI cl := fun h => hq ((nI_eq (Nat.lt_trans (colN_lt P _) (by decide)) (by omega)).mp h)
            refine j_icmp_ne X (tgt := 34) dX7_countPlaces_28 (by decide) (fun _ => ?_) (fun q9 => absurd q9 (hne))
            refine j_iinc X (i := 4) (v := (nI (x + 1))) dX7_countPlaces_34 rfl (nI_1 x) (by decide) rfl ?_
            refine j_goto X (tgt := 13) dX7_countPlaces_37 (by decide) ?_
            rw [hn] at ih2
            exact ih2
      exact inner 0 (Nat.zero_le _)
  refine j_iconst X (v := (nI 0)) dX7_countPlaces_0 (by decide) ?_
  refine j_istore_n X (i := 2) dX7_countPlaces_1 rfl (by decide) rfl ?_
  refine j_iconst X (v := (nI 0)) dX7_countPlaces_2 (by decide) ?_
  refine j_istore_n X (i := 3) dX7_countPlaces_3 rfl (by decide) rfl ?_
  exact outer 0 (Nat.zero_le _)

theorem s_countMisprints {l : Launch} {g : jG} (hok : jOk g) (hst : l.stackTraces = false) {z : Option Nat} {sk : jS} {t : jT} {i a b : Nat} {P Mn : Nat → Nat → Bool} (hT : sk i = some (jSheet g a b)) (hA : sk a = some (kA .int 24)) (hB : sk b = some (kA .int 24)) (hP : Rows3 (t a) P) (hM : Rows3 (t b) Mn) : jMet l g mX7_countMisprints 3 0 0 [.ref (jb g + i)] z sk t (jE (some (.int (nI (misB P Mn)))) z sk t) := by
  refine j_body (lv := [some (.ref (jb g + i)), none, none, none]) i_X7_countMisprints hok hst (fun p e s m args below meth c X => ?_)
  have outer : ∀ y, y ≤ 8 → J p l e (jR 3 0 0) s m args below meth c (jQm below args s g 0 0 (jE (some (.int (nI (misB P Mn)))) z sk t)) 4 g 0 0 z sk t 4 [some (.ref (jb g + i)), some (.int (nI (fb_ct (misK P Mn) (16 * y)))), some (.int (nI y)), none] [] := by
    refine up_loop ?_ ?_
    · refine j_iload_n X (i := 2) dX7_countMisprints_4 rfl rfl ?_
      refine j_bipush X (v := (nI 8)) dX7_countMisprints_5 (by decide) ?_
      refine j_icmp_ge X (tgt := 48) dX7_countMisprints_7 (by decide) (fun _ => ?_) (fun q9 => absurd (nI_le (Nat.le_refl _) (by decide)) q9)
      refine j_iload_n X (i := 1) dX7_countMisprints_48 rfl rfl ?_
      exact j_iret X dX7_countMisprints_49 rfl rfl ⟨rfl, rfl, rfl, rfl⟩
    · intro y hy ih
      refine j_iload_n X (i := 2) dX7_countMisprints_4 rfl rfl ?_
      refine j_bipush X (v := (nI 8)) dX7_countMisprints_5 (by decide) ?_
      refine j_icmp_ge X (tgt := 48) dX7_countMisprints_7 (by decide) (fun q9 => absurd q9 (nI_ge hy (by decide))) (fun _ => ?_)
      refine j_iconst X (v := (nI 0)) dX7_countMisprints_10 (by decide) ?_
      refine j_istore_n X (i := 3) dX7_countMisprints_11 rfl (by decide) rfl ?_
      have inner : ∀ x, x ≤ 16 → J p l e (jR 3 0 0) s m args below meth c (jQm below args s g 0 0 (jE (some (.int (nI (misB P Mn)))) z sk t)) 4 g 0 0 z sk t 12 [some (.ref (jb g + i)), some (.int (nI (fb_ct (misK P Mn) (16 * y + x)))), some (.int (nI y)), some (.int (nI x))] [] := by
        refine up_loop ?_ ?_
        · refine j_iload_n X (i := 3) dX7_countMisprints_12 rfl rfl ?_
          refine j_bipush X (v := (nI 16)) dX7_countMisprints_13 (by decide) ?_
          refine j_icmp_ge X (tgt := 42) dX7_countMisprints_15 (by decide) (fun _ => ?_) (fun q9 => absurd (nI_le (Nat.le_refl _) (by decide)) q9)
          refine j_iinc X (i := 2) (v := (nI (y + 1))) dX7_countMisprints_42 rfl (nI_1 y) (by decide) rfl ?_
          refine j_goto X (tgt := 4) dX7_countMisprints_45 (by decide) ?_
          refine j_drop 3 ?_
          exact ih
        · intro x hx ih2
          refine j_iload_n X (i := 3) dX7_countMisprints_12 rfl rfl ?_
          refine j_bipush X (v := (nI 16)) dX7_countMisprints_13 (by decide) ?_
          refine j_icmp_ge X (tgt := 42) dX7_countMisprints_15 (by decide) (fun q9 => absurd q9 (nI_ge hx (by decide))) (fun _ => ?_)
          refine j_aload_n X (i := 0) dX7_countMisprints_18 rfl rfl ?_
          refine j_iload_n X (i := 3) dX7_countMisprints_19 rfl rfl ?_
          refine j_iload_n X (i := 2) dX7_countMisprints_20 rfl rfl ?_
          refine j_callV X (s_colourAt hok hst hT hA hB hP hM hx hy) i_X7_colourAt tw_2_119 tw_2_120 tw_2_121 hT rfl dX7_countMisprints_21 ?_ 
          refine j_aload_n X (i := 0) dX7_countMisprints_24 rfl rfl ?_
          refine j_iload_n X (i := 3) dX7_countMisprints_25 rfl rfl ?_
          refine j_iload_n X (i := 2) dX7_countMisprints_26 rfl rfl ?_
          refine j_callV X (s_meantAt hok hst hT hA hB hP hM hx hy) i_X7_meantAt tw_2_126 tw_2_127 tw_2_128 hT rfl dX7_countMisprints_27 ?_ 
          have hn : fb_ct (misK P Mn) (16 * y + (x + 1)) = fb_ct (misK P Mn) (16 * y + x) + (if misK P Mn (16 * y + x) then 1 else 0) := fb_ct_succ _ _
          cases hq : misK P Mn (16 * y + x) with
          | false =>
            rw [hq] at hn
            refine j_icmp_eq X (tgt := 36) dX7_countMisprints_30 (by decide) (fun _ => ?_) (fun q9 => absurd (congrArg nI ((misK_col P Mn _).mpr hq)) q9)
            refine j_iinc X (i := 3) (v := (nI (x + 1))) dX7_countMisprints_36 rfl (nI_1 x) (by decide) rfl ?_
            refine j_goto X (tgt := 12) dX7_countMisprints_39 (by decide) ?_
            rw [hn] at ih2
            exact ih2
          | true =>
            rw [hq] at hn
            have hne : ¬ nI (colN P (16 * y + x)) = nI (colN Mn (16 * y + x)) := fun h => by
              have := (misK_col P Mn _).mp ((nI_eq (Nat.lt_trans (colN_lt P _) (by decide)) (Nat.lt_trans (colN_lt Mn _) (by decide))).mp h)
              rw [hq] at this
              cases this
            refine j_icmp_eq X (tgt := 36) dX7_countMisprints_30 (by decide) (fun q9 => absurd q9 (hne)) (fun _ => ?_)
            refine j_iinc X (i := 1) (v := (nI (fb_ct (misK P Mn) (16 * y + x) + 1))) dX7_countMisprints_33 rfl (nI_1 _) (by decide) rfl ?_
            refine j_iinc X (i := 3) (v := (nI (x + 1))) dX7_countMisprints_36 rfl (nI_1 x) (by decide) rfl ?_
            refine j_goto X (tgt := 12) dX7_countMisprints_39 (by decide) ?_
            rw [hn] at ih2
            exact ih2
      exact inner 0 (Nat.zero_le _)
  refine j_iconst X (v := (nI 0)) dX7_countMisprints_0 (by decide) ?_
  refine j_istore_n X (i := 1) dX7_countMisprints_1 rfl (by decide) rfl ?_
  refine j_iconst X (v := (nI 0)) dX7_countMisprints_2 (by decide) ?_
  refine j_istore_n X (i := 2) dX7_countMisprints_3 rfl (by decide) rfl ?_
  exact outer 0 (Nat.zero_le _)

def misR (P Mn : Nat → Nat → Bool) (k : Nat) : Nat → Bool
  | 0 => false
  | j + 1 => misR P Mn k j || (P j k ^^ Mn j k)
theorem misR_3 (P Mn : Nat → Nat → Bool) (k : Nat) : misR P Mn k 3 = misK P Mn k := by
  simp only [misR, misK]
  cases (P 0 k ^^ Mn 0 k) <;> cases (P 1 k ^^ Mn 1 k) <;> cases (P 2 k ^^ Mn 2 k) <;> rfl
theorem s_misprintsBySets {l : Launch} {g : jG} (hok : jOk g) (hst : l.stackTraces = false) {z : Option Nat} {sk : jS} {t : jT} {i a b : Nat} {P Mn : Nat → Nat → Bool} (hT : sk i = some (jSheet g a b)) (hA : sk a = some (kA .int 24)) (hB : sk b = some (kA .int 24)) (hP : Rows3 (t a) P) (hM : Rows3 (t b) Mn) : jMet l g mX7_countMisprintsBySets 3 0 0 [.ref (jb g + i)] z sk t (jE (some (.int (nI (misB P Mn)))) z sk t) := by
  refine j_body (lv := [some (.ref (jb g + i)), none, none, none, none]) i_X7_countMisprintsBySets hok hst (fun p e s m args below meth c X => ?_)
  have outer : ∀ y, y ≤ 8 → J p l e (jR 3 0 0) s m args below meth c (jQm below args s g 0 0 (jE (some (.int (nI (misB P Mn)))) z sk t)) 5 g 0 0 z sk t 4 [some (.ref (jb g + i)), some (.int (nI (fb_sm (fun y => fb_ct (fun x => misK P Mn (16 * y + x)) 16) y))), some (.int (nI y)), none, none] [] := by
    refine up_loop ?_ ?_
    · refine j_iload_n X (i := 2) dX7_countMisprintsBySets_4 rfl rfl ?_
      refine j_bipush X (v := (nI 8)) dX7_countMisprintsBySets_5 (by decide) ?_
      refine j_icmp_ge X (tgt := 68) dX7_countMisprintsBySets_7 (by decide) (fun _ => ?_) (fun q9 => absurd (nI_le (Nat.le_refl _) (by decide)) q9)
      refine j_iload_n X (i := 1) dX7_countMisprintsBySets_68 rfl rfl ?_
      rw [← misB_rows]
      exact j_iret X dX7_countMisprintsBySets_69 rfl rfl ⟨rfl, rfl, rfl, rfl⟩
    · intro y hy ih
      refine j_iload_n X (i := 2) dX7_countMisprintsBySets_4 rfl rfl ?_
      refine j_bipush X (v := (nI 8)) dX7_countMisprintsBySets_5 (by decide) ?_
      refine j_icmp_ge X (tgt := 68) dX7_countMisprintsBySets_7 (by decide) (fun q9 => absurd q9 (nI_ge hy (by decide))) (fun _ => ?_)
      refine j_iconst X (v := (nI 0)) dX7_countMisprintsBySets_10 (by decide) ?_
      refine j_istore_n X (i := 3) dX7_countMisprintsBySets_11 rfl (by decide) rfl ?_
      refine j_iconst X (v := (nI 0)) dX7_countMisprintsBySets_12 (by decide) ?_
      refine j_istore X (i := 4) dX7_countMisprintsBySets_13 (by decide) rfl ?_
      have inner : ∀ j, j ≤ 3 → J p l e (jR 3 0 0) s m args below meth c (jQm below args s g 0 0 (jE (some (.int (nI (misB P Mn)))) z sk t)) 5 g 0 0 z sk t 15 [some (.ref (jb g + i)), some (.int (nI (fb_sm (fun y => fb_ct (fun x => misK P Mn (16 * y + x)) 16) y))), some (.int (nI y)), some (.int (nI (rN (fun x => misR P Mn (16 * y + x) j)))), some (.int (nI j))] [] := by
        refine up_loop ?_ ?_
        · refine j_iload X (i := 4) dX7_countMisprintsBySets_15 rfl ?_
          refine j_iconst X (v := (nI 3)) dX7_countMisprintsBySets_17 (by decide) ?_
          refine j_icmp_ge X (tgt := 55) dX7_countMisprintsBySets_18 (by decide) (fun _ => ?_) (fun q9 => absurd (nI_le (Nat.le_refl _) (by decide)) q9)
          refine j_iload_n X (i := 1) dX7_countMisprintsBySets_55 rfl rfl ?_
          refine j_iload_n X (i := 3) dX7_countMisprintsBySets_56 rfl rfl ?_
          refine j_callS X (s_bitCount hok hst (rN_lt _)) i_J6_bitCount_0f7a4 tw_2_134 tw_2_76 dX7_countMisprintsBySets_57 ?_ 
          rw [pop_rN, show (fun x => misR P Mn (16 * y + x) 3) = (fun x => misK P Mn (16 * y + x)) from funext fun x => misR_3 P Mn _]
          refine j_iadd X dX7_countMisprintsBySets_60 ?_
          rw [nI_add]
          refine j_istore_n X (i := 1) dX7_countMisprintsBySets_61 rfl (by decide) rfl ?_
          refine j_iinc X (i := 2) (v := (nI (y + 1))) dX7_countMisprintsBySets_62 rfl (nI_1 y) (by decide) rfl ?_
          refine j_goto X (tgt := 4) dX7_countMisprintsBySets_65 (by decide) ?_
          refine j_drop 3 (j_drop 4 ?_)
          exact ih
        · intro j hj ih2
          refine j_iload X (i := 4) dX7_countMisprintsBySets_15 rfl ?_
          refine j_iconst X (v := (nI 3)) dX7_countMisprintsBySets_17 (by decide) ?_
          refine j_icmp_ge X (tgt := 55) dX7_countMisprintsBySets_18 (by decide) (fun q9 => absurd q9 (nI_ge hj (by decide))) (fun _ => ?_)
          refine j_iload_n X (i := 3) dX7_countMisprintsBySets_21 rfl rfl ?_
          refine j_aload_n X (i := 0) dX7_countMisprintsBySets_22 rfl rfl ?_
          refine jFd.get X fd_X7_9 hT rfl dX7_countMisprintsBySets_23 ?_
          refine j_iload X (i := 4) dX7_countMisprintsBySets_26 rfl ?_
          refine j_bipush X (v := (nI 8)) dX7_countMisprintsBySets_28 (by decide) ?_
          refine j_imul X dX7_countMisprintsBySets_30 ?_
          refine j_iload_n X (i := 2) dX7_countMisprintsBySets_31 rfl rfl ?_
          refine j_iadd X dX7_countMisprintsBySets_32 ?_
          rw [pk_mul, nI_add]
          refine j_iald X hA rfl (by omega) (by decide) dX7_countMisprintsBySets_33 ?_
          refine j_aload_n X (i := 0) dX7_countMisprintsBySets_34 rfl rfl ?_
          refine jFd.get X fd_X7_15 hT rfl dX7_countMisprintsBySets_35 ?_
          refine j_iload X (i := 4) dX7_countMisprintsBySets_38 rfl ?_
          refine j_bipush X (v := (nI 8)) dX7_countMisprintsBySets_40 (by decide) ?_
          refine j_imul X dX7_countMisprintsBySets_42 ?_
          refine j_iload_n X (i := 2) dX7_countMisprintsBySets_43 rfl rfl ?_
          refine j_iadd X dX7_countMisprintsBySets_44 ?_
          rw [pk_mul, nI_add, show j * 8 + y = 8 * j + y by omega]
          refine j_iald X hB rfl (by omega) (by decide) dX7_countMisprintsBySets_45 ?_
          rw [hP j hj y hy, hM j hj y hy]
          refine j_ixor X dX7_countMisprintsBySets_46 ?_
          rw [nx_xor, rN_xor]
          refine j_ior X dX7_countMisprintsBySets_47 ?_
          rw [fa_or, rN_or]
          refine j_istore_n X (i := 3) dX7_countMisprintsBySets_48 rfl (by decide) rfl ?_
          refine j_iinc X (i := 4) (v := (nI (j + 1))) dX7_countMisprintsBySets_49 rfl (nI_1 j) (by decide) rfl ?_
          refine j_goto X (tgt := 15) dX7_countMisprintsBySets_52 (by decide) ?_
          exact ih2
      exact inner 0 (Nat.zero_le _)
  refine j_iconst X (v := (nI 0)) dX7_countMisprintsBySets_0 (by decide) ?_
  refine j_istore_n X (i := 1) dX7_countMisprintsBySets_1 rfl (by decide) rfl ?_
  refine j_iconst X (v := (nI 0)) dX7_countMisprintsBySets_2 (by decide) ?_
  refine j_istore_n X (i := 2) dX7_countMisprintsBySets_3 rfl (by decide) rfl ?_
  exact outer 0 (Nat.zero_le _)

theorem s_isWet {l : Launch} {g : jG} (hok : jOk g) (hst : l.stackTraces = false) {z : Option Nat} {sk : jS} {t : jT} {i a b w : Nat} (hT : sk i = some (jSheet g a b)) (hw : t i 2 = nI w) (hb : w < 2 ^ 31) : jMet l g mX7_isWet 1 0 0 [.ref (jb g + i)] z sk t (jE (some (.int (nI (decide (0 < w)).toNat))) z sk t) := by
  refine j_body (lv := [some (.ref (jb g + i))]) i_X7_isWet hok hst (fun p e s m args below meth c X => ?_)
  refine j_aload_n X (i := 0) dX7_isWet_0 rfl rfl ?_
  refine jFd.get X fd_X7_18 hT rfl dX7_isWet_1 ?_
  rw [hw]
  by_cases h : 0 < w
  · rw [decide_eq_true h]
    refine j_if_le X (tgt := 11) dX7_isWet_4 (by decide) (fun q9 => absurd q9 (nI_nle h hb)) (fun _ => ?_)
    refine j_iconst X (v := (nI 1)) dX7_isWet_7 (by decide) ?_
    refine j_goto X (tgt := 12) dX7_isWet_8 (by decide) ?_
    exact j_iret X dX7_isWet_12 rfl rfl ⟨rfl, rfl, rfl, rfl⟩
  · rw [decide_eq_false h, show w = 0 by omega]
    refine j_if_le X (tgt := 11) dX7_isWet_4 (by decide) (fun _ => ?_) (fun q9 => absurd (by decide) q9)
    refine j_iconst X (v := (nI 0)) dX7_isWet_11 (by decide) ?_
    exact j_iret X dX7_isWet_12 rfl rfl ⟨rfl, rfl, rfl, rfl⟩

theorem s_isInRack {l : Launch} {g : jG} (hok : jOk g) (hst : l.stackTraces = false) {z : Option Nat} {sk : jS} {t : jT} {i a b : Nat} {pl : Int} (hT : sk i = some (jSheet g a b)) (hp : t i 4 = iN pl) (h1 : -1 ≤ pl) (h2 : pl < 3) : jMet l g mX7_isInRack 1 0 0 [.ref (jb g + i)] z sk t (jE (some (.int (nI (decide (0 ≤ pl)).toNat))) z sk t) := by
  refine j_body (lv := [some (.ref (jb g + i))]) i_X7_isInRack hok hst (fun p e s m args below meth c X => ?_)
  refine j_aload_n X (i := 0) dX7_isInRack_0 rfl rfl ?_
  refine jFd.get X fd_X7_25 hT rfl dX7_isInRack_1 ?_
  refine j_iconst X (v := -1) dX7_isInRack_4 (by decide) ?_
  rw [hp]
  by_cases h : 0 ≤ pl
  · rw [decide_eq_true h]
    have hne : ¬ iN pl = -1 := fun q => by
      have := (iN_eq (a := pl) (b := -1) (by omega) (by omega) (by decide) (by decide)).mp (q.trans (by decide))
      omega
    refine j_icmp_eq X (tgt := 12) dX7_isInRack_5 (by decide) (fun q9 => absurd q9 (hne)) (fun _ => ?_)
    refine j_iconst X (v := (nI 1)) dX7_isInRack_8 (by decide) ?_
    refine j_goto X (tgt := 13) dX7_isInRack_9 (by decide) ?_
    exact j_iret X dX7_isInRack_13 rfl rfl ⟨rfl, rfl, rfl, rfl⟩
  · rw [decide_eq_false h, show pl = -1 by omega]
    refine j_icmp_eq X (tgt := 12) dX7_isInRack_5 (by decide) (fun _ => ?_) (fun q9 => absurd (rfl) q9)
    refine j_iconst X (v := (nI 0)) dX7_isInRack_12 (by decide) ?_
    exact j_iret X dX7_isInRack_13 rfl rfl ⟨rfl, rfl, rfl, rfl⟩

/-- by how much the wetness falls in the hour behind h hours -/
def dryN (pl : Int) (h : Nat) : Nat := if 0 ≤ pl then 2 else if h % 2 = 0 then 1 else 0
/-- .. in c hours behind h hours -/
def dryS (pl : Int) (h : Nat) (c : Nat) : Nat := if 0 ≤ pl then 2 * c else (c + 1 - h % 2) / 2
theorem dryS_succ (pl : Int) (h c : Nat) : dryS pl h (c + 1) = dryS pl h c + dryN pl (h + c) := by
  unfold dryS dryN
  by_cases q : 0 ≤ pl
  · rw [if_pos q, if_pos q, if_pos q]; omega
  · rw [if_neg q, if_neg q, if_neg q]
    by_cases r : (h + c) % 2 = 0
    · rw [if_pos r]; omega
    · rw [if_neg r]; omega
def dryT (w : Nat) (pl : Int) (h : Nat) : Nat := if w = 0 then 0 else if 0 ≤ pl then (w + 1) / 2 else 2 * w - 1 + h % 2
theorem dryT_before {w : Nat} {pl : Int} {h c : Nat} (hc : c < dryT w pl h) : dryS pl h c < w := by
  unfold dryT dryS at *
  by_cases q : w = 0
  · rw [if_pos q] at hc; omega
  · rw [if_neg q] at hc
    by_cases r : 0 ≤ pl
    · rw [if_pos r] at hc ⊢; omega
    · rw [if_neg r] at hc ⊢; omega
theorem dryT_at (w : Nat) (pl : Int) (h : Nat) : w ≤ dryS pl h (dryT w pl h) := by
  unfold dryT dryS
  by_cases q : w = 0
  · rw [if_pos q]; omega
  · rw [if_neg q]
    by_cases r : 0 ≤ pl
    · rw [if_pos r, if_pos r]; omega
    · rw [if_neg r, if_neg r]; omega
theorem dryT_le (w : Nat) (pl : Int) (h : Nat) : dryT w pl h ≤ 2 * w := by
  unfold dryT
  by_cases q : w = 0
  · rw [if_pos q]; omega
  · rw [if_neg q]
    by_cases r : 0 ≤ pl
    · rw [if_pos r]; omega
    · rw [if_neg r]; omega
theorem par_I (h : Nat) : nI h &&& nI 1 = nI (h % 2) := by rw [nx_and, Nat.and_one_is_mod]
theorem s_dryingAfter {l : Launch} {g : jG} (hok : jOk g) (hst : l.stackTraces = false) {z : Option Nat} {sk : jS} {t : jT} {i a b : Nat} {pl : Int} (hT : sk i = some (jSheet g a b)) (hp : t i 4 = iN pl) (h1 : -1 ≤ pl) (h2 : pl < 3) (h : Nat) : jMet l g mX7_dryingAfter 2 0 0 [.ref (jb g + i), .int (nI h)] z sk t (jE (some (.int (nI (dryN pl h)))) z sk t) := by
  refine j_body (lv := [some (.ref (jb g + i)), some (.int (nI h))]) i_X7_dryingAfter hok hst (fun p e s m args below meth c X => ?_)
  refine j_aload_n X (i := 0) dX7_dryingAfter_0 rfl rfl ?_
  refine j_callV X (s_isInRack hok hst hT hp h1 h2) i_X7_isInRack tw_2_143 tw_2_144 tw_2_145 hT rfl dX7_dryingAfter_1 ?_ 
  by_cases q : 0 ≤ pl
  · rw [decide_eq_true q]
    refine j_if_eq X (tgt := 9) dX7_dryingAfter_4 (by decide) (fun q9 => absurd q9 (by decide)) (fun _ => ?_)
    refine j_iconst X (v := (nI 2)) dX7_dryingAfter_7 (by decide) ?_
    exact j_iret X dX7_dryingAfter_8 rfl rfl ⟨by unfold dryN; rw [if_pos q], rfl, rfl, rfl⟩
  · rw [decide_eq_false q]
    refine j_if_eq X (tgt := 9) dX7_dryingAfter_4 (by decide) (fun _ => ?_) (fun q9 => absurd (rfl) q9)
    refine j_iload_n X (i := 1) dX7_dryingAfter_9 rfl rfl ?_
    refine j_iconst X (v := (nI 1)) dX7_dryingAfter_10 (by decide) ?_
    refine j_iand X dX7_dryingAfter_11 ?_
    rw [par_I]
    by_cases r : h % 2 = 0
    · rw [r]
      refine j_if_ne X (tgt := 19) dX7_dryingAfter_12 (by decide) (fun q9 => absurd (rfl) q9) (fun _ => ?_)
      refine j_iconst X (v := (nI 1)) dX7_dryingAfter_15 (by decide) ?_
      refine j_goto X (tgt := 20) dX7_dryingAfter_16 (by decide) ?_
      exact j_iret X dX7_dryingAfter_20 rfl rfl ⟨by unfold dryN; rw [if_neg q, if_pos r], rfl, rfl, rfl⟩
    · rw [show h % 2 = 1 by omega]
      refine j_if_ne X (tgt := 19) dX7_dryingAfter_12 (by decide) (fun _ => ?_) (fun q9 => absurd q9 (by decide))
      refine j_iconst X (v := (nI 0)) dX7_dryingAfter_19 (by decide) ?_
      exact j_iret X dX7_dryingAfter_20 rfl rfl ⟨by unfold dryN; rw [if_neg q, if_neg r], rfl, rfl, rfl⟩

theorem s_dryAfter {l : Launch} {g : jG} (hok : jOk g) (hst : l.stackTraces = false) {z : Option Nat} {sk : jS} {t : jT} {i a b w : Nat} {pl : Int} (hT : sk i = some (jSheet g a b)) (hw : t i 2 = nI w) (hb : w < 2 ^ 30) (hp : t i 4 = iN pl) (h1 : -1 ≤ pl) (h2 : pl < 3) (h : Nat) : jMet l g mX7_dryAfter 3 0 0 [.ref (jb g + i), .int (nI h)] z sk t (jE none z sk (jU t i 2 (nI (w - dryN pl h)))) := by
  refine j_body (lv := [some (.ref (jb g + i)), some (.int (nI h))]) i_X7_dryAfter hok hst (fun p e s m args below meth c X => ?_)
  have hd : dryN pl h ≤ 2 := by
    unfold dryN
    split
    · omega
    · split <;> omega
  refine j_aload_n X (i := 0) dX7_dryAfter_0 rfl rfl ?_
  refine j_iconst X (v := (nI 0)) dX7_dryAfter_1 (by decide) ?_
  refine j_aload_n X (i := 0) dX7_dryAfter_2 rfl rfl ?_
  refine jFd.get X fd_X7_18 hT rfl dX7_dryAfter_3 ?_
  refine j_aload_n X (i := 0) dX7_dryAfter_6 rfl rfl ?_
  refine j_iload_n X (i := 1) dX7_dryAfter_7 rfl rfl ?_
  refine j_callV X (s_dryingAfter hok hst hT hp h1 h2 h) i_X7_dryingAfter tw_2_139 tw_2_141 tp_4 hT rfl dX7_dryAfter_8 ?_ 
  rw [hw]
  refine j_isub X dX7_dryAfter_11 ?_
  refine j_mmax X tw_5_17 tw_2_109 tw_1_25 tw_2_110  dX7_dryAfter_12 ?_
  have e : (if nI 0 < nI w - nI (dryN pl h) then nI w - nI (dryN pl h) else nI 0) = nI (w - dryN pl h) := by
    by_cases q : dryN pl h < w
    · rw [pk_sub (by omega), if_pos ((nI_ltI (by decide) (by omega)).mpr (by omega))]
    · rw [if_neg, show w - dryN pl h = 0 by omega]
      rw [← iN_nI w, ← iN_nI (dryN pl h), iN_sub, ← iN_nI 0]
      exact fun z => by have := (iN_lt (by decide) (by decide) (by omega) (by omega)).mp z; omega
  rw [e]
  refine jFd.put X fd_X7_18 hT rfl rfl rfl rfl dX7_dryAfter_15 ?_
  exact j_vret X dX7_dryAfter_18 rfl ⟨rfl, rfl, rfl, rfl⟩

theorem s_countHours {l : Launch} {g : jG} (hok : jOk g) (hst : l.stackTraces = false) {z : Option Nat} {sk : jS} {t : jT} {i a b w : Nat} {pl : Int} (hT : sk i = some (jSheet g a b)) (hw : t i 2 = nI w) (hb : w < 2 ^ 28) (hp : t i 4 = iN pl) (h1 : -1 ≤ pl) (h2 : pl < 3) (h : Nat) : jMet l g mX7_countHoursUntilDry 3 0 0 [.ref (jb g + i), .int (nI h)] z sk t (jE (some (.int (nI (dryT w pl h)))) z sk t) := by
  refine j_body (lv := [some (.ref (jb g + i)), some (.int (nI h)), none, none, none]) i_X7_countHoursUntilDry hok hst (fun p e s m args below meth c X => ?_)
  have key : ∀ n9, n9 ≤ dryT w pl h → J p l e (jR 3 0 0) s m args below meth c (jQm below args s g 0 0 (jE (some (.int (nI (dryT w pl h)))) z sk t)) 5 g 0 0 z sk t 15 [some (.ref (jb g + i)), some (.int (nI h)), some (.int (iN ((w : Int) - dryS pl h n9))), some (.int (nI n9)), some (.int (nI (2 * w)))] [] := by
    have hle := dryT_le w pl h
    have hS0 : dryS pl h 0 = 0 := by unfold dryS; split <;> omega
    refine up_loop ?_ ?_
    · have h0 := dryT_at w pl h
      have hSb : dryS pl h (dryT w pl h) ≤ 2 * (2 * w) + 1 := by unfold dryS; split <;> omega
      refine j_iload_n X (i := 2) dX7_countHoursUntilDry_15 rfl rfl ?_
      refine j_if_le X (tgt := 41) dX7_countHoursUntilDry_16 (by decide) (fun _ => ?_) (fun hn => absurd ((iN_le (b := 0) (by omega) (by omega) (by decide) (by decide)).mpr (by omega)) hn)
      refine j_iload_n X (i := 3) dX7_countHoursUntilDry_41 rfl rfl ?_
      exact j_iret X dX7_countHoursUntilDry_42 rfl rfl ⟨rfl, rfl, rfl, rfl⟩
    · intro n9 hc ih
      have h0 := dryT_before hc
      refine j_iload_n X (i := 2) dX7_countHoursUntilDry_15 rfl rfl ?_
      refine j_if_le X (tgt := 41) dX7_countHoursUntilDry_16 (by decide) (fun hn => ?_) (fun _ => ?_)
      · have := (iN_le (b := 0) (by omega) (by omega) (by decide) (by decide)).mp hn
        omega
      refine j_iload_n X (i := 3) dX7_countHoursUntilDry_19 rfl rfl ?_
      refine j_iload X (i := 4) dX7_countHoursUntilDry_20 rfl ?_
      refine j_icmp_ge X (tgt := 41) dX7_countHoursUntilDry_22 (by decide) (fun q9 => absurd q9 (nI_ge (show n9 < 2 * w by omega) (by omega))) (fun _ => ?_)
      refine j_iload_n X (i := 2) dX7_countHoursUntilDry_25 rfl rfl ?_
      refine j_aload_n X (i := 0) dX7_countHoursUntilDry_26 rfl rfl ?_
      refine j_iload_n X (i := 1) dX7_countHoursUntilDry_27 rfl rfl ?_
      refine j_iload_n X (i := 3) dX7_countHoursUntilDry_28 rfl rfl ?_
      refine j_iadd X dX7_countHoursUntilDry_29 ?_
      rw [nI_add]
      refine j_callV X (s_dryingAfter hok hst hT hp h1 h2 (h + n9)) i_X7_dryingAfter tw_2_139 tw_2_141 tp_4 hT rfl dX7_countHoursUntilDry_30 ?_ 
      refine j_isub X dX7_countHoursUntilDry_33 ?_
      rw [← iN_nI (dryN pl (h + n9)), iN_sub]
      refine j_istore_n X (i := 2) dX7_countHoursUntilDry_34 rfl (by decide) rfl ?_
      refine j_iinc X (i := 3) (v := (nI (n9 + 1))) dX7_countHoursUntilDry_35 rfl (nI_1 n9) (by decide) rfl ?_
      refine j_goto X (tgt := 15) dX7_countHoursUntilDry_38 (by decide) ?_
      rw [dryS_succ, show (w : Int) - ((dryS pl h n9 + dryN pl (h + n9) : Nat) : Int) = (w : Int) - dryS pl h n9 - dryN pl (h + n9) by omega] at ih
      exact ih
  refine j_aload_n X (i := 0) dX7_countHoursUntilDry_0 rfl rfl ?_
  refine jFd.get X fd_X7_18 hT rfl dX7_countHoursUntilDry_1 ?_
  rw [hw]
  refine j_istore_n X (i := 2) dX7_countHoursUntilDry_4 rfl (by decide) rfl ?_
  refine j_iconst X (v := (nI 0)) dX7_countHoursUntilDry_5 (by decide) ?_
  refine j_istore_n X (i := 3) dX7_countHoursUntilDry_6 rfl (by decide) rfl ?_
  refine j_iconst X (v := (nI 2)) dX7_countHoursUntilDry_7 (by decide) ?_
  refine j_aload_n X (i := 0) dX7_countHoursUntilDry_8 rfl rfl ?_
  refine jFd.get X fd_X7_18 hT rfl dX7_countHoursUntilDry_9 ?_
  rw [hw]
  refine j_imul X dX7_countHoursUntilDry_12 ?_
  rw [pk_mul]
  refine j_istore X (i := 4) dX7_countHoursUntilDry_13 (by decide) rfl ?_
  have k0 := key 0 (Nat.zero_le _)
  rw [show dryS pl h 0 = 0 by unfold dryS; split <;> omega, show (w : Int) - ((0 : Nat) : Int) = (w : Int) by omega, iN_nI] at k0
  exact k0

theorem s_computeHours {l : Launch} {g : jG} (hok : jOk g) (hst : l.stackTraces = false) {z : Option Nat} {sk : jS} {t : jT} {i a b w : Nat} {pl : Int} (hT : sk i = some (jSheet g a b)) (hw : t i 2 = nI w) (hb : w < 2 ^ 28) (hp : t i 4 = iN pl) (h1 : -1 ≤ pl) (h2 : pl < 3) (h : Nat) : jMet l g mX7_computeHoursUntilDry 2 0 0 [.ref (jb g + i), .int (nI h)] z sk t (jE (some (.int (nI (dryT w pl h)))) z sk t) := by
  refine j_body (lv := [some (.ref (jb g + i)), some (.int (nI h))]) i_X7_computeHoursUntilDry hok hst (fun p e s m args below meth c X => ?_)
  refine j_aload_n X (i := 0) dX7_computeHoursUntilDry_0 rfl rfl ?_
  refine j_callV X (s_isWet hok hst hT hw (by omega)) i_X7_isWet tw_2_151 tw_2_152 tw_2_153 hT rfl dX7_computeHoursUntilDry_1 ?_ 
  by_cases q : 0 < w
  · rw [decide_eq_true q]
    refine j_if_ne X (tgt := 9) dX7_computeHoursUntilDry_4 (by decide) (fun _ => ?_) (fun q9 => absurd q9 (by decide))
    refine j_aload_n X (i := 0) dX7_computeHoursUntilDry_9 rfl rfl ?_
    refine j_callV X (s_isInRack hok hst hT hp h1 h2) i_X7_isInRack tw_2_143 tw_2_144 tw_2_145 hT rfl dX7_computeHoursUntilDry_10 ?_ 
    by_cases r : 0 ≤ pl
    · rw [decide_eq_true r]
      refine j_if_eq X (tgt := 25) dX7_computeHoursUntilDry_13 (by decide) (fun q9 => absurd q9 (by decide)) (fun _ => ?_)
      refine j_aload_n X (i := 0) dX7_computeHoursUntilDry_16 rfl rfl ?_
      refine jFd.get X fd_X7_18 hT rfl dX7_computeHoursUntilDry_17 ?_
      refine j_iconst X (v := (nI 1)) dX7_computeHoursUntilDry_20 (by decide) ?_
      rw [hw]
      refine j_iadd X dX7_computeHoursUntilDry_21 ?_
      rw [nI_add]
      refine j_iconst X (v := (nI 2)) dX7_computeHoursUntilDry_22 (by decide) ?_
      refine j_idiv X dX7_computeHoursUntilDry_23 (by decide) ?_
      rw [pk_div (by omega) (by decide) (by decide)]
      exact j_iret X dX7_computeHoursUntilDry_24 rfl rfl ⟨by unfold dryT; rw [if_neg (by omega), if_pos r], rfl, rfl, rfl⟩
    · rw [decide_eq_false r]
      refine j_if_eq X (tgt := 25) dX7_computeHoursUntilDry_13 (by decide) (fun _ => ?_) (fun q9 => absurd (rfl) q9)
      refine j_iconst X (v := (nI 2)) dX7_computeHoursUntilDry_25 (by decide) ?_
      refine j_aload_n X (i := 0) dX7_computeHoursUntilDry_26 rfl rfl ?_
      refine jFd.get X fd_X7_18 hT rfl dX7_computeHoursUntilDry_27 ?_
      rw [hw]
      refine j_imul X dX7_computeHoursUntilDry_30 ?_
      refine j_iconst X (v := (nI 1)) dX7_computeHoursUntilDry_31 (by decide) ?_
      refine j_isub X dX7_computeHoursUntilDry_32 ?_
      rw [pk_mul, pk_sub (by omega)]
      refine j_iload_n X (i := 1) dX7_computeHoursUntilDry_33 rfl rfl ?_
      refine j_iconst X (v := (nI 1)) dX7_computeHoursUntilDry_34 (by decide) ?_
      refine j_iand X dX7_computeHoursUntilDry_35 ?_
      rw [par_I]
      refine j_iadd X dX7_computeHoursUntilDry_36 ?_
      rw [nI_add]
      exact j_iret X dX7_computeHoursUntilDry_37 rfl rfl ⟨by unfold dryT; rw [if_neg (by omega), if_neg r], rfl, rfl, rfl⟩
  · rw [decide_eq_false q]
    refine j_if_ne X (tgt := 9) dX7_computeHoursUntilDry_4 (by decide) (fun q9 => absurd (by decide) q9) (fun _ => ?_)
    refine j_iconst X (v := (nI 0)) dX7_computeHoursUntilDry_7 (by decide) ?_
    exact j_iret X dX7_computeHoursUntilDry_8 rfl rfl ⟨by unfold dryT; rw [if_pos (by omega)], rfl, rfl, rfl⟩

