/-- counting up -/
theorem up_loop {P : Nat → Prop} {n : Nat} (hn : P n) (hs : ∀ i, i < n → P (i + 1) → P i) : ∀ i, i ≤ n → P i := by
  intro i hi
  obtain ⟨d, rfl⟩ : ∃ d, n = i + d := ⟨n - i, by omega⟩
  induction d generalizing i with
  | zero => exact hn
  | succ d ih =>
    refine hs i (by omega) (ih (i + 1) ?_ ?_ ?_)
    · rw [show i + 1 + d = i + (d + 1) by omega]; exact hn
    · intro j hj hp; exact hs j (by omega) hp
    · omega
/-- a whole row anew -/
def jUf (t : jT) (i : Nat) (f : Nat → Int32) : jT := fun a => if a = i then f else t a
theorem jUf_eq (t : jT) (i : Nat) (f : Nat → Int32) : jUf t i f i = f := by simp [jUf]
theorem jUf_ne (t : jT) {i a : Nat} (f : Nat → Int32) (h : a ≠ i) : jUf t i f a = t a := by simp [jUf, h]
theorem jU_row (t : jT) (i k : Nat) (v : Int32) : jU t i k v = jUf t i (upd (t i) k v) := by
  funext a
  by_cases h : a = i
  · subst h; rw [jU_eq, jUf_eq]
  · rw [jU_ne _ _ _ h, jUf_ne _ _ h]
theorem jUf_jUf (t : jT) (i : Nat) (f f2 : Nat → Int32) : jUf (jUf t i f) i f2 = jUf t i f2 := by
  funext a
  by_cases h : a = i
  · subst h; rw [jUf_eq, jUf_eq]
  · rw [jUf_ne _ _ h, jUf_ne _ _ h, jUf_ne _ _ h]
theorem jUf_comm (t : jT) {a b : Nat} (h : a ≠ b) (f f2 : Nat → Int32) : jUf (jUf t a f) b f2 = jUf (jUf t b f2) a f := by
  funext i
  by_cases hb : i = b
  · subst hb; rw [jUf_eq, jUf_ne _ _ (Ne.symm h), jUf_eq]
  · rw [jUf_ne _ _ hb]
    by_cases ha : i = a
    · subst ha; rw [jUf_eq, jUf_eq]
    · rw [jUf_ne _ _ ha, jUf_ne _ _ ha, jUf_ne _ _ hb]
theorem jUf_self (t : jT) (i : Nat) : jUf t i (t i) = t := by
  funext a
  by_cases h : a = i
  · subst h; rw [jUf_eq]
  · rw [jUf_ne _ _ h]
section JBASE
variable {p : Program} {l : Launch} {e : Env} {R : Room} {s : State} {m : MethodId} {args : Array Value} {below : List Frame} {meth : Method} {c : Code} {cells slots : Nat} {Q : State → Prop}
variable {M : jI} {nL : Nat} {g : jG} {tb : Option (List ExceptionTableEntry)} {z : Option Nat} {sk : jS} {t : jT} {pc : Nat} {lv : List (Option Value)} {st : List Value}
theorem j_drop (i : Nat) (k : J p l e R s m args below meth c Q nL g cells slots z sk t pc (lv.set i none) st) : J p l e R s m args below meth c Q nL g cells slots z sk t pc lv st := fun H locs ls hM hF hFl hZ hL => k H locs ls hM hF hFl hZ (jL.weak hL fun q hq => by
  obtain ⟨a, w⟩ := q
  obtain ⟨j, h1, h2⟩ := (jLs_mem _ 0 a w).mp hq
  refine (jLs_mem lv 0 a w).mpr ⟨j, h1, ?_⟩
  by_cases hj : j = i
  · subst hj
    rw [List.getElem?_set] at h2
    split at h2
    · split at h2 <;> cases h2
    · next hne => exact absurd rfl hne
  · rw [List.getElem?_set_ne (Ne.symm hj)] at h2; exact h2)
theorem j_alen (X : jX p l s m args meth c M g tb) {i n : Nat} {ty : FieldType} (hs : sk i = some (kA ty n)) (ht : ty ∈ jtys) (hdg : decode M.2.1 pc = .ok (.arraylength, 1)) (k : J p l e R s m args below meth c Q nL g cells slots z sk t (pc + 1) lv (.int (nI n) :: st)) : J p l e R s m args below meth c Q nL g cells slots z sk t pc lv (.ref (jb g + i) :: st) := fun H locs ls hM hF hFl hZ hL =>
  va_alen X.1 X.2.1 (X.ok.A X.wm ht) (hM.one hs) 0 0 rfl rfl rfl hdg (k H locs ls hM hF hFl hZ hL)
theorem j_mabs (X : jX p l s m args meth c M g tb) {idx : Nat} {x : Int32} (hl : Cond.methodLink M.1.cls idx Lib.Math.abs.name ∈ lw_tbl) (h2 : Cond.static Lib.Math.abs.name ∈ lw_tbl) (h3 : Cond.initialized "java/lang/Math" ∈ lw_tbl) (h4 : Cond.code Lib.Math.abs.name Lib.Math.abs.code 1 (some .int) ∈ lw_tbl) (hdg : decode M.2.1 pc = .ok (.invokestatic idx, 3)) (k : J p l e R s m args below meth c Q nL g cells slots z sk t (pc + 3) lv (.int (if 0 ≤ x then x else 0 - x) :: st)) (hnL : M.2.2.1 = nL := by rfl) (hfr : 1 ≤ R.frames := by exact Nat.le_of_ble_eq_true rfl) (hlo : (st.map fun v => v.category).sum + 13 ≤ R.locals := by exact Nat.le_of_ble_eq_true rfl) (hmc : cells ≤ R.cells := by exact Nat.le_of_ble_eq_true rfl) (hms : slots ≤ R.slots := by exact Nat.le_of_ble_eq_true rfl) : J p l e R s m args below meth c Q nL g cells slots z sk t pc lv (.int x :: st) := fun H locs ls hM hF hFl hZ hL =>
  va_mabs X.1 X.2.1 (by rw [X.2.2.1, hnL]; exact hL.1.symm) X.own (X.word hl rfl) (X.word h2 rfl) (X.word h3 rfl) (X.word h4 rfl) hfr hlo hmc hms hdg (k H locs ls hM hF hFl hZ hL)
theorem j_mmax (X : jX p l s m args meth c M g tb) {idx : Nat} {x y : Int32} (hl : Cond.methodLink M.1.cls idx Lib.Math.max.name ∈ lw_tbl) (h2 : Cond.static Lib.Math.max.name ∈ lw_tbl) (h3 : Cond.initialized "java/lang/Math" ∈ lw_tbl) (h4 : Cond.code Lib.Math.max.name Lib.Math.max.code 2 (some .int) ∈ lw_tbl) (hdg : decode M.2.1 pc = .ok (.invokestatic idx, 3)) (k : J p l e R s m args below meth c Q nL g cells slots z sk t (pc + 3) lv (.int (if x < y then y else x) :: st)) (hnL : M.2.2.1 = nL := by rfl) (hfr : 1 ≤ R.frames := by exact Nat.le_of_ble_eq_true rfl) (hlo : (st.map fun v => v.category).sum + 13 ≤ R.locals := by exact Nat.le_of_ble_eq_true rfl) (hmc : cells ≤ R.cells := by exact Nat.le_of_ble_eq_true rfl) (hms : slots ≤ R.slots := by exact Nat.le_of_ble_eq_true rfl) : J p l e R s m args below meth c Q nL g cells slots z sk t pc lv (.int y :: .int x :: st) := fun H locs ls hM hF hFl hZ hL =>
  va_mmax X.1 X.2.1 (by rw [X.2.2.1, hnL]; exact hL.1.symm) X.own (X.word hl rfl) (X.word h2 rfl) (X.word h3 rfl) (X.word h4 rfl) hfr hlo hmc hms hdg (k H locs ls hM hF hFl hZ hL)
/-- the first q ints of one row into another -/
def jcp (t : jT) (i0 i1 q : Nat) : jT := jUf t i1 (fun k => if k < q then t i0 k else t i1 k)
theorem j_copy (X : jX p l s m args meth c M g tb) {idx i0 i1 n0 n1 q : Nat} (hs0 : sk i0 = some (kA .int n0)) (hs1 : sk i1 = some (kA .int n1)) (hq0 : q ≤ n0) (hq1 : q ≤ n1) (hq : q < 2 ^ 31) (hl : Cond.methodLink M.1.cls idx arraycopyName ∈ lw_tbl) (h2 : Cond.native arraycopyName ∈ lw_tbl) (h3 : Cond.static arraycopyName ∈ lw_tbl) (h4 : Cond.initialized "java/lang/System" ∈ lw_tbl) (hdg : decode M.2.1 pc = .ok (.invokestatic idx, 3)) (k : J p l e R s m args below meth c Q nL g cells slots z sk (jcp t i0 i1 q) (pc + 3) lv st) (hnL : M.2.2.1 = nL := by rfl) (hfr : 1 ≤ R.frames := by exact Nat.le_of_ble_eq_true rfl) (hlo : (st.map fun v => v.category).sum + (nativeFrameWords "java/lang/System" "arraycopy" 5 + 11) ≤ R.locals := by exact Nat.le_of_ble_eq_true (by decide +kernel)) : J p l e R s m args below meth c Q nL g cells slots z sk t pc lv (.int (nI q) :: .int (nI 0) :: .ref (jb g + i1) :: .int (nI 0) :: .ref (jb g + i0) :: st) := by
  intro H locs ls hM hF hFl hZ hL T hT X9
  have hK := X.ok.A X.wm (ty := .int) (by decide)
  have hc0 : H[jb g + i0]? = some (vp_cell (jAr g .int) (n0, .inl (t i0))) := hM i0 _ hs0
  have hc1 : H[jb g + i1]? = some (vp_cell (jAr g .int) (n1, .inl (t i1))) := hM i1 _ hs1
  obtain ⟨-, k0, hk0, cm0, hkk0⟩ := (hK.2 0 _ rfl).1 n0 (fun j => .int (t i0 j))
  obtain ⟨-, k1, hk1, cm1, hkk1⟩ := (hK.2 0 _ rfl).1 n1 (fun j => .int (t i1 j))
  have z0 : (nI 0).toNatClampNeg = 0 := nI_clamp (by decide)
  have zq : (nI q).toNatClampNeg = q := nI_clamp hq
  have i0' : (nI 0).toInt = 0 := by decide
  have iq : (nI q).toInt = (q : Int) := nI_toInt hq
  obtain ⟨vm', X', step⟩ := X9.arraycopy X.1 X.own (X.word hl rfl) (X.word h2 rfl) (X.word h3 rfl) (X.word h4 rfl) (src := jb g + i0) (dst := jb g + i1) (cs := vp_cell (jAr g .int) (n0, .inl (t i0))) (cd := vp_cell (jAr g .int) (n1, .inl (t i1))) (srcPos := nI 0) (destPos := nI 0) (n := nI q) (by rw [hT]; exact hc0) (by rw [hT]; exact hc1)
    (fun _ h => by cases h) (fun _ h => by cases h) (fun h => by cases h) (fun h => by cases h) hk0 hk1 hkk0 hkk1 rfl (nI_pos (by decide)) (nI_pos (by decide)) (nI_pos hq)
    (by rw [i0', iq]; show ¬ _ > ((arrV (jAr g .int) n0 (fun j => .int (t i0 j))).slots.size : Int); rw [arrV_size]; omega)
    (by rw [i0', iq]; show ¬ _ > ((arrV (jAr g .int) n1 (fun j => .int (t i1 j))).slots.size : Int); rw [arrV_size]; omega)
    (fun vm₁ _ i hi => by
      have e : (vp_cell (jAr g .int) (n0, .inl (t i0))).slots.getD ((nI 0).toNatClampNeg + i) .null = .int (t i0 ((nI 0).toNatClampNeg + i)) := by
        show (arrV (jAr g .int) n0 (fun j => .int (t i0 j))).slots.getD _ _ = _
        rw [Array.getD_eq_getD_getElem?, arrV_read _ _ (by rw [zq] at hi; omega)]
        rfl
      refine ⟨?_, ?_⟩
      · rw [e]; rfl
      · rw [e]; exact trivial)
    (g := F0 m pc ls (.int (nI q) :: .int (nI 0) :: .ref (jb g + i1) :: .int (nI 0) :: .ref (jb g + i0) :: st)) rfl (by rw [X.2.2.1, hnL]; exact hL.1) (rest := st) rfl (by rw [X.2.1]; exact hdg) hfr (by show 2 * 0 + _ + _ ≤ _; omega)
  have e1 : copied (vp_cell (jAr g .int) (n0, .inl (t i0))) (vp_cell (jAr g .int) (n1, .inl (t i1))) (nI 0) (nI 0) (nI q) = vp_cell (jAr g .int) (n1, .inl (va_cpy (t i0) (t i1) (nI 0).toNatClampNeg (nI 0).toNatClampNeg (nI q).toNatClampNeg)) := va_copied (fun z => .int z) _ _ (t i0) (t i1) (by rw [zq]; omega)
  rw [e1, z0, zq] at X' step
  have hlt : jb g + i1 < H.size := (Array.getElem?_eq_some_iff.mp hc1).1
  have hf : va_cpy (t i0) (t i1) 0 0 q = jcp t i0 i1 q i1 := by
    funext j
    simp [va_cpy, jcp, jUf_eq]
  rw [hf] at X' step
  have hheap : ((T.setVm vm').setCell (jb g + i1) (vp_cell (jAr g .int) (n1, .inl (jcp t i0 i1 q i1)))).heap = H.setIfInBounds (jb g + i1) (vp_cell (jAr g .int) (n1, .inl (jcp t i0 i1 q i1))) := by rw [← hT]; rfl
  have oq : ∀ q9 : Nat, q9 ≠ jb g + i1 → q9 < H.size → (H.setIfInBounds (jb g + i1) (vp_cell (jAr g .int) (n1, .inl (jcp t i0 i1 q i1))))[q9]? = H[q9]? := fun q9 hq _ => by simp [Array.getElem?_setIfInBounds, Ne.symm hq]
  obtain ⟨u, a1, b1⟩ := k _ _ ls (hM.put i1 (fun a _ => rfl) (fun a ha => jUf_ne _ _ ha) (fun k2 hk2 => by
      rw [hs1] at hk2
      cases hk2
      show (H.setIfInBounds (jb g + i1) _)[jb g + i1]? = some _
      simp [Array.getElem?_setIfInBounds, hlt]) oq) (hF.put (by simp) oq) (fun q9 hq9 => by
      rcases List.mem_append.mp hq9 with h | h
      · exact hFl q9 h
      · obtain ⟨z9, -, hz9⟩ := List.mem_map.mp h
        rw [← hz9]
        exact Nat.le_add_right _ _) (hZ.put (by simp)) hL _ hheap X'
  exact ⟨u, step u a1, b1⟩
end JBASE
/-- Integer.bitCount of a number of sixteen bits -/
theorem s_bitCount {l : Launch} {g : jG} (hok : jOk g) (hst : l.stackTraces = false) {z : Option Nat} {sk : jS} {t : jT} {n : Nat} (hn : n < 65536) : jMet l g mJ6_bitCount_0f7a4 1 0 0 [.int (nI n)] z sk t (jE (some (.int (nI (pop n)))) z sk t) := by
  refine j_body (lv := [some (.int (nI n))]) i_J6_bitCount_0f7a4 hok hst (fun p e s m args below meth c X => ?_)
  refine j_iload_n X (i := 0) dJ6_bitCount_0f7a4_0 rfl rfl ?_
  refine j_iload_n X (i := 0) dJ6_bitCount_0f7a4_1 rfl rfl ?_
  refine j_iconst X (v := (nI 1)) dJ6_bitCount_0f7a4_2 (by decide) ?_
  refine j_iushr X dJ6_bitCount_0f7a4_3 rfl ?_
  refine j_ldc_w X dJ6_bitCount_0f7a4_4 tw_2_78 ?_
  refine j_iand X dJ6_bitCount_0f7a4_7 ?_
  refine j_isub X dJ6_bitCount_0f7a4_8 ?_
  refine j_istore_n X (i := 0) dJ6_bitCount_0f7a4_9 rfl (by decide) rfl ?_
  refine j_iload_n X (i := 0) dJ6_bitCount_0f7a4_10 rfl rfl ?_
  refine j_ldc_w X dJ6_bitCount_0f7a4_11 tw_2_79 ?_
  refine j_iand X dJ6_bitCount_0f7a4_14 ?_
  refine j_iload_n X (i := 0) dJ6_bitCount_0f7a4_15 rfl rfl ?_
  refine j_iconst X (v := (nI 2)) dJ6_bitCount_0f7a4_16 (by decide) ?_
  refine j_iushr X dJ6_bitCount_0f7a4_17 rfl ?_
  refine j_ldc_w X dJ6_bitCount_0f7a4_18 tw_2_79 ?_
  refine j_iand X dJ6_bitCount_0f7a4_21 ?_
  refine j_iadd X dJ6_bitCount_0f7a4_22 ?_
  refine j_istore_n X (i := 0) dJ6_bitCount_0f7a4_23 rfl (by decide) rfl ?_
  refine j_iload_n X (i := 0) dJ6_bitCount_0f7a4_24 rfl rfl ?_
  refine j_iload_n X (i := 0) dJ6_bitCount_0f7a4_25 rfl rfl ?_
  refine j_iconst X (v := (nI 4)) dJ6_bitCount_0f7a4_26 (by decide) ?_
  refine j_iushr X dJ6_bitCount_0f7a4_27 rfl ?_
  refine j_iadd X dJ6_bitCount_0f7a4_28 ?_
  refine j_ldc_w X dJ6_bitCount_0f7a4_29 tw_2_80 ?_
  refine j_iand X dJ6_bitCount_0f7a4_32 ?_
  refine j_istore_n X (i := 0) dJ6_bitCount_0f7a4_33 rfl (by decide) rfl ?_
  refine j_iload_n X (i := 0) dJ6_bitCount_0f7a4_34 rfl rfl ?_
  refine j_iload_n X (i := 0) dJ6_bitCount_0f7a4_35 rfl rfl ?_
  refine j_bipush X (v := (nI 8)) dJ6_bitCount_0f7a4_36 (by decide) ?_
  refine j_iushr X dJ6_bitCount_0f7a4_38 rfl ?_
  refine j_iadd X dJ6_bitCount_0f7a4_39 ?_
  refine j_istore_n X (i := 0) dJ6_bitCount_0f7a4_40 rfl (by decide) rfl ?_
  refine j_iload_n X (i := 0) dJ6_bitCount_0f7a4_41 rfl rfl ?_
  refine j_iload_n X (i := 0) dJ6_bitCount_0f7a4_42 rfl rfl ?_
  refine j_bipush X (v := (nI 16)) dJ6_bitCount_0f7a4_43 (by decide) ?_
  refine j_iushr X dJ6_bitCount_0f7a4_45 rfl ?_
  refine j_iadd X dJ6_bitCount_0f7a4_46 ?_
  refine j_istore_n X (i := 0) dJ6_bitCount_0f7a4_47 rfl (by decide) rfl ?_
  refine j_iload_n X (i := 0) dJ6_bitCount_0f7a4_48 rfl rfl ?_
  refine j_bipush X (v := (nI 63)) dJ6_bitCount_0f7a4_49 (by decide) ?_
  refine j_iand X dJ6_bitCount_0f7a4_51 ?_
  exact j_iret X dJ6_bitCount_0f7a4_52 rfl rfl ⟨congrArg (fun v => some (Value.int v)) (swr_ok hn), rfl, rfl, rfl⟩
/-- Arrays.fill of a whole int row -/
theorem s_fill {l : Launch} {g : jG} (hok : jOk g) (hst : l.stackTraces = false) {z : Option Nat} {sk : jS} {t : jT} {i n : Nat} (hs : sk i = some (kA .int n)) (hn : n < 2 ^ 30) (v : Int32) : jMet l g mJ7_fill_53178 1 0 0 [.ref (jb g + i), .int v] z sk t (jE none z sk (jUf t i (fun k => if k < n then v else t i k))) := by
  refine j_body (lv := [some (.ref (jb g + i)), some (.int v), none, none]) i_J7_fill_53178 hok hst (fun p e s m args below meth c X => ?_)
  refine j_iconst X (v := (nI 0)) dJ7_fill_53178_0 (by decide) ?_
  refine j_istore_n X (i := 2) dJ7_fill_53178_1 rfl (by decide) rfl ?_
  refine j_aload_n X (i := 0) dJ7_fill_53178_2 rfl rfl ?_
  refine j_alen X hs (by decide) dJ7_fill_53178_3 ?_
  refine j_istore_n X (i := 3) dJ7_fill_53178_4 rfl (by decide) rfl ?_
  have key : ∀ k, k ≤ n → J p l e (jR 1 0 0) s m args below meth c (jQm below args s g 0 0 (jE none z sk (jUf t i (fun k => if k < n then v else t i k)))) 4 g 0 0 z sk (jUf t i (fun j => if j < k then v else t i j)) 5 [some (.ref (jb g + i)), some (.int v), some (.int (nI k)), some (.int (nI n))] [] := by
    refine up_loop ?_ ?_
    · refine j_iload_n X (i := 2) dJ7_fill_53178_5 rfl rfl ?_
      refine j_iload_n X (i := 3) dJ7_fill_53178_6 rfl rfl ?_
      refine j_icmp_ge X (tgt := 20) dJ7_fill_53178_7 (by decide) (fun _ => ?_) (fun h => absurd (nI_le (Nat.le_refl _) (by omega)) h)
      exact j_vret X dJ7_fill_53178_20 rfl ⟨rfl, rfl, rfl, rfl⟩
    · intro k hk ih
      refine j_iload_n X (i := 2) dJ7_fill_53178_5 rfl rfl ?_
      refine j_iload_n X (i := 3) dJ7_fill_53178_6 rfl rfl ?_
      refine j_icmp_ge X (tgt := 20) dJ7_fill_53178_7 (by decide) (fun h => absurd h (nI_ge hk (by omega))) (fun _ => ?_)
      refine j_aload_n X (i := 0) dJ7_fill_53178_10 rfl rfl ?_
      refine j_iload_n X (i := 2) dJ7_fill_53178_11 rfl rfl ?_
      refine j_iload_n X (i := 1) dJ7_fill_53178_12 rfl rfl ?_
      refine j_iast X hs rfl hk (by omega) dJ7_fill_53178_13 ?_
      refine j_iinc X (i := 2) (v := (nI (k + 1))) dJ7_fill_53178_14 rfl (nI_1 k) (by decide) rfl ?_
      refine j_goto X (tgt := 5) dJ7_fill_53178_17 (by decide) ?_
      refine cast ?_ ih
      congr 1
      rw [jU_row, jUf_jUf, jUf_eq]
      congr 1
      funext j
      by_cases hj : j = k
      · subst hj; simp [upd]
      · simp only [upd, if_neg hj]
        by_cases h2 : j < k
        · rw [if_pos h2, if_pos (by omega)]
        · rw [if_neg h2, if_neg (by omega)]
  have k0 := key 0 (Nat.zero_le _)
  rw [show (fun j => if j < 0 then v else t i j) = t i from funext fun j => if_neg (Nat.not_lt_zero j), jUf_self] at k0
  exact k0
