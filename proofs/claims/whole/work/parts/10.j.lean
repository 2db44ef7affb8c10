/-! memory of places -/
abbrev jG : Type := State × va_G × (FieldType → ClassId)
abbrev j0 (g : jG) : State := g.1
abbrev jD (g : jG) : va_G := g.2.1
abbrev jAr (g : jG) : FieldType → ClassId := g.2.2
abbrev jb (g : jG) : Nat := g.1.heap.size
abbrev jK : Type := (Nat × List (Int32 → Value)) ⊕ ((FieldType × Nat) ⊕ ((String × Nat × (Nat → Option Nat)) ⊕ ((Nat × (Nat → Int64)) ⊕ (Nat × (Nat → UInt64)))))
abbrev kO (ci : Nat) (fs : List (Int32 → Value)) : jK := .inl (ci, fs)
abbrev kA (ty : FieldType) (n : Nat) : jK := .inr (.inl (ty, n))
abbrev kR (C : String) (n : Nat) (a : Nat → Option Nat) : jK := .inr (.inr (.inl (C, n, a)))
abbrev kL (n : Nat) (a : Nat → Int64) : jK := .inr (.inr (.inr (.inl (n, a))))
abbrev kD (n : Nat) (a : Nat → UInt64) : jK := .inr (.inr (.inr (.inr (n, a))))
def jC (g : jG) : jK → (Nat → Int32) → va_E
  | .inl (ci, fs), f => .inr (ci, fs.mapIdx (fun i φ => φ (f i)))
  | .inr (.inl (ty, n)), f => .inl (jAr g ty, n, .inl f)
  | .inr (.inr (.inl (C, n, a))), _ => .inl (jAr g (.object C), n, .inr (.inr (.inr (.inr a))))
  | .inr (.inr (.inr (.inl (n, a)))), _ => .inl (jAr g .long, n, .inr (.inl a))
  | .inr (.inr (.inr (.inr (n, a)))), _ => .inl (jAr g .double, n, .inr (.inr (.inr (.inl a))))
abbrev jS : Type := Nat → Option jK
abbrev jT : Type := Nat → Nat → Int32
/-- the value v at the place i, k -/
def jU (t : jT) (i k : Nat) (v : Int32) : jT := fun a => if a = i then upd (t a) k v else t a
theorem jU_eq (t : jT) (i k : Nat) (v : Int32) : jU t i k v i = upd (t i) k v := by simp [jU]
theorem jU_ne (t : jT) {i a : Nat} (k : Nat) (v : Int32) (h : a ≠ i) : jU t i k v a = t a := by simp [jU, h]
def jN (sk : jS) (i : Nat) (k : jK) : jS := fun a => if a = i then some k else sk a
theorem jN_eq (sk : jS) (i : Nat) (k : jK) : jN sk i k i = some k := by simp [jN]
theorem jN_ne (sk : jS) {i a : Nat} (k : jK) (h : a ≠ i) : jN sk i k a = sk a := by simp [jN, h]
def jtys : List FieldType := [.int, .char, .long, .double, .object "StarPress$Plate", .object "StarPress$Sheet", .object "StarPress$Shop"]
/-- what holds where the law begins -/
def jOk (g : jG) : Prop := (∃ b : Nat, (∀ w ∈ lw_tbl, w.before #[Value.ref b] (j0 g) = true) ∧ (Jvm.Cond.and given_1 narrow_1).before #[Value.ref b] (j0 g) = true) ∧ va_K (jD g) vwCl [] (j0 g) ∧ ∀ ty ∈ jtys, ArrOfT (j0 g) (jAr g ty) ty ∧ va_RA (j0 g) (jAr g ty) ty
def jM (g : jG) (sk : jS) (t : jT) (H : Heap) : Prop := ∀ (i : Nat) (k : jK), sk i = some k → va_at (jD g) vwCl (jb g + i, jC g k (t i)) H
def jF0 (g : jG) (H : Heap) : Prop := jb g ≤ H.size ∧ ∀ q : Nat, q < jb g → H[q]? = (j0 g).heap[q]?
def jFl (g : jG) (locs : List Loc) : Prop := ∀ q ∈ locs, jb g ≤ q.base
def jZ (g : jG) (z : Option Nat) (H : Heap) : Prop := ∀ n, z = some n → H.size = jb g + n
def jLs : Nat → List (Option Value) → List (Nat × Value)
  | _, [] => []
  | i, none :: t => jLs (i + 1) t
  | i, some v :: t => (i, v) :: jLs (i + 1) t
theorem jLs_mem (lv : List (Option Value)) : ∀ (k i : Nat) (v : Value), (i, v) ∈ jLs k lv ↔ ∃ j, i = k + j ∧ lv[j]? = some (some v) := by
  induction lv with
  | nil => intro k i v; simp [jLs]
  | cons x t ih =>
    intro k i v
    cases x with
    | none =>
      simp only [jLs]
      rw [ih]
      constructor
      · rintro ⟨j, h1, h2⟩
        exact ⟨j + 1, by omega, by simpa using h2⟩
      · rintro ⟨j, h1, h2⟩
        cases j with
        | zero => simp at h2
        | succ j => exact ⟨j, by omega, by simpa using h2⟩
    | some w =>
      simp only [jLs, List.mem_cons]
      rw [ih]
      constructor
      · rintro (h | ⟨j, h1, h2⟩)
        · cases h; exact ⟨0, by omega, by simp⟩
        · exact ⟨j + 1, by omega, by simpa using h2⟩
      · rintro ⟨j, h1, h2⟩
        cases j with
        | zero => left; simp at h2; rw [h2, h1]; rfl
        | succ j => exact Or.inr ⟨j, by omega, by simpa using h2⟩
def jL (ls : Array Slot) (nL : Nat) (lv : List (Option Value)) : Prop := lv_has ls nL (jLs 0 lv)
theorem jL.get {ls : Array Slot} {nL : Nat} {lv : List (Option Value)} (h : jL ls nL lv) {i : Nat} {v : Value} (hi : lv[i]? = some (some v)) : ls[i]? = some (.val v) := h.2.2 (i, v) ((jLs_mem lv 0 i v).mpr ⟨i, by omega, hi⟩)
theorem jL.weak {ls : Array Slot} {nL : Nat} {l : List (Nat × Value)} {lv : List (Option Value)} (h : lv_has ls nL l) (hs : ∀ q ∈ jLs 0 lv, q ∈ l) : jL ls nL lv := ⟨h.1, h.2.1, fun q hq => h.2.2 q (hs q hq)⟩
/-- the place before i holds nothing of two slots -/
def jc1 (lv : List (Option Value)) : Nat → Bool
  | 0 => true
  | i + 1 => match lv[i]? with
    | some (some v) => v.category != 2
    | _ => true
theorem jL.set {ls : Array Slot} {nL : Nat} {lv : List (Option Value)} {i : Nat} {v : Value} (hc : jc1 lv i = true) (h : lv_has ls nL ((i, v) :: (jLs 0 lv).filter (fun q => !(q.1 == i) && !(q.1 + 1 == i && q.2.category == 2)))) : jL ls nL (lv.set i (some v)) := by
  refine jL.weak h fun q hq => ?_
  obtain ⟨a, w⟩ := q
  obtain ⟨j, h1, h2⟩ := (jLs_mem _ 0 a w).mp hq
  have : a = j := by omega
  subst this
  by_cases hai : a = i
  · subst hai
    rw [List.getElem?_set] at h2
    split at h2
    · split at h2
      · cases h2; exact List.mem_cons_self
      · cases h2
    · next hne => exact absurd rfl hne
  · rw [List.getElem?_set_ne (Ne.symm hai)] at h2
    refine List.mem_cons_of_mem _ (List.mem_filter.mpr ⟨(jLs_mem lv 0 a w).mpr ⟨a, by omega, h2⟩, ?_⟩)
    simp only [Bool.and_eq_true, Bool.not_eq_true', beq_eq_false_iff_ne, ne_eq, Bool.and_eq_false_iff]
    refine ⟨hai, ?_⟩
    by_cases hp : a + 1 = i
    · right
      subst hp
      simp only [jc1, h2] at hc
      simpa using hc
    · exact Or.inl hp
/-- a method: name, code, how many places it has, what it returns -/
abbrev jI : Type := MethodName × ByteArray × Nat × Option FieldType
def jX (p : Program) (l : Launch) (s : State) (m : MethodId) (args : Array Value) (meth : Method) (c : Code) (M : jI) (g : jG) (tb : Option (List ExceptionTableEntry)) : Prop :=
  p.tables.exec = Jvm.exec ∧ c.code = M.2.1 ∧ c.maxLocals = M.2.2.1 ∧ s.vm.findClass M.1.cls = some m.cls ∧ meth.locks = false ∧ meth.sig.returnType = M.2.2.2 ∧ meth.name = M.1.name ∧ l.stackTraces = false ∧ jOk g ∧ (j0 g).WarmedH s.vm ∧ jF0 g s.heap ∧ ∀ L, tb = some L → c.exceptionTable.toList = L
def J (p : Program) (l : Launch) (e : Env) (R : Room) (s : State) (m : MethodId) (args : Array Value) (below : List Frame) (meth : Method) (c : Code) (Q : State → Prop) (nL : Nat) (g : jG) (cells slots : Nat) (z : Option Nat) (sk : jS) (t : jT) (pc : Nat) (lv : List (Option Value)) (st : List Value) : Prop :=
  ∀ (H : Heap) (locs : List Loc) (ls : Array Slot), jM g sk t H → jF0 g H → jFl g locs → jZ g z H → jL ls nL lv → W p l e R s m args below meth c H locs cells slots Q (F0 m pc ls st)
/-- the frame with E thrown over it -/
def JE (p : Program) (l : Launch) (e : Env) (R : Room) (s : State) (m : MethodId) (args : Array Value) (below : List Frame) (meth : Method) (c : Code) (Q : State → Prop) (nL : Nat) (g : jG) (cells slots : Nat) (E : String) (z : Option Nat) (sk : jS) (t : jT) (pc : Nat) (lv : List (Option Value)) (st : List Value) : Prop :=
  ∀ (H : Heap) (locs : List Loc) (ls : Array Slot) (ce : Cell) (q : Addr), jM g sk t H → jF0 g H → jFl g locs → jZ g z H → jL ls nL lv → H[q]? = some ce → ce.vm = .none → s.vm.findClass E = some ce.cls → vx_W p l e R s m args below meth c H locs cells slots Q (F0 m pc ls st) q
theorem jOk.word {g : jG} (h : jOk g) {s : State} (hW : (j0 g).WarmedH s.vm) {args : Array Value} {w : Cond} (hw : w ∈ lw_tbl) (hg : goodWord w = true) : w.before args s = true := by
  obtain ⟨⟨b, h1, -⟩, -⟩ := h
  exact word_at hW (good_of_word hg) (h1 w hw)
theorem jOk.nestF {g : jG} (h : jOk g) {s : State} (hW : (j0 g).WarmedH s.vm) {args : Array Value} {a : String} {i : Nat} {b n d hh : String} (hw : Cond.fieldLinkNest a i b n d hh ∈ lw_tbl) : (Cond.fieldLinkNest a i b n d hh).before args s = true := by
  obtain ⟨⟨b, h1, -⟩, -⟩ := h
  exact va_Nw.use rfl (va_Nw.warmF hW (va_Nw.of rfl (h1 _ hw)))
theorem jOk.nestM {g : jG} (h : jOk g) {s : State} (hW : (j0 g).WarmedH s.vm) {a : String} {i : Nat} {x : MethodName} {hh : String} (hw : Cond.methodLinkNest a i x hh ∈ lw_tbl) : va_Nw (.methodLinkNest a i x hh) s := by
  obtain ⟨⟨b, h1, -⟩, -⟩ := h
  exact va_Nw.warmM hW (va_Nw.of rfl (h1 _ hw))
theorem jOk.K {g : jG} (h : jOk g) {s : State} (hW : (j0 g).WarmedH s.vm) : va_K (jD g) vwCl [] s := va_K.moved hW.alike h.2.1
theorem jOk.A {g : jG} (h : jOk g) {s : State} (hW : (j0 g).WarmedH s.vm) {ty : FieldType} (ht : ty ∈ jtys) : va_K (jD g) vwCl [(jAr g ty, ty)] s := by
  refine ⟨(jOk.K h hW).1, fun k q hk => ?_⟩
  have hz : k < 1 := (List.getElem?_eq_some_iff.mp hk).1
  rw [show k = 0 by omega] at hk
  cases hk
  obtain ⟨h1, h2⟩ := h.2.2 ty ht
  exact ⟨arrOfT_moved hW.alike h1, h2.moved hW.alike⟩
/-- one place of the memory as a world of its own -/
theorem jM.one {g : jG} {sk : jS} {t : jT} {H : Heap} (h : jM g sk t H) {i : Nat} {k : jK} (hs : sk i = some k) : va_P (jD g) vwCl [(jb g + i, jC g k (t i))] H := by
  intro n q hn
  have hz : n < 1 := (List.getElem?_eq_some_iff.mp hn).1
  rw [show n = 0 by omega] at hn
  cases hn
  exact h i k hs
theorem jM.lt {g : jG} {sk : jS} {t : jT} {H : Heap} (h : jM g sk t H) {i : Nat} {k : jK} (hs : sk i = some k) : jb g + i < H.size := (h i k hs).lt
/-- one place changes, all others stay -/
theorem jM.put {g : jG} {sk sk' : jS} {t t' : jT} {H H1 : Heap} (h : jM g sk t H) (i : Nat) (hs : ∀ a, a ≠ i → sk' a = sk a) (ht : ∀ a, a ≠ i → t' a = t a) (hn : ∀ k, sk' i = some k → va_at (jD g) vwCl (jb g + i, jC g k (t' i)) H1) (oq : ∀ q : Nat, q ≠ jb g + i → q < H.size → H1[q]? = H[q]?) : jM g sk' t' H1 := by
  intro a k hk
  by_cases ha : a = i
  · subst ha; exact hn k hk
  · rw [hs a ha] at hk
    rw [ht a ha]
    exact (h a k hk).kept (oq _ (by show jb g + a ≠ jb g + i; omega) (h.lt hk))
theorem jF0.put {g : jG} {H H1 : Heap} {a : Nat} (h : jF0 g H) (z : H.size ≤ H1.size) (oq : ∀ q : Nat, q ≠ jb g + a → q < H.size → H1[q]? = H[q]?) : jF0 g H1 := ⟨Nat.le_trans h.1 z, fun q hq => by rw [oq q (by omega) (Nat.lt_of_lt_of_le hq h.1)]; exact h.2 q hq⟩
theorem jFl.put {g : jG} {locs : List Loc} (h : jFl g locs) (a k : Nat) : jFl g (locs ++ [⟨jb g + a, k⟩]) := by
  intro q hq
  rcases List.mem_append.mp hq with h1 | h1
  · exact h q h1
  · rw [List.mem_singleton.mp h1]
    exact Nat.le_add_right _ _
theorem jZ.put {g : jG} {z : Option Nat} {H H1 : Heap} (h : jZ g z H) (e : H1.size = H.size) : jZ g z H1 := fun n hn => e.trans (h n hn)
theorem jMap_get {fs : List (Int32 → Value)} {f : Nat → Int32} {k : Nat} {φ : Int32 → Value} (h : fs[k]? = some φ) : (fs.mapIdx (fun i φ => φ (f i)))[k]? = some (φ (f k)) := by
  rw [List.getElem?_mapIdx, h]; rfl
theorem jMap_set {fs : List (Int32 → Value)} {f : Nat → Int32} {k : Nat} {φ : Int32 → Value} (h : fs[k]? = some φ) (x : Int32) : (fs.mapIdx (fun i φ => φ (f i))).set k (φ x) = fs.mapIdx (fun i φ => φ (upd f k x i)) := by
  apply List.ext_getElem?
  intro n
  rw [List.getElem?_set, List.getElem?_mapIdx, List.getElem?_mapIdx, List.length_mapIdx]
  by_cases hn : k = n
  · subst hn
    rw [if_pos rfl, if_pos (List.getElem?_eq_some_iff.mp h).1, h]
    simp [upd]
  · rw [if_neg hn]
    cases fs[n]? with
    | none => rfl
    | some ψ => simp [upd, Ne.symm hn]
theorem jMap_setR {fs : List (Int32 → Value)} {f : Nat → Int32} {k : Nat} (v : Value) : (fs.mapIdx (fun i φ => φ (f i))).set k v = (fs.set k (fun _ => v)).mapIdx (fun i φ => φ (f i)) := by
  apply List.ext_getElem?
  intro n
  rw [List.getElem?_set, List.getElem?_mapIdx, List.getElem?_mapIdx, List.length_mapIdx, List.getElem?_set]
  by_cases hn : k = n
  · subst hn
    rw [if_pos rfl, if_pos rfl]
    by_cases hk : k < fs.length
    · rw [if_pos hk, if_pos hk]; rfl
    · rw [if_neg hk, if_neg hk]; rfl
  · rw [if_neg hn, if_neg hn]
/-- a field: where it is named, in whose constants, of the kind ci, the k-th -/
def jFd (own : String) (idx ci k : Nat) (ty : FieldType) (fin : Bool) : Prop := ∃ (C : String) (T : u_T) (N : Nat) (ty0 : Nat → FieldType), vwCl[ci]? = some (C, T, N) ∧ k < N ∧ (∀ w ∈ u_ws C T N, w ∈ lw_tbl) ∧ (∀ w ∈ u_ws C T N, goodWord w = true) ∧ (∀ k, k < N → parseFieldDescriptor (T k).2.2.1 = some (ty0 k)) ∧ (∀ a, a < N → ∀ b, b < N → a ≠ b → (T a).2.1 ≠ (T b).2.1) ∧ ty0 k = ty ∧ (T k).2.2.2 = fin ∧ (T k).1 = C ∧
  (Cond.fieldLink own idx C (T k).2.1 (T k).2.2.1 ∈ lw_tbl ∨ ∃ h, Cond.fieldLinkNest own idx C (T k).2.1 (T k).2.2.1 h ∈ lw_tbl)
section JROWS
variable {p : Program} {l : Launch} {e : Env} {R : Room} {s : State} {m : MethodId} {args : Array Value} {below : List Frame} {meth : Method} {c : Code} {cells slots : Nat} {Q : State → Prop}
variable {M : jI} {nL : Nat} {g : jG} {tb : Option (List ExceptionTableEntry)} {z : Option Nat} {sk : jS} {t : jT} {pc : Nat} {lv : List (Option Value)} {st : List Value}
theorem jX.lk (X : jX p l s m args meth c M g tb) : meth.locks = false := X.2.2.2.2.1
theorem jX.ok (X : jX p l s m args meth c M g tb) : jOk g := X.2.2.2.2.2.2.2.2.1
theorem jX.wm (X : jX p l s m args meth c M g tb) : (j0 g).WarmedH s.vm := X.2.2.2.2.2.2.2.2.2.1
theorem jX.fr (X : jX p l s m args meth c M g tb) : jF0 g s.heap := X.2.2.2.2.2.2.2.2.2.2.1
theorem jX.own (X : jX p l s m args meth c M g tb) : s.vm.findClass M.1.cls = some m.cls := X.2.2.2.1
theorem jX.ret (X : jX p l s m args meth c M g tb) : meth.sig.returnType = M.2.2.2 := X.2.2.2.2.2.1
theorem jX.nm (X : jX p l s m args meth c M g tb) : meth.name = M.1.name := X.2.2.2.2.2.2.1
theorem jX.word (X : jX p l s m args meth c M g tb) {w : Cond} (hw : w ∈ lw_tbl) (hg : goodWord w = true) : w.before args s = true := X.ok.word X.wm hw hg
theorem j_iconst (X : jX p l s m args meth c M g tb) {n : Int} {v : Int32} (hdg : decode M.2.1 pc = .ok (.iconst n, 1)) (hv : Int32.ofInt n = v) (k : J p l e R s m args below meth c Q nL g cells slots z sk t (pc + 1) lv (.int v :: st)) : J p l e R s m args below meth c Q nL g cells slots z sk t pc lv (st) := fun H locs ls hM hF hFl hZ hL => lv_iconst X.1 X.2.1 hdg hv (k H locs ls hM hF hFl hZ hL)
theorem j_bipush (X : jX p l s m args meth c M g tb) {n : Int} {v : Int32} (hdg : decode M.2.1 pc = .ok (.bipush n, 2)) (hv : (Int8.ofInt n).toInt32 = v) (k : J p l e R s m args below meth c Q nL g cells slots z sk t (pc + 2) lv (.int v :: st)) : J p l e R s m args below meth c Q nL g cells slots z sk t pc lv (st) := fun H locs ls hM hF hFl hZ hL => lv_bipush X.1 X.2.1 hdg hv (k H locs ls hM hF hFl hZ hL)
theorem j_sipush (X : jX p l s m args meth c M g tb) {n : Int} {v : Int32} (hdg : decode M.2.1 pc = .ok (.sipush n, 3)) (hv : (Int16.ofInt n).toInt32 = v) (k : J p l e R s m args below meth c Q nL g cells slots z sk t (pc + 3) lv (.int v :: st)) : J p l e R s m args below meth c Q nL g cells slots z sk t pc lv (st) := fun H locs ls hM hF hFl hZ hL => lv_sipush X.1 X.2.1 hdg hv (k H locs ls hM hF hFl hZ hL)
theorem j_lconst (X : jX p l s m args meth c M g tb) {n : Fin 2} {v : Int64} (hdg : decode M.2.1 pc = .ok (.lconst n, 1)) (hv : Int64.ofNat (n : Nat) = v) (k : J p l e R s m args below meth c Q nL g cells slots z sk t (pc + 1) lv (.long v :: st)) : J p l e R s m args below meth c Q nL g cells slots z sk t pc lv (st) := fun H locs ls hM hF hFl hZ hL => lv_lconst X.1 X.2.1 hdg hv (k H locs ls hM hF hFl hZ hL)
theorem j_iload_n (X : jX p l s m args meth c M g tb) {q : Fin 4} {i : Nat} {x : Int32} (hdg : decode M.2.1 pc = .ok (.iload_n q, 1)) (hi : (q : Nat) = i) (hl : lv[i]? = some (some (.int x))) (k : J p l e R s m args below meth c Q nL g cells slots z sk t (pc + 1) lv (.int x :: st)) : J p l e R s m args below meth c Q nL g cells slots z sk t pc lv (st) := fun H locs ls hM hF hFl hZ hL => lv_iload_n X.1 X.2.1 hdg hi (hL.get hl) (k H locs ls hM hF hFl hZ hL)
theorem j_iload (X : jX p l s m args meth c M g tb) {i : Nat} {x : Int32} (hdg : decode M.2.1 pc = .ok (.iload i, 2)) (hl : lv[i]? = some (some (.int x))) (k : J p l e R s m args below meth c Q nL g cells slots z sk t (pc + 2) lv (.int x :: st)) : J p l e R s m args below meth c Q nL g cells slots z sk t pc lv (st) := fun H locs ls hM hF hFl hZ hL => lv_iload X.1 X.2.1 hdg (hL.get hl) (k H locs ls hM hF hFl hZ hL)
theorem j_aload_n (X : jX p l s m args meth c M g tb) {q : Fin 4} {i x : Nat} (hdg : decode M.2.1 pc = .ok (.aload_n q, 1)) (hi : (q : Nat) = i) (hl : lv[i]? = some (some (.ref x))) (k : J p l e R s m args below meth c Q nL g cells slots z sk t (pc + 1) lv (.ref x :: st)) : J p l e R s m args below meth c Q nL g cells slots z sk t pc lv (st) := fun H locs ls hM hF hFl hZ hL => lv_aload_n X.1 X.2.1 hdg hi (hL.get hl) (k H locs ls hM hF hFl hZ hL)
theorem j_aload (X : jX p l s m args meth c M g tb) {i x : Nat} (hdg : decode M.2.1 pc = .ok (.aload i, 2)) (hl : lv[i]? = some (some (.ref x))) (k : J p l e R s m args below meth c Q nL g cells slots z sk t (pc + 2) lv (.ref x :: st)) : J p l e R s m args below meth c Q nL g cells slots z sk t pc lv (st) := fun H locs ls hM hF hFl hZ hL => lv_aload X.1 X.2.1 hdg (hL.get hl) (k H locs ls hM hF hFl hZ hL)
theorem j_fload (X : jX p l s m args meth c M g tb) {i : Nat} {x : UInt32} (hdg : decode M.2.1 pc = .ok (.fload i, 2)) (hl : lv[i]? = some (some (.float x))) (k : J p l e R s m args below meth c Q nL g cells slots z sk t (pc + 2) lv (.float x :: st)) : J p l e R s m args below meth c Q nL g cells slots z sk t pc lv (st) := fun H locs ls hM hF hFl hZ hL => lv_fload X.1 X.2.1 hdg (hL.get hl) (k H locs ls hM hF hFl hZ hL)
theorem j_dload (X : jX p l s m args meth c M g tb) {i : Nat} {x : UInt64} (hdg : decode M.2.1 pc = .ok (.dload i, 2)) (hl : lv[i]? = some (some (.double x))) (k : J p l e R s m args below meth c Q nL g cells slots z sk t (pc + 2) lv (.double x :: st)) : J p l e R s m args below meth c Q nL g cells slots z sk t pc lv (st) := fun H locs ls hM hF hFl hZ hL => lv_dload X.1 X.2.1 hdg (hL.get hl) (k H locs ls hM hF hFl hZ hL)
theorem j_iadd (X : jX p l s m args meth c M g tb) {x y : Int32} (hdg : decode M.2.1 pc = .ok (.iadd, 1)) (k : J p l e R s m args below meth c Q nL g cells slots z sk t (pc + 1) lv (.int (x + y) :: st)) : J p l e R s m args below meth c Q nL g cells slots z sk t pc lv (.int y :: .int x :: st) := fun H locs ls hM hF hFl hZ hL => lv_iadd X.1 X.2.1 hdg (k H locs ls hM hF hFl hZ hL)
theorem j_isub (X : jX p l s m args meth c M g tb) {x y : Int32} (hdg : decode M.2.1 pc = .ok (.isub, 1)) (k : J p l e R s m args below meth c Q nL g cells slots z sk t (pc + 1) lv (.int (x - y) :: st)) : J p l e R s m args below meth c Q nL g cells slots z sk t pc lv (.int y :: .int x :: st) := fun H locs ls hM hF hFl hZ hL => lv_isub X.1 X.2.1 hdg (k H locs ls hM hF hFl hZ hL)
theorem j_imul (X : jX p l s m args meth c M g tb) {x y : Int32} (hdg : decode M.2.1 pc = .ok (.imul, 1)) (k : J p l e R s m args below meth c Q nL g cells slots z sk t (pc + 1) lv (.int (x * y) :: st)) : J p l e R s m args below meth c Q nL g cells slots z sk t pc lv (.int y :: .int x :: st) := fun H locs ls hM hF hFl hZ hL => lv_imul X.1 X.2.1 hdg (k H locs ls hM hF hFl hZ hL)
theorem j_iand (X : jX p l s m args meth c M g tb) {x y : Int32} (hdg : decode M.2.1 pc = .ok (.iand, 1)) (k : J p l e R s m args below meth c Q nL g cells slots z sk t (pc + 1) lv (.int (x &&& y) :: st)) : J p l e R s m args below meth c Q nL g cells slots z sk t pc lv (.int y :: .int x :: st) := fun H locs ls hM hF hFl hZ hL => lv_iand X.1 X.2.1 hdg (k H locs ls hM hF hFl hZ hL)
theorem j_ior (X : jX p l s m args meth c M g tb) {x y : Int32} (hdg : decode M.2.1 pc = .ok (.ior, 1)) (k : J p l e R s m args below meth c Q nL g cells slots z sk t (pc + 1) lv (.int (x ||| y) :: st)) : J p l e R s m args below meth c Q nL g cells slots z sk t pc lv (.int y :: .int x :: st) := fun H locs ls hM hF hFl hZ hL => lv_ior X.1 X.2.1 hdg (k H locs ls hM hF hFl hZ hL)
theorem j_ixor (X : jX p l s m args meth c M g tb) {x y : Int32} (hdg : decode M.2.1 pc = .ok (.ixor, 1)) (k : J p l e R s m args below meth c Q nL g cells slots z sk t (pc + 1) lv (.int (x ^^^ y) :: st)) : J p l e R s m args below meth c Q nL g cells slots z sk t pc lv (.int y :: .int x :: st) := fun H locs ls hM hF hFl hZ hL => lv_ixor X.1 X.2.1 hdg (k H locs ls hM hF hFl hZ hL)
theorem j_ishl (X : jX p l s m args meth c M g tb) {x y : Int32} (hdg : decode M.2.1 pc = .ok (.ishl, 1)) (k : J p l e R s m args below meth c Q nL g cells slots z sk t (pc + 1) lv (.int (x <<< (y &&& 31)) :: st)) : J p l e R s m args below meth c Q nL g cells slots z sk t pc lv (.int y :: .int x :: st) := fun H locs ls hM hF hFl hZ hL => lv_ishl X.1 X.2.1 hdg (k H locs ls hM hF hFl hZ hL)
theorem j_ishr (X : jX p l s m args meth c M g tb) {x y : Int32} (hdg : decode M.2.1 pc = .ok (.ishr, 1)) (k : J p l e R s m args below meth c Q nL g cells slots z sk t (pc + 1) lv (.int (x >>> (y &&& 31)) :: st)) : J p l e R s m args below meth c Q nL g cells slots z sk t pc lv (.int y :: .int x :: st) := fun H locs ls hM hF hFl hZ hL => lv_ishr X.1 X.2.1 hdg (k H locs ls hM hF hFl hZ hL)
theorem j_idiv (X : jX p l s m args meth c M g tb) {x y : Int32} (hdg : decode M.2.1 pc = .ok (.idiv, 1)) (hne : ¬ y = 0) (k : J p l e R s m args below meth c Q nL g cells slots z sk t (pc + 1) lv (.int (x / y) :: st)) : J p l e R s m args below meth c Q nL g cells slots z sk t pc lv (.int y :: .int x :: st) := fun H locs ls hM hF hFl hZ hL => lv_idiv X.1 X.2.1 hdg hne (k H locs ls hM hF hFl hZ hL)
theorem j_irem (X : jX p l s m args meth c M g tb) {x y : Int32} (hdg : decode M.2.1 pc = .ok (.irem, 1)) (hne : ¬ y = 0) (k : J p l e R s m args below meth c Q nL g cells slots z sk t (pc + 1) lv (.int (x - x / y * y) :: st)) : J p l e R s m args below meth c Q nL g cells slots z sk t pc lv (.int y :: .int x :: st) := fun H locs ls hM hF hFl hZ hL => lv_irem X.1 X.2.1 hdg hne (k H locs ls hM hF hFl hZ hL)
theorem j_ineg (X : jX p l s m args meth c M g tb) {x : Int32} (hdg : decode M.2.1 pc = .ok (.ineg, 1)) (k : J p l e R s m args below meth c Q nL g cells slots z sk t (pc + 1) lv (.int (-x) :: st)) : J p l e R s m args below meth c Q nL g cells slots z sk t pc lv (.int x :: st) := fun H locs ls hM hF hFl hZ hL => lv_ineg X.1 X.2.1 hdg (k H locs ls hM hF hFl hZ hL)
theorem j_iushr (X : jX p l s m args meth c M g tb) {x y v : Int32} (hdg : decode M.2.1 pc = .ok (.iushr, 1)) (hv : (x.toUInt32 >>> (y.toUInt32 &&& Int32.toUInt32 31)).toInt32 = v) (k : J p l e R s m args below meth c Q nL g cells slots z sk t (pc + 1) lv (.int v :: st)) : J p l e R s m args below meth c Q nL g cells slots z sk t pc lv (.int y :: .int x :: st) := fun H locs ls hM hF hFl hZ hL => lv_iushr X.1 X.2.1 hdg hv (k H locs ls hM hF hFl hZ hL)
theorem j_i2c (X : jX p l s m args meth c M g tb) {x v : Int32} (hdg : decode M.2.1 pc = .ok (.i2c, 1)) (hv : (x.toUInt32 % 65536).toInt32 = v) (k : J p l e R s m args below meth c Q nL g cells slots z sk t (pc + 1) lv (.int v :: st)) : J p l e R s m args below meth c Q nL g cells slots z sk t pc lv (.int x :: st) := fun H locs ls hM hF hFl hZ hL => lv_i2c X.1 X.2.1 hdg hv (k H locs ls hM hF hFl hZ hL)
theorem j_i2l (X : jX p l s m args meth c M g tb) {x : Int32} {v : Int64} (hdg : decode M.2.1 pc = .ok (.i2l, 1)) (hv : x.toInt64 = v) (k : J p l e R s m args below meth c Q nL g cells slots z sk t (pc + 1) lv (.long v :: st)) : J p l e R s m args below meth c Q nL g cells slots z sk t pc lv (.int x :: st) := fun H locs ls hM hF hFl hZ hL => lv_i2l X.1 X.2.1 hdg hv (k H locs ls hM hF hFl hZ hL)
theorem j_i2d (X : jX p l s m args meth c M g tb) {x : Int32} (hdg : decode M.2.1 pc = .ok (.i2d, 1)) (k : J p l e R s m args below meth c Q nL g cells slots z sk t (pc + 1) lv (.double (FP.i2d x) :: st)) : J p l e R s m args below meth c Q nL g cells slots z sk t pc lv (.int x :: st) := fun H locs ls hM hF hFl hZ hL => lv_i2d X.1 X.2.1 hdg (k H locs ls hM hF hFl hZ hL)
theorem j_i2f (X : jX p l s m args meth c M g tb) {x : Int32} (hdg : decode M.2.1 pc = .ok (.i2f, 1)) (k : J p l e R s m args below meth c Q nL g cells slots z sk t (pc + 1) lv (.float (FP.i2f x) :: st)) : J p l e R s m args below meth c Q nL g cells slots z sk t pc lv (.int x :: st) := fun H locs ls hM hF hFl hZ hL => lv_i2f X.1 X.2.1 hdg (k H locs ls hM hF hFl hZ hL)
theorem j_f2d (X : jX p l s m args meth c M g tb) {x : UInt32} (hdg : decode M.2.1 pc = .ok (.f2d, 1)) (hne : vf_n64 (FP.f2d x)) (k : J p l e R s m args below meth c Q nL g cells slots z sk t (pc + 1) lv (.double (FP.f2d x) :: st)) : J p l e R s m args below meth c Q nL g cells slots z sk t pc lv (.float x :: st) := fun H locs ls hM hF hFl hZ hL => lv_f2d X.1 X.2.1 hdg hne (k H locs ls hM hF hFl hZ hL)
theorem j_fdiv (X : jX p l s m args meth c M g tb) {x y : UInt32} (hdg : decode M.2.1 pc = .ok (.fdiv, 1)) (hne : vf_n32 (FP.fdiv x y)) (k : J p l e R s m args below meth c Q nL g cells slots z sk t (pc + 1) lv (.float (FP.fdiv x y) :: st)) : J p l e R s m args below meth c Q nL g cells slots z sk t pc lv (.float y :: .float x :: st) := fun H locs ls hM hF hFl hZ hL => lv_fdiv X.1 X.2.1 hdg hne (k H locs ls hM hF hFl hZ hL)
theorem j_ddiv (X : jX p l s m args meth c M g tb) {x y : UInt64} (hdg : decode M.2.1 pc = .ok (.ddiv, 1)) (hne : vf_n64 (FP.ddiv x y)) (k : J p l e R s m args below meth c Q nL g cells slots z sk t (pc + 1) lv (.double (FP.ddiv x y) :: st)) : J p l e R s m args below meth c Q nL g cells slots z sk t pc lv (.double y :: .double x :: st) := fun H locs ls hM hF hFl hZ hL => lv_ddiv X.1 X.2.1 hdg hne (k H locs ls hM hF hFl hZ hL)
theorem j_dcmp (X : jX p l s m args meth c M g tb) {x y : UInt64} {op : CmpOp} (hdg : decode M.2.1 pc = .ok (.dcmp op, 1)) (k : J p l e R s m args below meth c Q nL g cells slots z sk t (pc + 1) lv (.int (Op.cmpValue (FP.dcmp x y) op) :: st)) : J p l e R s m args below meth c Q nL g cells slots z sk t pc lv (.double y :: .double x :: st) := fun H locs ls hM hF hFl hZ hL => lv_dcmp X.1 X.2.1 hdg (k H locs ls hM hF hFl hZ hL)
theorem j_dconst0 (X : jX p l s m args meth c M g tb) (hdg : decode M.2.1 pc = .ok (.dconst 0, 1)) (k : J p l e R s m args below meth c Q nL g cells slots z sk t (pc + 1) lv (.double FP.dconst0 :: st)) : J p l e R s m args below meth c Q nL g cells slots z sk t pc lv (st) := fun H locs ls hM hF hFl hZ hL => lv_dconst0 X.1 X.2.1 hdg (k H locs ls hM hF hFl hZ hL)
theorem j_fconst0 (X : jX p l s m args meth c M g tb) (hdg : decode M.2.1 pc = .ok (.fconst 0, 1)) (k : J p l e R s m args below meth c Q nL g cells slots z sk t (pc + 1) lv (.float FP.fconst0 :: st)) : J p l e R s m args below meth c Q nL g cells slots z sk t pc lv (st) := fun H locs ls hM hF hFl hZ hL => lv_fconst0 X.1 X.2.1 hdg (k H locs ls hM hF hFl hZ hL)
theorem j_dup (X : jX p l s m args meth c M g tb) {va : Value} (hdg : decode M.2.1 pc = .ok (.dup, 1)) (hva : va.category = 1) (k : J p l e R s m args below meth c Q nL g cells slots z sk t (pc + 1) lv (va :: va :: st)) : J p l e R s m args below meth c Q nL g cells slots z sk t pc lv (va :: st) := fun H locs ls hM hF hFl hZ hL => lv_dup X.1 X.2.1 hdg hva (k H locs ls hM hF hFl hZ hL)
theorem j_pop (X : jX p l s m args meth c M g tb) {va : Value} (hdg : decode M.2.1 pc = .ok (.pop, 1)) (hva : va.category = 1) (k : J p l e R s m args below meth c Q nL g cells slots z sk t (pc + 1) lv (st)) : J p l e R s m args below meth c Q nL g cells slots z sk t pc lv (va :: st) := fun H locs ls hM hF hFl hZ hL => lv_pop X.1 X.2.1 hdg hva (k H locs ls hM hF hFl hZ hL)
theorem j_dup2 (X : jX p l s m args meth c M g tb) {va vb : Value} (hdg : decode M.2.1 pc = .ok (.dup2, 1)) (hva : va.category = 1) (hvb : vb.category = 1) (k : J p l e R s m args below meth c Q nL g cells slots z sk t (pc + 1) lv (va :: vb :: va :: vb :: st)) : J p l e R s m args below meth c Q nL g cells slots z sk t pc lv (va :: vb :: st) := fun H locs ls hM hF hFl hZ hL => lv_dup2_11 X.1 X.2.1 hdg hva hvb (k H locs ls hM hF hFl hZ hL)
theorem j_lcmp (X : jX p l s m args meth c M g tb) {x y : Int64} (hdg : decode M.2.1 pc = .ok (.lcmp, 1)) (k : J p l e R s m args below meth c Q nL g cells slots z sk t (pc + 1) lv (.int (lg_cmp x y) :: st)) : J p l e R s m args below meth c Q nL g cells slots z sk t pc lv (.long y :: .long x :: st) := fun H locs ls hM hF hFl hZ hL => W.lcmp X.1 X.2.1 hdg (k H locs ls hM hF hFl hZ hL)
theorem j_goto (X : jX p l s m args meth c M g tb) {off : Int} {tgt : Nat} (hdg : decode M.2.1 pc = .ok (.goto off, 3)) (ht : (pc : Int) + off = (tgt : Int)) (k : J p l e R s m args below meth c Q nL g cells slots z sk t tgt lv (st)) : J p l e R s m args below meth c Q nL g cells slots z sk t pc lv (st) := fun H locs ls hM hF hFl hZ hL => lv_goto X.1 X.2.1 hdg ht (k H locs ls hM hF hFl hZ hL)
theorem j_ldc (X : jX p l s m args meth c M g tb) {idx : Nat} {v : Int32} (hdg : decode M.2.1 pc = .ok (.ldc idx, 2)) (hw : Cond.constant M.1.cls idx v ∈ lw_tbl) (k : J p l e R s m args below meth c Q nL g cells slots z sk t (pc + 2) lv (.int v :: st)) : J p l e R s m args below meth c Q nL g cells slots z sk t pc lv (st) := fun H locs ls hM hF hFl hZ hL => lv_ldc X.1 X.2.1 X.own (X.word hw rfl) hdg (k H locs ls hM hF hFl hZ hL)
theorem j_ldc_w (X : jX p l s m args meth c M g tb) {idx : Nat} {v : Int32} (hdg : decode M.2.1 pc = .ok (.ldc_w idx, 3)) (hw : Cond.constant M.1.cls idx v ∈ lw_tbl) (k : J p l e R s m args below meth c Q nL g cells slots z sk t (pc + 3) lv (.int v :: st)) : J p l e R s m args below meth c Q nL g cells slots z sk t pc lv (st) := fun H locs ls hM hF hFl hZ hL => lv_ldcw X.1 X.2.1 X.own (X.word hw rfl) hdg (k H locs ls hM hF hFl hZ hL)
theorem j_if_eq (X : jX p l s m args meth c M g tb) {x : Int32} {off : Int} {tgt : Nat} (hdg : decode M.2.1 pc = .ok (.ifCond .eq off, 3)) (ht : (pc : Int) + off = (tgt : Int)) (kt : x = 0 → J p l e R s m args below meth c Q nL g cells slots z sk t tgt lv st) (kf : ¬ x = 0 → J p l e R s m args below meth c Q nL g cells slots z sk t (pc + 3) lv st) : J p l e R s m args below meth c Q nL g cells slots z sk t pc lv (.int x :: st) := fun H locs ls hM hF hFl hZ hL => lv_if_eq X.1 X.2.1 hdg ht (fun h => kt h H locs ls hM hF hFl hZ hL) (fun h => kf h H locs ls hM hF hFl hZ hL)
theorem j_icmp_eq (X : jX p l s m args meth c M g tb) {x y : Int32} {off : Int} {tgt : Nat} (hdg : decode M.2.1 pc = .ok (.if_icmp .eq off, 3)) (ht : (pc : Int) + off = (tgt : Int)) (kt : x = y → J p l e R s m args below meth c Q nL g cells slots z sk t tgt lv st) (kf : ¬ x = y → J p l e R s m args below meth c Q nL g cells slots z sk t (pc + 3) lv st) : J p l e R s m args below meth c Q nL g cells slots z sk t pc lv (.int y :: .int x :: st) := fun H locs ls hM hF hFl hZ hL => lv_icmp_eq X.1 X.2.1 hdg ht (fun h => kt h H locs ls hM hF hFl hZ hL) (fun h => kf h H locs ls hM hF hFl hZ hL)
theorem j_if_ne (X : jX p l s m args meth c M g tb) {x : Int32} {off : Int} {tgt : Nat} (hdg : decode M.2.1 pc = .ok (.ifCond .ne off, 3)) (ht : (pc : Int) + off = (tgt : Int)) (kt : ¬ x = 0 → J p l e R s m args below meth c Q nL g cells slots z sk t tgt lv st) (kf : x = 0 → J p l e R s m args below meth c Q nL g cells slots z sk t (pc + 3) lv st) : J p l e R s m args below meth c Q nL g cells slots z sk t pc lv (.int x :: st) := fun H locs ls hM hF hFl hZ hL => lv_if_ne X.1 X.2.1 hdg ht (fun h => kt h H locs ls hM hF hFl hZ hL) (fun h => kf h H locs ls hM hF hFl hZ hL)
theorem j_icmp_ne (X : jX p l s m args meth c M g tb) {x y : Int32} {off : Int} {tgt : Nat} (hdg : decode M.2.1 pc = .ok (.if_icmp .ne off, 3)) (ht : (pc : Int) + off = (tgt : Int)) (kt : ¬ x = y → J p l e R s m args below meth c Q nL g cells slots z sk t tgt lv st) (kf : x = y → J p l e R s m args below meth c Q nL g cells slots z sk t (pc + 3) lv st) : J p l e R s m args below meth c Q nL g cells slots z sk t pc lv (.int y :: .int x :: st) := fun H locs ls hM hF hFl hZ hL => lv_icmp_ne X.1 X.2.1 hdg ht (fun h => kt h H locs ls hM hF hFl hZ hL) (fun h => kf h H locs ls hM hF hFl hZ hL)
theorem j_if_lt (X : jX p l s m args meth c M g tb) {x : Int32} {off : Int} {tgt : Nat} (hdg : decode M.2.1 pc = .ok (.ifCond .lt off, 3)) (ht : (pc : Int) + off = (tgt : Int)) (kt : x < 0 → J p l e R s m args below meth c Q nL g cells slots z sk t tgt lv st) (kf : ¬ x < 0 → J p l e R s m args below meth c Q nL g cells slots z sk t (pc + 3) lv st) : J p l e R s m args below meth c Q nL g cells slots z sk t pc lv (.int x :: st) := fun H locs ls hM hF hFl hZ hL => lv_if_lt X.1 X.2.1 hdg ht (fun h => kt h H locs ls hM hF hFl hZ hL) (fun h => kf h H locs ls hM hF hFl hZ hL)
theorem j_icmp_lt (X : jX p l s m args meth c M g tb) {x y : Int32} {off : Int} {tgt : Nat} (hdg : decode M.2.1 pc = .ok (.if_icmp .lt off, 3)) (ht : (pc : Int) + off = (tgt : Int)) (kt : x < y → J p l e R s m args below meth c Q nL g cells slots z sk t tgt lv st) (kf : ¬ x < y → J p l e R s m args below meth c Q nL g cells slots z sk t (pc + 3) lv st) : J p l e R s m args below meth c Q nL g cells slots z sk t pc lv (.int y :: .int x :: st) := fun H locs ls hM hF hFl hZ hL => lv_icmp_lt X.1 X.2.1 hdg ht (fun h => kt h H locs ls hM hF hFl hZ hL) (fun h => kf h H locs ls hM hF hFl hZ hL)
theorem j_if_ge (X : jX p l s m args meth c M g tb) {x : Int32} {off : Int} {tgt : Nat} (hdg : decode M.2.1 pc = .ok (.ifCond .ge off, 3)) (ht : (pc : Int) + off = (tgt : Int)) (kt : 0 ≤ x → J p l e R s m args below meth c Q nL g cells slots z sk t tgt lv st) (kf : ¬ 0 ≤ x → J p l e R s m args below meth c Q nL g cells slots z sk t (pc + 3) lv st) : J p l e R s m args below meth c Q nL g cells slots z sk t pc lv (.int x :: st) := fun H locs ls hM hF hFl hZ hL => lv_if_ge X.1 X.2.1 hdg ht (fun h => kt h H locs ls hM hF hFl hZ hL) (fun h => kf h H locs ls hM hF hFl hZ hL)
theorem j_icmp_ge (X : jX p l s m args meth c M g tb) {x y : Int32} {off : Int} {tgt : Nat} (hdg : decode M.2.1 pc = .ok (.if_icmp .ge off, 3)) (ht : (pc : Int) + off = (tgt : Int)) (kt : y ≤ x → J p l e R s m args below meth c Q nL g cells slots z sk t tgt lv st) (kf : ¬ y ≤ x → J p l e R s m args below meth c Q nL g cells slots z sk t (pc + 3) lv st) : J p l e R s m args below meth c Q nL g cells slots z sk t pc lv (.int y :: .int x :: st) := fun H locs ls hM hF hFl hZ hL => lv_icmp_ge X.1 X.2.1 hdg ht (fun h => kt h H locs ls hM hF hFl hZ hL) (fun h => kf h H locs ls hM hF hFl hZ hL)
theorem j_if_gt (X : jX p l s m args meth c M g tb) {x : Int32} {off : Int} {tgt : Nat} (hdg : decode M.2.1 pc = .ok (.ifCond .gt off, 3)) (ht : (pc : Int) + off = (tgt : Int)) (kt : 0 < x → J p l e R s m args below meth c Q nL g cells slots z sk t tgt lv st) (kf : ¬ 0 < x → J p l e R s m args below meth c Q nL g cells slots z sk t (pc + 3) lv st) : J p l e R s m args below meth c Q nL g cells slots z sk t pc lv (.int x :: st) := fun H locs ls hM hF hFl hZ hL => lv_if_gt X.1 X.2.1 hdg ht (fun h => kt h H locs ls hM hF hFl hZ hL) (fun h => kf h H locs ls hM hF hFl hZ hL)
theorem j_icmp_gt (X : jX p l s m args meth c M g tb) {x y : Int32} {off : Int} {tgt : Nat} (hdg : decode M.2.1 pc = .ok (.if_icmp .gt off, 3)) (ht : (pc : Int) + off = (tgt : Int)) (kt : y < x → J p l e R s m args below meth c Q nL g cells slots z sk t tgt lv st) (kf : ¬ y < x → J p l e R s m args below meth c Q nL g cells slots z sk t (pc + 3) lv st) : J p l e R s m args below meth c Q nL g cells slots z sk t pc lv (.int y :: .int x :: st) := fun H locs ls hM hF hFl hZ hL => lv_icmp_gt X.1 X.2.1 hdg ht (fun h => kt h H locs ls hM hF hFl hZ hL) (fun h => kf h H locs ls hM hF hFl hZ hL)
theorem j_if_le (X : jX p l s m args meth c M g tb) {x : Int32} {off : Int} {tgt : Nat} (hdg : decode M.2.1 pc = .ok (.ifCond .le off, 3)) (ht : (pc : Int) + off = (tgt : Int)) (kt : x ≤ 0 → J p l e R s m args below meth c Q nL g cells slots z sk t tgt lv st) (kf : ¬ x ≤ 0 → J p l e R s m args below meth c Q nL g cells slots z sk t (pc + 3) lv st) : J p l e R s m args below meth c Q nL g cells slots z sk t pc lv (.int x :: st) := fun H locs ls hM hF hFl hZ hL => lv_if_le X.1 X.2.1 hdg ht (fun h => kt h H locs ls hM hF hFl hZ hL) (fun h => kf h H locs ls hM hF hFl hZ hL)
theorem j_icmp_le (X : jX p l s m args meth c M g tb) {x y : Int32} {off : Int} {tgt : Nat} (hdg : decode M.2.1 pc = .ok (.if_icmp .le off, 3)) (ht : (pc : Int) + off = (tgt : Int)) (kt : x ≤ y → J p l e R s m args below meth c Q nL g cells slots z sk t tgt lv st) (kf : ¬ x ≤ y → J p l e R s m args below meth c Q nL g cells slots z sk t (pc + 3) lv st) : J p l e R s m args below meth c Q nL g cells slots z sk t pc lv (.int y :: .int x :: st) := fun H locs ls hM hF hFl hZ hL => lv_icmp_le X.1 X.2.1 hdg ht (fun h => kt h H locs ls hM hF hFl hZ hL) (fun h => kf h H locs ls hM hF hFl hZ hL)
theorem j_tableOut (X : jX p l s m args meth c M g tb) {dflt lo hi : Int} {offs : Array Int} {len : Nat} {x : Int32} {tgt : Nat} (hdg : decode M.2.1 pc = .ok (.tableswitch dflt lo hi offs, len)) (h : x.toInt < lo ∨ hi < x.toInt) (ht : (pc : Int) + dflt = (tgt : Int)) (k : J p l e R s m args below meth c Q nL g cells slots z sk t tgt lv st) : J p l e R s m args below meth c Q nL g cells slots z sk t pc lv (.int x :: st) := fun H locs ls hM hF hFl hZ hL => lv_tableOut X.1 X.2.1 hdg h ht (k H locs ls hM hF hFl hZ hL)
theorem j_tableIn (X : jX p l s m args meth c M g tb) {dflt lo hi : Int} {offs : Array Int} {len : Nat} {x : Int32} {off : Int} {tgt : Nat} (hdg : decode M.2.1 pc = .ok (.tableswitch dflt lo hi offs, len)) (h1 : ¬ x.toInt < lo) (h2 : ¬ hi < x.toInt) (ho : offs[(x.toInt - lo).toNat]? = some off) (ht : (pc : Int) + off = (tgt : Int)) (k : J p l e R s m args below meth c Q nL g cells slots z sk t tgt lv st) : J p l e R s m args below meth c Q nL g cells slots z sk t pc lv (.int x :: st) := fun H locs ls hM hF hFl hZ hL => lv_tableIn X.1 X.2.1 hdg h1 h2 ho ht (k H locs ls hM hF hFl hZ hL)
theorem j_istore_n (X : jX p l s m args meth c M g tb) {q : Fin 4} {i : Nat} {x : Int32} (hdg : decode M.2.1 pc = .ok (.istore_n q, 1)) (hi : (q : Nat) = i) (hn : i < nL) (hc : jc1 lv i = true) (k : J p l e R s m args below meth c Q nL g cells slots z sk t (pc + 1) (lv.set i (some (.int x))) st) : J p l e R s m args below meth c Q nL g cells slots z sk t pc lv (.int x :: st) := fun H locs ls hM hF hFl hZ hL => lv_istore_n X.1 X.2.1 hdg hi hL hn rfl (fun ls2 h2 => k H locs ls2 hM hF hFl hZ (jL.set hc h2))
theorem j_istore (X : jX p l s m args meth c M g tb) {i : Nat} {x : Int32} (hdg : decode M.2.1 pc = .ok (.istore i, 2)) (hn : i < nL) (hc : jc1 lv i = true) (k : J p l e R s m args below meth c Q nL g cells slots z sk t (pc + 2) (lv.set i (some (.int x))) st) : J p l e R s m args below meth c Q nL g cells slots z sk t pc lv (.int x :: st) := fun H locs ls hM hF hFl hZ hL => lv_istore X.1 X.2.1 hdg hL hn rfl (fun ls2 h2 => k H locs ls2 hM hF hFl hZ (jL.set hc h2))
theorem j_astore_n (X : jX p l s m args meth c M g tb) {q : Fin 4} {i x : Nat} (hdg : decode M.2.1 pc = .ok (.astore_n q, 1)) (hi : (q : Nat) = i) (hn : i < nL) (hc : jc1 lv i = true) (k : J p l e R s m args below meth c Q nL g cells slots z sk t (pc + 1) (lv.set i (some (.ref x))) st) : J p l e R s m args below meth c Q nL g cells slots z sk t pc lv (.ref x :: st) := fun H locs ls hM hF hFl hZ hL => lv_astore_n X.1 X.2.1 hdg hi hL hn rfl (fun ls2 h2 => k H locs ls2 hM hF hFl hZ (jL.set hc h2))
theorem j_astore (X : jX p l s m args meth c M g tb) {i x : Nat} (hdg : decode M.2.1 pc = .ok (.astore i, 2)) (hn : i < nL) (hc : jc1 lv i = true) (k : J p l e R s m args below meth c Q nL g cells slots z sk t (pc + 2) (lv.set i (some (.ref x))) st) : J p l e R s m args below meth c Q nL g cells slots z sk t pc lv (.ref x :: st) := fun H locs ls hM hF hFl hZ hL => lv_astore X.1 X.2.1 hdg hL hn rfl (fun ls2 h2 => k H locs ls2 hM hF hFl hZ (jL.set hc h2))
theorem j_fstore (X : jX p l s m args meth c M g tb) {i : Nat} {x : UInt32} (hdg : decode M.2.1 pc = .ok (.fstore i, 2)) (hn : i < nL) (hc : jc1 lv i = true) (k : J p l e R s m args below meth c Q nL g cells slots z sk t (pc + 2) (lv.set i (some (.float x))) st) : J p l e R s m args below meth c Q nL g cells slots z sk t pc lv (.float x :: st) := fun H locs ls hM hF hFl hZ hL => lv_fstore X.1 X.2.1 hdg hL hn rfl (fun ls2 h2 => k H locs ls2 hM hF hFl hZ (jL.set hc h2))
theorem j_iinc (X : jX p l s m args meth c M g tb) {i : Nat} {n : Int} {x v : Int32} (hdg : decode M.2.1 pc = .ok (.iinc i n, 3)) (hl : lv[i]? = some (some (.int x))) (hv : x + Int32.ofInt n = v) (hn : i < nL) (hc : jc1 lv i = true) (k : J p l e R s m args below meth c Q nL g cells slots z sk t (pc + 3) (lv.set i (some (.int v))) st) : J p l e R s m args below meth c Q nL g cells slots z sk t pc lv st := fun H locs ls hM hF hFl hZ hL => by
  obtain ⟨kk, hk⟩ := List.getElem?_of_mem ((jLs_mem lv 0 i (.int x)).mpr ⟨i, by omega, hl⟩)
  exact lv_iinc X.1 X.2.1 hdg hL hk hv hn rfl (fun ls2 h2 => k H locs ls2 hM hF hFl hZ (jL.set hc h2))
theorem jFd.get (X : jX p l s m args meth c M g tb) {idx ci k : Nat} {ty : FieldType} {fin : Bool} (hf : jFd M.1.cls idx ci k ty fin) {i : Nat} {fs : List (Int32 → Value)} (hs : sk i = some (kO ci fs)) {φ : Int32 → Value} (hφ : fs[k]? = some φ) (hdg : decode M.2.1 pc = .ok (.getfield idx, 3)) (kk : J p l e R s m args below meth c Q nL g cells slots z sk t (pc + 3) lv (φ (t i k) :: st)) : J p l e R s m args below meth c Q nL g cells slots z sk t pc lv (.ref (jb g + i) :: st) := fun H locs ls hM hF hFl hZ hL => by
  obtain ⟨C, T, N, ty0, hc, hk, hin, hgd, hty, hnm, -, -, hC, hlk⟩ := hf
  have hts : ∀ w ∈ u_ws C T N, w.before args s = true := fun w hw => X.word (hin w hw) (hgd w hw)
  rcases hlk with hlk | ⟨hh, hlk⟩
  · refine va_get (own := M.1.cls) (ref := C) X.1 X.2.1 hts (fun w h => h) X.own (X.ok.K X.wm) (hM.one hs) 0 rfl hc k hk (X.word hlk rfl) (fun x h => by rw [hC] at h; exact h) (jMap_get hφ) hdg (kk H locs ls hM hF hFl hZ hL)
  · refine va_getN (own := M.1.cls) (ref := C) (host := hh) X.1 X.2.1 hts (fun w h => h) X.own (X.ok.K X.wm) (hM.one hs) 0 rfl hc k hk (X.ok.nestF X.wm hlk) (fun x h => by rw [hC] at h; exact h) (jMap_get hφ) hdg (kk H locs ls hM hF hFl hZ hL)
theorem jFd.put (X : jX p l s m args meth c M g tb) {idx ci k : Nat} {ty : FieldType} (hf : jFd M.1.cls idx ci k ty false) {i : Nat} {fs : List (Int32 → Value)} (hs : sk i = some (kO ci fs)) {φ : Int32 → Value} (hφ : fs[k]? = some φ) {v : Value} {x : Int32} (hv : φ x = v) (hn : narrow ty v = v) (hft : fits ty v = true) (hdg : decode M.2.1 pc = .ok (.putfield idx, 3)) (kk : J p l e R s m args below meth c Q nL g cells slots z sk (jU t i k x) (pc + 3) lv st) : J p l e R s m args below meth c Q nL g cells slots z sk t pc lv (v :: .ref (jb g + i) :: st) := fun H locs ls hM hF hFl hZ hL => by
  obtain ⟨C, T, N, ty0, hc, hk, hin, hgd, hty, hnm, hty1, hfin, hC, hlk⟩ := hf
  have hts : ∀ w ∈ u_ws C T N, w.before args s = true := fun w hw => X.word (hin w hw) (hgd w hw)
  have hap := va_apart (own := M.1.cls) hts (fun w h => h) ty0 hty hnm (X.ok.K X.wm) hc
  have hi0 : va_at (jD g) vwCl (jb g + i, jC g (kO ci fs) (t i)) H := hM i _ hs
  obtain ⟨r, h1, cell, q1, q2, q3, q4⟩ := hi0
  have hr : r = (C, T, N) := Option.some.inj (h1.symm.trans hc)
  subst hr
  obtain ⟨hSl, hfc, kC, hkC, hkind⟩ := (X.ok.K X.wm).1 ci _ hc
  obtain ⟨cf, kf, fi, f, hi, hsl⟩ := hSl k hk
  have hlay := hts _ (u_in_lay hk)
  unfold u_lay at hlay
  rw [if_neg (by rw [hfin]; decide)] at hlay
  have hst := (u_facts hfc hkC (u_lays hts (fun w h => h) hk) hi).1
  have hd : parseFieldDescriptor (T k).2.2.1 = some ty := by rw [hty k hk, hty1]
  have h6 := u_store hfc hkC hkind hlay hi hd hn hft
  have hlen : k < fs.length := (List.getElem?_eq_some_iff.mp hφ).1
  have hnew : ∀ H1 : Heap, H1[jb g + i]? = some (cell.setSlot ((jD g).2 ci k) v) → ∀ k2, sk i = some k2 → va_at (jD g) vwCl (jb g + i, jC g k2 (jU t i k x i)) H1 := fun H1 e1 k2 hk2 => by
    rw [hs] at hk2
    cases hk2
    rw [jU_eq]
    show va_at (jD g) vwCl (jb g + i, .inr (ci, fs.mapIdx (fun j φ => φ (upd (t i) k x j)))) H1
    refine ⟨_, hc, t_OB.to (V := updV (vp_V (fs.mapIdx (fun j φ => φ (t i j)))) k v) ⟨_, e1, q2, q3, t_set q4 hap hk v⟩ (fun j _ => ?_)⟩
    rw [vp_updV_set (by rw [List.length_mapIdx]; exact hlen), ← hv, jMap_set hφ]
  have hC' : s.fieldFound? C (T k).2.1 (T k).2.2.1 = some (cf, kf, fi, f) := by rw [hC] at hi; exact hi
  rcases hlk with hlk | ⟨hh, hlk⟩
  · refine W.putK X.1 X.2.1 (own := M.1.cls) (ref := C) (f := f) ⟨X.own, X.word hlk rfl, ⟨_, _, _, hC'⟩, hst⟩ (by rw [q2]; exact h6) q1 q3 (by rw [hsl]; exact k2_hasslot (q4 k hk)) rfl rfl hdg fun H' e1 e2 e3 => ?_
    rw [hsl] at e1 ⊢
    exact kk H' _ ls (hM.put i (fun a _ => rfl) (fun a ha => jU_ne _ _ _ ha) (hnew H' e1) (fun q h _ => e3 q h)) (hF.put (Nat.le_of_eq e2.symm) (fun q h _ => e3 q h)) (hFl.put _ _) (hZ.put e2) hL
  · refine va_WputK X.1 X.2.1 (own := M.1.cls) (ref := C) (host := hh) (f := f) X.own (X.ok.nestF X.wm hlk) hC' hst (by rw [q2]; exact h6) q1 q3 (by rw [hsl]; exact k2_hasslot (q4 k hk)) rfl rfl hdg fun H' e1 e2 e3 => ?_
    rw [hsl] at e1 ⊢
    exact kk H' _ ls (hM.put i (fun a _ => rfl) (fun a ha => jU_ne _ _ _ ha) (hnew H' e1) (fun q h _ => e3 q h)) (hF.put (Nat.le_of_eq e2.symm) (fun q h _ => e3 q h)) (hFl.put _ _) (hZ.put e2) hL
theorem j_iald (X : jX p l s m args meth c M g tb) {i n q : Nat} {x : Int32} (hs : sk i = some (kA .int n)) (hx : x = nI q) (hq : q < n) (hn : n < 2 ^ 31) (hdg : decode M.2.1 pc = .ok (.iaload, 1)) (kk : J p l e R s m args below meth c Q nL g cells slots z sk t (pc + 1) lv (.int (t i q) :: st)) : J p l e R s m args below meth c Q nL g cells slots z sk t pc lv (.int x :: .ref (jb g + i) :: st) := fun H locs ls hM hF hFl hZ hL => by
  have h0 : x.toNatClampNeg = q := by rw [hx]; exact nI_clamp (by omega)
  have kk' := kk H locs ls hM hF hFl hZ hL
  rw [← h0] at kk'
  exact va_iald X.1 X.2.1 (X.ok.A X.wm (by decide)) (hM.one hs) 0 0 rfl rfl (by rw [hx]; exact vp_in_nI hq hn) hdg kk'
theorem j_cald (X : jX p l s m args meth c M g tb) {i n q : Nat} {x : Int32} (hs : sk i = some (kA .char n)) (hx : x = nI q) (hq : q < n) (hn : n < 2 ^ 31) (hdg : decode M.2.1 pc = .ok (.caload, 1)) (kk : J p l e R s m args below meth c Q nL g cells slots z sk t (pc + 1) lv (.int (t i q) :: st)) : J p l e R s m args below meth c Q nL g cells slots z sk t pc lv (.int x :: .ref (jb g + i) :: st) := fun H locs ls hM hF hFl hZ hL => by
  have h0 : x.toNatClampNeg = q := by rw [hx]; exact nI_clamp (by omega)
  have kk' := kk H locs ls hM hF hFl hZ hL
  rw [← h0] at kk'
  exact va_cald X.1 X.2.1 (X.ok.A X.wm (by decide)) (hM.one hs) 0 0 rfl rfl (by rw [hx]; exact vp_in_nI hq hn) hdg kk'
theorem j_iast (X : jX p l s m args meth c M g tb) {i n q : Nat} {x v : Int32} (hs : sk i = some (kA .int n)) (hx : x = nI q) (hq : q < n) (hn : n < 2 ^ 31) (hdg : decode M.2.1 pc = .ok (.iastore, 1)) (kk : J p l e R s m args below meth c Q nL g cells slots z sk (jU t i q v) (pc + 1) lv st) : J p l e R s m args below meth c Q nL g cells slots z sk t pc lv (.int v :: .int x :: .ref (jb g + i) :: st) := fun H locs ls hM hF hFl hZ hL => by
  have h0 : x.toNatClampNeg = q := by rw [hx]; exact nI_clamp (by omega)
  have hin : vp_in x n := by rw [hx]; exact vp_in_nI hq hn
  have hK := X.ok.A X.wm (ty := .int) (by decide)
  have hP := hM i _ hs
  refine W.iast X.1 X.2.1 hP ((hK.2 0 _ rfl).1 n (fun j => .int (t i j))) (fun q => by cases q) (by show ¬ (x < 0 ∨ (arrV _ _ _).slots.size ≤ _); rw [arrV_size]; exact hin) rfl rfl hdg fun H1 e1 z1 oq => ?_
  refine kk H1 _ ls (hM.put i (fun a _ => rfl) (fun a ha => jU_ne _ _ _ ha) (fun k2 hk2 => ?_) (fun q h _ => oq q h)) (hF.put (Nat.le_of_eq z1.symm) (fun q h _ => oq q h)) (hFl.put _ _) (hZ.put z1) hL
  rw [hs] at hk2
  cases hk2
  show H1[jb g + i]? = some (vp_cell _ (n, .inl (jU t i q v i)))
  rw [e1, h0, jU_eq]
  show some ((vp_cell _ (n, .inl (t i))).setSlot q _) = _
  rw [vp_cell_i, vp_cell_i, arrV_store]
  congr 2
  funext r
  by_cases hr : r = q
  · subst hr
    simp [updV, upd]
  · simp [updV, upd, hr]
theorem j_castore (X : jX p l s m args meth c M g tb) {i n q : Nat} {x v : Int32} (hs : sk i = some (kA .char n)) (hx : x = nI q) (hq : q < n) (hn : n < 2 ^ 31) (hnr : narrow .char (.int v) = .int v) (hdg : decode M.2.1 pc = .ok (.castore, 1)) (kk : J p l e R s m args below meth c Q nL g cells slots z sk (jU t i q v) (pc + 1) lv st) : J p l e R s m args below meth c Q nL g cells slots z sk t pc lv (.int v :: .int x :: .ref (jb g + i) :: st) := fun H locs ls hM hF hFl hZ hL => by
  have h0 : x.toNatClampNeg = q := by rw [hx]; exact nI_clamp (by omega)
  have hin : vp_in x n := by rw [hx]; exact vp_in_nI hq hn
  have hK := X.ok.A X.wm (ty := .char) (by decide)
  have hP := hM i _ hs
  refine W.cast X.1 X.2.1 hP ((hK.2 0 _ rfl).1 n (fun j => .int (t i j))) (fun q => by cases q) (by show ¬ (x < 0 ∨ (arrV _ _ _).slots.size ≤ _); rw [arrV_size]; exact hin) rfl rfl hdg fun H1 e1 z1 oq => ?_
  refine kk H1 _ ls (hM.put i (fun a _ => rfl) (fun a ha => jU_ne _ _ _ ha) (fun k2 hk2 => ?_) (fun q h _ => oq q h)) (hF.put (Nat.le_of_eq z1.symm) (fun q h _ => oq q h)) (hFl.put _ _) (hZ.put z1) hL
  rw [hs] at hk2
  cases hk2
  show H1[jb g + i]? = some (vp_cell _ (n, .inl (jU t i q v i)))
  rw [e1, h0, jU_eq]
  show some ((vp_cell _ (n, .inl (t i))).setSlot q _) = _
  rw [vp_cell_i, vp_cell_i, arrV_store]
  congr 2
  funext r
  by_cases hr : r = q
  · subst hr
    simp [updV, upd, hnr]
  · simp [updV, upd, hr]
theorem j_aald (X : jX p l s m args meth c M g tb) {i n q a : Nat} {C : String} {f : Nat → Option Nat} {x : Int32} (hs : sk i = some (kR C n f)) (hC : FieldType.object C ∈ jtys) (hx : x = nI q) (hq : q < n) (hn : n < 2 ^ 31) (ha : f q = some a) (hdg : decode M.2.1 pc = .ok (.aaload, 1)) (kk : J p l e R s m args below meth c Q nL g cells slots z sk t (pc + 1) lv (.ref a :: st)) : J p l e R s m args below meth c Q nL g cells slots z sk t pc lv (.int x :: .ref (jb g + i) :: st) := fun H locs ls hM hF hFl hZ hL => by
  have h0 : x.toNatClampNeg = q := by rw [hx]; exact nI_clamp (by omega)
  refine va_aldq X.1 X.2.1 (X.ok.A X.wm hC) (hM.one hs) 0 0 rfl rfl (by rw [hx]; exact vp_in_nI hq hn) hdg ?_
  rw [h0, ha]
  exact kk H locs ls hM hF hFl hZ hL
def jPc (g : jG) (av : List Value) (z : Option Nat) (sk : jS) (t : jT) : Array Value → State → Prop := va_Pc av (fun U => (j0 g).WarmedH U.vm ∧ jM g sk t U.heap ∧ jF0 g U.heap ∧ jZ g z U.heap)
def jQ (g : jG) (P : Option Value → Option Nat → jS → jT → Prop) : Array Value → State → Outcome → State → Prop := fun _ _ o u => ∃ (v : Option Value) (z : Option Nat) (sk : jS) (t : jT), o = .returned v ∧ P v z sk t ∧ jM g sk t u.heap ∧ jF0 g u.heap ∧ jZ g z u.heap
def jXC (g : jG) (PX : String → Option Nat → jS → jT → Prop) : String → State → State → Prop := fun E _ u => ∃ (z : Option Nat) (sk : jS) (t : jT), PX E z sk t ∧ jM g sk t u.heap ∧ jF0 g u.heap ∧ jZ g z u.heap
def jR (d mc ms : Nat) : Room := { frames := d, cells := mc, slots := ms, locals := 64 * d }
def jWs (M : jI) : List Cond := [.code M.1 M.2.1 M.2.2.1 M.2.2.2]
def jMet (l : Launch) (g : jG) (M : jI) (d mc ms : Nat) (av : List Value) (z : Option Nat) (sk : jS) (t : jT) (P : Option Value → Option Nat → jS → jT → Prop) : Prop := Met l M.1 (jWs M) (jR d mc ms) (jPc g av z sk t) (jQ g P) mc ms (fun q => jb g ≤ q)
def jMetX (l : Launch) (g : jG) (M : jI) (d mc ms : Nat) (av : List Value) (z : Option Nat) (sk : jS) (t : jT) (P : Option Value → Option Nat → jS → jT → Prop) (PX : String → Option Nat → jS → jT → Prop) : Prop := vx_Met l M.1 (jWs M) (jR d mc ms) (jPc g av z sk t) (jQ g P) (jXC g PX) mc ms (fun q => jb g ≤ q)
/-- a certain end -/
def jE (r : Option Value) (z : Option Nat) (sk : jS) (t : jT) : Option Value → Option Nat → jS → jT → Prop := fun v z2 sk2 t2 => v = r ∧ z2 = z ∧ sk2 = sk ∧ t2 = t
/-- an end with a known memory -/
abbrev jQm (below : List Frame) (args : Array Value) (s : State) (g : jG) (mc ms : Nat) (P : Option Value → Option Nat → jS → jT → Prop) : State → Prop := MQ below (jQ g P) args s mc ms (fun q => jb g ≤ q)
abbrev jQx (below : List Frame) (args : Array Value) (s : State) (g : jG) (mc ms : Nat) (P : Option Value → Option Nat → jS → jT → Prop) (PX : String → Option Nat → jS → jT → Prop) : State → Prop := vx_MQ below (jQ g P) (jXC g PX) args s mc ms (fun q => jb g ≤ q)
theorem j_iret (X : jX p l s m args meth c M g tb) {v : Int32} {ty : FieldType} {mc ms : Nat} {P : Option Value → Option Nat → jS → jT → Prop} (hdg : decode M.2.1 pc = .ok (.ireturn, 1)) (hr : M.2.2.2 = some ty) (hn : narrow ty (.int v) = .int v) (hP : P (some (.int v)) z sk t) (hc : cells ≤ mc := by decide) (hs : slots ≤ ms := by decide) : J p l e R s m args below meth c (jQm below args s g mc ms P) nL g cells slots z sk t pc lv [.int v] := fun H locs ls hM hF hFl hZ hL => W.widen hc hs (W.zret X.1 X.2.1 (X.ret.trans hr) hn (fun u hu hW => ⟨_, z, sk, t, rfl, hP, by rw [hu]; exact hM, by rw [hu]; exact hF, by rw [hu]; exact hZ⟩) hFl hdg X.lk)
theorem j_iret_x (X : jX p l s m args meth c M g tb) {v : Int32} {ty : FieldType} {mc ms : Nat} {P : Option Value → Option Nat → jS → jT → Prop} {PX : String → Option Nat → jS → jT → Prop} (hdg : decode M.2.1 pc = .ok (.ireturn, 1)) (hr : M.2.2.2 = some ty) (hn : narrow ty (.int v) = .int v) (hP : P (some (.int v)) z sk t) (hc : cells ≤ mc := by decide) (hs : slots ≤ ms := by decide) : J p l e R s m args below meth c (jQx below args s g mc ms P PX) nL g cells slots z sk t pc lv [.int v] := fun H locs ls hM hF hFl hZ hL => W.widen hc hs (vx_ret (W.zret X.1 X.2.1 (X.ret.trans hr) hn (fun u hu hW => ⟨_, z, sk, t, rfl, hP, by rw [hu]; exact hM, by rw [hu]; exact hF, by rw [hu]; exact hZ⟩) hFl hdg X.lk))
theorem j_vret (X : jX p l s m args meth c M g tb)  {mc ms : Nat} {P : Option Value → Option Nat → jS → jT → Prop} (hdg : decode M.2.1 pc = .ok (.return_, 1)) (hr : M.2.2.2 = none) (hP : P (none) z sk t) (hc : cells ≤ mc := by decide) (hs : slots ≤ ms := by decide) : J p l e R s m args below meth c (jQm below args s g mc ms P) nL g cells slots z sk t pc lv [] := fun H locs ls hM hF hFl hZ hL => W.widen hc hs (W.vret X.1 X.2.1 (X.ret.trans hr) (fun u hu hW => ⟨_, z, sk, t, rfl, hP, by rw [hu]; exact hM, by rw [hu]; exact hF, by rw [hu]; exact hZ⟩) hFl hdg X.lk)
theorem j_vret_x (X : jX p l s m args meth c M g tb)  {mc ms : Nat} {P : Option Value → Option Nat → jS → jT → Prop} {PX : String → Option Nat → jS → jT → Prop} (hdg : decode M.2.1 pc = .ok (.return_, 1)) (hr : M.2.2.2 = none) (hP : P (none) z sk t) (hc : cells ≤ mc := by decide) (hs : slots ≤ ms := by decide) : J p l e R s m args below meth c (jQx below args s g mc ms P PX) nL g cells slots z sk t pc lv [] := fun H locs ls hM hF hFl hZ hL => W.widen hc hs (vx_ret (W.vret X.1 X.2.1 (X.ret.trans hr) (fun u hu hW => ⟨_, z, sk, t, rfl, hP, by rw [hu]; exact hM, by rw [hu]; exact hF, by rw [hu]; exact hZ⟩) hFl hdg X.lk))
theorem j_aret (X : jX p l s m args meth c M g tb) {a : Nat} {C : String} {mc ms : Nat} {P : Option Value → Option Nat → jS → jT → Prop} (hdg : decode M.2.1 pc = .ok (.areturn, 1)) (hr : M.2.2.2 = some (.object C)) (hP : P (some (.ref a)) z sk t) (hc : cells ≤ mc := by decide) (hs : slots ≤ ms := by decide) : J p l e R s m args below meth c (jQm below args s g mc ms P) nL g cells slots z sk t pc lv [.ref a] := fun H locs ls hM hF hFl hZ hL => W.widen hc hs (W.aret X.1 X.2.1 (X.ret.trans hr) (Or.inl ⟨_, rfl⟩) (Or.inr ⟨_, rfl⟩) (fun u hu hW => ⟨_, z, sk, t, rfl, hP, by rw [hu]; exact hM, by rw [hu]; exact hF, by rw [hu]; exact hZ⟩) hFl hdg X.lk)
theorem j_aret_x (X : jX p l s m args meth c M g tb) {a : Nat} {C : String} {mc ms : Nat} {P : Option Value → Option Nat → jS → jT → Prop} {PX : String → Option Nat → jS → jT → Prop} (hdg : decode M.2.1 pc = .ok (.areturn, 1)) (hr : M.2.2.2 = some (.object C)) (hP : P (some (.ref a)) z sk t) (hc : cells ≤ mc := by decide) (hs : slots ≤ ms := by decide) : J p l e R s m args below meth c (jQx below args s g mc ms P PX) nL g cells slots z sk t pc lv [.ref a] := fun H locs ls hM hF hFl hZ hL => W.widen hc hs (vx_ret (W.aret X.1 X.2.1 (X.ret.trans hr) (Or.inl ⟨_, rfl⟩) (Or.inr ⟨_, rfl⟩) (fun u hu hW => ⟨_, z, sk, t, rfl, hP, by rw [hu]; exact hM, by rw [hu]; exact hF, by rw [hu]; exact hZ⟩) hFl hdg X.lk))
theorem j_dret (X : jX p l s m args meth c M g tb) {v : UInt64} {mc ms : Nat} {P : Option Value → Option Nat → jS → jT → Prop} (hdg : decode M.2.1 pc = .ok (.dreturn, 1)) (hr : M.2.2.2 = some .double) (hP : P (some (.double v)) z sk t) (hc : cells ≤ mc := by decide) (hs : slots ≤ ms := by decide) : J p l e R s m args below meth c (jQm below args s g mc ms P) nL g cells slots z sk t pc lv [.double v] := fun H locs ls hM hF hFl hZ hL => W.widen hc hs (W.dret X.1 X.2.1 (X.ret.trans hr) (fun u hu hW => ⟨_, z, sk, t, rfl, hP, by rw [hu]; exact hM, by rw [hu]; exact hF, by rw [hu]; exact hZ⟩) hFl hdg X.lk)
theorem j_dret_x (X : jX p l s m args meth c M g tb) {v : UInt64} {mc ms : Nat} {P : Option Value → Option Nat → jS → jT → Prop} {PX : String → Option Nat → jS → jT → Prop} (hdg : decode M.2.1 pc = .ok (.dreturn, 1)) (hr : M.2.2.2 = some .double) (hP : P (some (.double v)) z sk t) (hc : cells ≤ mc := by decide) (hs : slots ≤ ms := by decide) : J p l e R s m args below meth c (jQx below args s g mc ms P PX) nL g cells slots z sk t pc lv [.double v] := fun H locs ls hM hF hFl hZ hL => W.widen hc hs (vx_ret (W.dret X.1 X.2.1 (X.ret.trans hr) (fun u hu hW => ⟨_, z, sk, t, rfl, hP, by rw [hu]; exact hM, by rw [hu]; exact hF, by rw [hu]; exact hZ⟩) hFl hdg X.lk))
theorem j_fret (X : jX p l s m args meth c M g tb) {v : UInt32} {mc ms : Nat} {P : Option Value → Option Nat → jS → jT → Prop} (hdg : decode M.2.1 pc = .ok (.freturn, 1)) (hr : M.2.2.2 = some .float) (hP : P (some (.float v)) z sk t) (hc : cells ≤ mc := by decide) (hs : slots ≤ ms := by decide) : J p l e R s m args below meth c (jQm below args s g mc ms P) nL g cells slots z sk t pc lv [.float v] := fun H locs ls hM hF hFl hZ hL => W.widen hc hs (W.fret X.1 X.2.1 (X.ret.trans hr) (fun u hu hW => ⟨_, z, sk, t, rfl, hP, by rw [hu]; exact hM, by rw [hu]; exact hF, by rw [hu]; exact hZ⟩) hFl hdg X.lk)
theorem j_fret_x (X : jX p l s m args meth c M g tb) {v : UInt32} {mc ms : Nat} {P : Option Value → Option Nat → jS → jT → Prop} {PX : String → Option Nat → jS → jT → Prop} (hdg : decode M.2.1 pc = .ok (.freturn, 1)) (hr : M.2.2.2 = some .float) (hP : P (some (.float v)) z sk t) (hc : cells ≤ mc := by decide) (hs : slots ≤ ms := by decide) : J p l e R s m args below meth c (jQx below args s g mc ms P PX) nL g cells slots z sk t pc lv [.float v] := fun H locs ls hM hF hFl hZ hL => W.widen hc hs (vx_ret (W.fret X.1 X.2.1 (X.ret.trans hr) (fun u hu hW => ⟨_, z, sk, t, rfl, hP, by rw [hu]; exact hM, by rw [hu]; exact hF, by rw [hu]; exact hZ⟩) hFl hdg X.lk))
end JROWS
