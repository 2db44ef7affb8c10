/-- a new place: all its ints are 0 -/
def jT0 (t : jT) (i : Nat) : jT := fun a => if a = i then fun _ => nI 0 else t a
theorem jT0_eq (t : jT) (i : Nat) : jT0 t i i = fun _ => nI 0 := by simp [jT0]
theorem jT0_ne (t : jT) {i a : Nat} (h : a ≠ i) : jT0 t i a = t a := by simp [jT0, h]
theorem arrV_ext (cA : ClassId) (n : Nat) {f h : Nat → Value} (e : ∀ j, j < n → f j = h j) : arrV cA n f = arrV cA n h := by
  have h9 : (fun j : Fin n => f j.val) = fun j : Fin n => h j.val := funext fun j => e j.val j.isLt
  show ({ cls := cA, slots := Array.ofFn (n := n) fun j => f j.val, vm := .none } : Cell) = ({ cls := cA, slots := Array.ofFn (n := n) fun j => h j.val, vm := .none } : Cell)
  rw [h9]
/-- a class of which an object may be made: its fields at first -/
def jNw (ci N : Nat) (C : String) (fs : List (Int32 → Value)) : Prop := ∃ (T : u_T) (ty : Nat → FieldType), vwCl[ci]? = some (C, T, N) ∧ (∀ w ∈ u_ws C T N, w ∈ lw_tbl) ∧ (∀ w ∈ u_ws C T N, goodWord w = true) ∧ (∀ k, k < N → parseFieldDescriptor (T k).2.2.1 = some (ty k)) ∧ Cond.instantiable C N ∈ lw_tbl ∧ Cond.initialized C ∈ lw_tbl ∧ ∀ j, j < N → defaultValue (ty j) = vp_V (fs.mapIdx (fun _ φ => φ (nI 0))) j
section MAKE
variable {p : Program} {l : Launch} {e : Env} {R : Room} {s : State} {m : MethodId} {args : Array Value} {below : List Frame} {meth : Method} {c : Code} {cells slots : Nat} {Q : State → Prop}
variable {M : jI} {nL : Nat} {g : jG} {tb : Option (List ExceptionTableEntry)} {z : Option Nat} {sk : jS} {t : jT} {pc : Nat} {lv : List (Option Value)} {st : List Value}
theorem j_widen {k n : Nat} (h1 : cells ≤ k) (h2 : slots ≤ n) (kk : J p l e R s m args below meth c Q nL g k n z sk t pc lv st) : J p l e R s m args below meth c Q nL g cells slots z sk t pc lv st := fun H locs ls hM hF hFl hZ hL => W.widen h1 h2 (kk H locs ls hM hF hFl hZ hL)
theorem j_new (X : jX p l s m args meth c M g tb) {idx ci N n : Nat} {C : String} {fs : List (Int32 → Value)} (hw : jNw ci N C fs) (hcl : Cond.classLink M.1.cls idx C ∈ lw_tbl) (hdg : decode M.2.1 pc = .ok (.new idx, 3)) (kk : J p l e R s m args below meth c Q nL g (cells + 1) (slots + N) (some (n + 1)) (jN sk n (kO ci fs)) (jT0 t n) (pc + 3) lv (.ref (jb g + n) :: st)) (hcells : cells + 1 ≤ R.cells := by exact Nat.le_of_ble_eq_true rfl) (hslots : slots + N ≤ R.slots := by exact Nat.le_of_ble_eq_true rfl) : J p l e R s m args below meth c Q nL g cells slots (some n) sk t pc lv st := fun H locs ls hM hF hFl hZ hL => by
  obtain ⟨T, ty, hc, hin, hgd, hty, hinst, hini, hfs⟩ := hw
  have hts : ∀ w ∈ u_ws C T N, w.before args s = true := fun w hw => X.word (hin w hw) (hgd w hw)
  have hKn := (X.ok.K X.wm).1 ci _ hc
  have hz : H.size = jb g + n := hZ n rfl
  refine W.newcK X.1 X.2.1 X.own (X.word hcl rfl) (X.word hinst rfl) (X.word hini rfl) rfl hdg hcells hslots hKn.2.1 hz fun H1 kC hkC e1 z1 o1 => ?_
  refine kk H1 _ ls (hM.put n (fun a ha => jN_ne _ _ ha) (fun a ha => jT0_ne _ ha) (fun k2 hk2 => ?_) (fun q h h2 => o1 q (by omega))) (hF.grow (by omega) (fun q h => o1 q (by omega))) hFl (fun n9 h9 => by cases h9; omega) hL
  rw [jN_eq] at hk2
  cases hk2
  rw [jT0_eq]
  exact ⟨_, hc, (u_born ty hts (fun w h => h) hKn hkC e1 hty).to hfs⟩
theorem j_newarray (X : jX p l s m args meth c M g tb) {atype : ArrayType} {ty : FieldType} {N n : Nat} {v : Int32} {k9 : jK} (hty : newarray.typeOf atype = ty) (hmem : ty ∈ jtys) (hw : Cond.arrayClass ty ∈ lw_tbl) (hv : v = nI N) (hN : N < 2 ^ 31) (hby : N * componentBytes ty ≤ 536870912) (hdg : decode M.2.1 pc = .ok (.newarray atype, 2)) (kk : J p l e R s m args below meth c Q nL g (cells + 1) (slots + N) (some (n + 1)) (jN sk n k9) (jT0 t n) (pc + 2) lv (.ref (jb g + n) :: st)) (hcells : cells + 1 ≤ R.cells := by exact Nat.le_of_ble_eq_true rfl) (hslots : slots + N ≤ R.slots := by exact Nat.le_of_ble_eq_true rfl)
    (hra : ∀ (U : State) (cA : ClassId), va_RA U cA ty → U.vm.findClass ("[" ++ ty.toString) = some cA := by exact fun _ _ h => h) (hk : ∃ a0 : vp_A, jC g k9 (fun _ => nI 0) = .inl (jAr g ty, a0) ∧ vp_cell (jAr g ty) a0 = arrV (jAr g ty) N (fun _ => defaultValue ty) := by exact ⟨_, rfl, rfl⟩) : J p l e R s m args below meth c Q nL g cells slots (some n) sk t pc lv (.int v :: st) := fun H locs ls hM hF hFl hZ hL => by
  subst hty
  subst hv
  have hz : H.size = jb g + n := hZ n rfl
  refine va_newaK X.1 X.2.1 (X.word hw rfl) rfl hdg rfl (nI_pos hN) (nI_clamp hN) hby hcells hslots hz fun H1 cA e1 z1 o1 hAr hNm => ?_
  have hcA : cA = jAr g (newarray.typeOf atype) := by
    have h1 := hra _ _ ((X.ok.A X.wm hmem).2 0 _ rfl).2
    rw [hNm] at h1
    exact Option.some.inj h1
  refine kk H1 _ ls (hM.put n (fun a ha => jN_ne _ _ ha) (fun a ha => jT0_ne _ ha) (fun k2 hk2 => ?_) (fun q h h2 => o1 q (by omega))) (hF.grow (by omega) (fun q h => o1 q (by omega))) hFl (fun n9 h9 => by cases h9; omega) hL
  rw [jN_eq] at hk2
  cases hk2
  rw [jT0_eq]
  obtain ⟨a0, k1, k2⟩ := hk
  rw [k1]
  show H1[jb g + n]? = some (vp_cell _ _)
  rw [k2, e1, hcA]
theorem j_anewarray (X : jX p l s m args meth c M g tb) {C : String} {idx N n : Nat} {v : Int32} {f9 : Nat → Option Nat} (hf : ∀ j, j < N → f9 j = none) (hmem : FieldType.object C ∈ jtys) (hcl : Cond.classLink M.1.cls idx C ∈ lw_tbl) (hov : Cond.arrayOver (.object C) ∈ lw_tbl) (hv : v = nI N) (hN : N < 2 ^ 20) (hdg : decode M.2.1 pc = .ok (.anewarray idx, 3)) (kk : J p l e R s m args below meth c Q nL g (cells + 1) (slots + N) (some (n + 1)) (jN sk n (kR C N f9)) t (pc + 3) lv (.ref (jb g + n) :: st)) (hcells : cells + 1 ≤ R.cells := by exact Nat.le_of_ble_eq_true rfl) (hslots : slots + N ≤ R.slots := by exact Nat.le_of_ble_eq_true rfl) : J p l e R s m args below meth c Q nL g cells slots (some n) sk t pc lv (.int v :: st) := fun H locs ls hM hF hFl hZ hL => by
  subst hv
  have hz : H.size = jb g + n := hZ n rfl
  have hcl9 : (nI N).toNatClampNeg = N := nI_clamp (by omega)
  obtain ⟨b9, hb9, -⟩ := X.ok.at
  refine W.anew X.1 X.2.1 X.own (X.word hcl rfl) (va_AO.use ((va_AO.of (hb9 _ hov)).moved X.wm.alike)) rfl hdg rfl (nI_pos (by omega)) (by rw [hcl9]; omega) hcells (by rw [hcl9]; exact hslots) fun cA kA comp f1 f2 f3 f4 => ?_
  rw [hcl9]
  generalize hH1 : H.push ({ cls := cA, slots := Array.replicate N .null, vm := .none } : Cell) = H1
  have z1 : H1.size = H.size + 1 := by rw [← hH1, Array.size_push]
  have e1 : H1[H.size]? = some (arrV cA N (fun _ => .null)) := by rw [← hH1, Array.getElem?_push_size, ← arrV_new]
  have o1 : ∀ q : Nat, q < H.size → H1[q]? = H[q]? := fun q hq => by rw [← hH1, Array.getElem?_push, if_neg (Nat.ne_of_lt hq)]
  have hcA : cA = jAr g (.object C) := by
    obtain ⟨-, kA2, comp2, g1, g2, g3, g4⟩ := (X.ok.A X.wm hmem).2 0 _ rfl
    rw [f1] at g4
    exact Option.some.inj g4
  rw [hz] at e1
  show W p l e R s m args below meth c H1 locs (cells + 1) (slots + N) Q (F0 m (pc + 3) ls (.ref H.size :: st))
  rw [hz]
  refine kk H1 _ ls (hM.put n (fun a ha => jN_ne _ _ ha) (fun a ha => rfl) (fun k2 hk2 => ?_) (fun q h h2 => o1 q h2)) (hF.grow (by omega) (fun q h => o1 q h)) hFl (fun n9 h9 => by cases h9; omega) hL
  rw [jN_eq] at hk2
  cases hk2
  show H1[jb g + n]? = some (vp_cell (jAr g (.object C)) (N, .inr (.inr (.inr (.inr f9)))))
  rw [vp_cell_q, e1, hcA]
  exact congrArg some (arrV_ext _ _ fun j hj => by rw [hf j hj]; rfl)
theorem j_aast (X : jX p l s m args meth c M g tb) {i n q a ci : Nat} {C : String} {f : Nat → Option Nat} {fs : List (Int32 → Value)} {x : Int32} (hs : sk i = some (kR C n f)) (hC : FieldType.object C ∈ jtys) (hx : x = nI q) (hq : q < n ∧ n < 2 ^ 31) (hs2 : sk a = some (kO ci fs)) (hci : (vwCl[ci]?).map (fun q => q.1) = some C) (hdg : decode M.2.1 pc = .ok (.aastore, 1)) (kk : J p l e R s m args below meth c Q nL g cells slots z (jN sk i (kR C n (va_up f q (some (jb g + a))))) t (pc + 1) lv st) : J p l e R s m args below meth c Q nL g cells slots z sk t pc lv (.ref (jb g + a) :: .int x :: .ref (jb g + i) :: st) := fun H locs ls hM hF hFl hZ hL => by
  have h0 : x.toNatClampNeg = q := by rw [hx]; exact nI_clamp (by omega)
  have hin : vp_in x n := by rw [hx]; exact vp_in_nI hq.1 hq.2
  have hlt : x.toNatClampNeg < n := by rw [h0]; exact hq.1
  have hn0 : ¬ x < 0 := fun q9 => hin (Or.inl q9)
  have hP := hM i _ hs
  have hP2 : va_at (jD g) vwCl (jb g + a, jC g (kO ci fs) (t a)) H := hM a _ hs2
  obtain ⟨r, hr, cellV, g1, g2, g3, -⟩ := hP2
  have hrC : r.1 = C := by rw [hr] at hci; exact Option.some.inj hci
  have hcls := ((X.ok.K X.wm).1 ci r hr).2
  obtain ⟨-, kA, comp, k1, k2, k3, -⟩ := (X.ok.A X.wm hC).2 0 _ rfl
  rw [← hrC] at k3
  have hcomp : comp = (jD g).1 ci := Option.some.inj (k3.symm.trans hcls.1)
  subst hcomp
  obtain ⟨kC, hkC, -⟩ := hcls.2
  refine W.aast X.1 X.2.1 hP (fun q h => by cases h) (fun h => by cases h) k1 k2 rfl hkC ⟨hn0, by show _ < (arrV _ _ _).slots.size; rw [arrV_size]; exact hlt⟩ g1 (fun q h => by rw [g3] at h; cases h) (by rw [g2]; exact hkC) (by rw [g2]; exact va_assign hcls) rfl rfl hdg fun H1 e1 z1 oq => ?_
  refine kk H1 _ ls (hM.put i (fun a ha => jN_ne _ _ ha) (fun a ha => rfl) (fun k9 hk9 => ?_) (fun q h _ => oq q h)) (hF.put (Nat.le_of_eq z1.symm) (fun q h _ => oq q h)) (hFl.put _ _) (hZ.put z1) hL
  rw [jN_eq] at hk9
  cases hk9
  show H1[jb g + i]? = some (vp_cell _ _)
  rw [e1, h0]
  show some ((vp_cell (jAr g (.object C)) (n, .inr (.inr (.inr (.inr f))))).setSlot q _) = _
  rw [vp_cell_q, vp_cell_q, arrV_store]
  congr 2
  funext j
  by_cases hj : j = q
  · subst hj
    simp [updV, va_up, va_rf]
  · simp [updV, va_up, hj]
/-- a field of a new object is set, also a final one: what stands there then -/
theorem jFd.putG (X : jX p l s m args meth c M g tb) {idx ci k : Nat} {ty : FieldType} {fin : Bool} (hf : jFd M.1.cls idx ci k ty fin) (hnm : M.1.name = "<init>") (hcn : (vwCl[ci]?).map (fun q => q.1) = some M.1.cls) (hl9 : ∃ q, vwCl[ci]? = some q ∧ Cond.fieldLink M.1.cls idx q.1 (q.2.1 k).2.1 (q.2.1 k).2.2.1 ∈ lw_tbl) {i : Nat} {fs : List (Int32 → Value)} (hs : sk i = some (kO ci fs)) (hlen : k < fs.length) {v : Value} (hn : narrow ty v = v) (hft : fits ty v = true) (hdg : decode M.2.1 pc = .ok (.putfield idx, 3)) {sk2 : jS} {t2 : jT} {k9 : jK} (h9 : sk2 i = some k9) (hnew : jC g k9 (t2 i) = .inr (ci, (fs.mapIdx (fun j φ => φ (t i j))).set k v)) (hsk : ∀ a, a ≠ i → sk2 a = sk a) (ht : ∀ a, a ≠ i → t2 a = t a) (kk : J p l e R s m args below meth c Q nL g cells slots z sk2 t2 (pc + 3) lv st) : J p l e R s m args below meth c Q nL g cells slots z sk t pc lv (v :: .ref (jb g + i) :: st) := fun H locs ls hM hF hFl hZ hL => by
  obtain ⟨C, T, N, ty0, hc, hk, hin, hgd, hty, hnm2, hty1, hfin, hC, -⟩ := hf
  obtain ⟨q9, hq9, hlk⟩ := hl9
  cases Option.some.inj (hq9.symm.trans hc)
  have hts : ∀ w ∈ u_ws C T N, w.before args s = true := fun w hw => X.word (hin w hw) (hgd w hw)
  have hap := va_apart (own := M.1.cls) hts (fun w h => h) ty0 hty hnm2 (X.ok.K X.wm) hc
  have hCM : C = M.1.cls := by rw [hc] at hcn; exact Option.some.inj hcn
  have hi0 : va_at (jD g) vwCl (jb g + i, jC g (kO ci fs) (t i)) H := hM i _ hs
  obtain ⟨r, h1, cell, q1, q2, q3, q4⟩ := hi0
  have hr : r = (C, T, N) := Option.some.inj (h1.symm.trans hc)
  subst hr
  obtain ⟨hSl, hfc, kC, hkC, hkind⟩ := (X.ok.K X.wm).1 ci _ hc
  obtain ⟨cf, kf, fi, f, hi, hsl⟩ := hSl k hk
  have hl := u_lays hts (fun w h => h) hk
  have hst := (u_facts hfc hkC hl hi).1
  have hd : parseFieldDescriptor (T k).2.2.1 = some ty := by rw [hty k hk, hty1]
  have h6 := u_fits hfc hkC hkind hl hi hd hn hft
  have hi' : s.fieldFound? C (T k).2.1 (T k).2.2.1 = some (cf, kf, fi, f) := by rw [hC] at hi; exact hi
  have hlay := hts _ (u_in_lay hk)
  unfold u_lay at hlay
  have hnew9 : ∀ H1 : Heap, H1[jb g + i]? = some (cell.setSlot ((jD g).2 ci k) v) → ∀ k2, sk2 i = some k2 → va_at (jD g) vwCl (jb g + i, jC g k2 (t2 i)) H1 := fun H1 e1 k2 hk2 => by
    rw [h9] at hk2
    cases hk2
    rw [hnew]
    exact ⟨_, hc, t_OB.to (V := updV (vp_V (fs.mapIdx (fun j φ => φ (t i j)))) k v) ⟨_, e1, q2, q3, t_set q4 hap hk v⟩ (fun j _ => vp_updV_set (by rw [List.length_mapIdx]; exact hlen) v j)⟩
  cases fin with
  | true =>
    rw [if_pos hfin] at hlay
    have hcf : m.cls = cf := by
      obtain ⟨_, _, c', _, _, _, -, -, hf', -, -, -, hown2, -⟩ := Cond.laysFinal_spec hlay
      have e1 : c' = cf := by have := hi.symm.trans hf'; simp at this; exact this.1.symm
      rw [hC, hCM] at hown2
      rw [← e1]; exact Option.some.inj (X.own.symm.trans hown2)
    refine W.putFinK X.1 X.2.1 (own := M.1.cls) (ref := C) X.own (X.word hlk rfl) hi' hst hcf (X.nm.trans hnm) (by rw [q2]; exact h6) q1 q3 (by rw [hsl]; exact k2_hasslot (q4 k hk)) rfl rfl hdg fun H' e1 e2 e3 => ?_
    rw [hsl] at e1 ⊢
    exact kk H' _ ls (hM.put i hsk ht (hnew9 H' e1) (fun q h _ => e3 q h)) (hF.put (Nat.le_of_eq e2.symm) (fun q h _ => e3 q h)) (hFl.put _ _) (hZ.put e2) hL
  | false =>
    rw [if_neg (by rw [hfin]; decide)] at hlay
    have h7 := u_store hfc hkC hkind hlay hi hd hn hft
    refine W.putK X.1 X.2.1 (own := M.1.cls) (ref := C) (f := f) ⟨X.own, X.word hlk rfl, ⟨_, _, _, hi'⟩, hst⟩ (by rw [q2]; exact h7) q1 q3 (by rw [hsl]; exact k2_hasslot (q4 k hk)) rfl rfl hdg fun H' e1 e2 e3 => ?_
    rw [hsl] at e1 ⊢
    exact kk H' _ ls (hM.put i hsk ht (hnew9 H' e1) (fun q h _ => e3 q h)) (hF.put (Nat.le_of_eq e2.symm) (fun q h _ => e3 q h)) (hFl.put _ _) (hZ.put e2) hL
/-- .. where a reference stands then -/
theorem jFd.putR (X : jX p l s m args meth c M g tb) {idx ci k : Nat} {ty : FieldType} {fin : Bool} (hf : jFd M.1.cls idx ci k ty fin) (hl9 : ∃ q, vwCl[ci]? = some q ∧ Cond.fieldLink M.1.cls idx q.1 (q.2.1 k).2.1 (q.2.1 k).2.2.1 ∈ lw_tbl) (hnm : M.1.name = "<init>") (hcn : (vwCl[ci]?).map (fun q => q.1) = some M.1.cls) {i : Nat} {fs : List (Int32 → Value)} (hs : sk i = some (kO ci fs)) (hlen : k < fs.length) {v : Value} (hn : narrow ty v = v) (hft : fits ty v = true) (hdg : decode M.2.1 pc = .ok (.putfield idx, 3)) (kk : J p l e R s m args below meth c Q nL g cells slots z (jN sk i (kO ci (fs.set k (fun _ => v)))) t (pc + 3) lv st) : J p l e R s m args below meth c Q nL g cells slots z sk t pc lv (v :: .ref (jb g + i) :: st) :=
  jFd.putG X hf hnm hcn hl9 hs hlen hn hft hdg (sk2 := jN sk i (kO ci (fs.set k (fun _ => v)))) (t2 := t) (jN_eq _ _ _) (congrArg (fun x => (Sum.inr (ci, x) : va_E)) (jMap_setR v).symm) (fun a ha => jN_ne _ _ ha) (fun _ _ => rfl) kk
end MAKE
abbrev k0_X5 : jK := kO 5 [fun _ => .null, .int, .int, .int]
theorem nw_X5 : jNw 5 4 "StarPress$Plate" [fun _ => .null, .int, .int, .int] := ⟨TX5, tyX5, rfl, uw_X5, ug_X5, tyX5_ok, tw_1_49, tw_1_3, fun j hj => by
  have h9 : j = 0 ∨ j = 1 ∨ j = 2 ∨ j = 3 := by omega
  rcases h9 with rfl | rfl | rfl | rfl <;> rfl⟩
abbrev k0_X7 : jK := kO 7 [fun _ => .null, fun _ => .null, .int, .int, .int]
theorem nw_X7 : jNw 7 5 "StarPress$Sheet" [fun _ => .null, fun _ => .null, .int, .int, .int] := ⟨TX7, tyX7, rfl, uw_X7, ug_X7, tyX7_ok, tw_1_78, tw_1_4, fun j hj => by
  have h9 : j = 0 ∨ j = 1 ∨ j = 2 ∨ j = 3 ∨ j = 4 := by omega
  rcases h9 with rfl | rfl | rfl | rfl | rfl <;> rfl⟩
abbrev k0_X8 : jK := kO 8 [fun _ => .null, fun _ => .null, fun _ => .null, .int, .int, .int]
theorem nw_X8 : jNw 8 6 "StarPress$Shop" [fun _ => .null, fun _ => .null, fun _ => .null, .int, .int, .int] := ⟨TX8, tyX8, rfl, uw_X8, ug_X8, tyX8_ok, tw_1_40, tw_1_2, fun j hj => by
  have h9 : j = 0 ∨ j = 1 ∨ j = 2 ∨ j = 3 ∨ j = 4 ∨ j = 5 := by omega
  rcases h9 with rfl | rfl | rfl | rfl | rfl | rfl <;> rfl⟩
abbrev k0_X1 : jK := kO 2 [fun _ => .null, fun _ => .null, fun _ => .null, fun _ => .null, fun _ => .null, .int, .int, .int]
theorem nw_X1 : jNw 2 8 "StarPress$Fitting" [fun _ => .null, fun _ => .null, fun _ => .null, fun _ => .null, fun _ => .null, .int, .int, .int] := ⟨TX1, tyX1, rfl, uw_X1, ug_X1, tyX1_ok, tw_1_152, tw_1_7, fun j hj => by
  have h9 : j = 0 ∨ j = 1 ∨ j = 2 ∨ j = 3 ∨ j = 4 ∨ j = 5 ∨ j = 6 ∨ j = 7 := by omega
  rcases h9 with rfl | rfl | rfl | rfl | rfl | rfl | rfl | rfl <;> rfl⟩
abbrev k0_X2 : jK := kO 3 [fun _ => .null, .int, .int]
theorem nw_X2 : jNw 3 3 "StarPress$History" [fun _ => .null, .int, .int] := ⟨TX2, tyX2, rfl, uw_X2, ug_X2, tyX2_ok, tw_1_132, tw_1_6, fun j hj => by
  have h9 : j = 0 ∨ j = 1 ∨ j = 2 := by omega
  rcases h9 with rfl | rfl | rfl <;> rfl⟩
abbrev k0_X3 : jK := kO 4 [fun _ => .null, .int, .int, .int, fun _ => .null, .int, .int, .int]
theorem nw_X3 : jNw 4 8 "StarPress$Input" [fun _ => .null, .int, .int, .int, fun _ => .null, .int, .int, .int] := ⟨TX3, tyX3, rfl, uw_X3, ug_X3, tyX3_ok, tw_1_204, tw_1_9, fun j hj => by
  have h9 : j = 0 ∨ j = 1 ∨ j = 2 ∨ j = 3 ∨ j = 4 ∨ j = 5 ∨ j = 6 ∨ j = 7 := by omega
  rcases h9 with rfl | rfl | rfl | rfl | rfl | rfl | rfl | rfl <;> rfl⟩
abbrev k0_X6 : jK := kO 6 [.int, .int]
theorem nw_X6 : jNw 6 2 "StarPress$Refusal" [.int, .int] := ⟨TX6, tyX6, rfl, uw_X6, ug_X6, tyX6_ok, tw_1_189, tw_1_8, fun j hj => by
  have h9 : j = 0 ∨ j = 1 := by omega
  rcases h9 with rfl | rfl <;> rfl⟩
abbrev k0_X9 : jK := kO 9 [fun _ => .null, fun _ => .null, fun _ => .null, fun _ => .null, fun _ => .null, fun _ => .null, fun _ => .null, fun _ => .null, .int, .int, .int, .int]
theorem nw_X9 : jNw 9 12 "StarPress" [fun _ => .null, fun _ => .null, fun _ => .null, fun _ => .null, fun _ => .null, fun _ => .null, fun _ => .null, fun _ => .null, .int, .int, .int, .int] := ⟨TX9, tyX9, rfl, uw_X9, ug_X9, tyX9_ok, tw_1_32, tw_1_1, fun j hj => by
  have h9 : j = 0 ∨ j = 1 ∨ j = 2 ∨ j = 3 ∨ j = 4 ∨ j = 5 ∨ j = 6 ∨ j = 7 ∨ j = 8 ∨ j = 9 ∨ j = 10 ∨ j = 11 := by omega
  rcases h9 with rfl | rfl | rfl | rfl | rfl | rfl | rfl | rfl | rfl | rfl | rfl | rfl <;> rfl⟩
abbrev k0_X10 : jK := kO 10 [fun _ => .null, fun _ => .null, fun _ => .null, fun _ => .null, .int, .int, .int, .int, .int, .int, fun _ => .null, .int, .int, .int, fun _ => .null, .int, .int, .int, .int, fun _ => .null, .int]
theorem nw_X10 : jNw 10 21 "StarPressModel" [fun _ => .null, fun _ => .null, fun _ => .null, fun _ => .null, .int, .int, .int, .int, .int, .int, fun _ => .null, .int, .int, .int, fun _ => .null, .int, .int, .int, .int, fun _ => .null, .int] := ⟨TX10, tyX10, rfl, uw_X10, ug_X10, tyX10_ok, tw_6_55, tw_1_12, fun j hj => by
  have h9 : j = 0 ∨ j = 1 ∨ j = 2 ∨ j = 3 ∨ j = 4 ∨ j = 5 ∨ j = 6 ∨ j = 7 ∨ j = 8 ∨ j = 9 ∨ j = 10 ∨ j = 11 ∨ j = 12 ∨ j = 13 ∨ j = 14 ∨ j = 15 ∨ j = 16 ∨ j = 17 ∨ j = 18 ∨ j = 19 ∨ j = 20 := by omega
  rcases h9 with rfl | rfl | rfl | rfl | rfl | rfl | rfl | rfl | rfl | rfl | rfl | rfl | rfl | rfl | rfl | rfl | rfl | rfl | rfl | rfl | rfl <;> rfl⟩
theorem rN_0 : nI (rN (fun _ => false)) = nI 0 := by decide +kernel
theorem Rows_0 {f : Nat → Int32} (h : ∀ k, f k = nI 0) : Rows f (fun _ => false) := fun y _ => by rw [h]; exact rN_0.symm
theorem Rows3_0 {f : Nat → Int32} (h : ∀ k, f k = nI 0) : Rows3 f (fun _ _ => false) := fun j _ y _ => by rw [h]; exact rN_0.symm
theorem jU3 {t : jT} {b : Nat} {k1 k2 k3 : Nat} {v1 v2 v3 : Int32} {a : Nat} (h : a ≠ b) : jU (jU (jU t b k1 v1) b k2 v2) b k3 v3 a = t a := by rw [jU_ne _ _ _ h, jU_ne _ _ _ h, jU_ne _ _ _ h]
theorem jU3_eq {t : jT} {b : Nat} {k1 k2 k3 : Nat} {v1 v2 v3 : Int32} : jU (jU (jU t b k1 v1) b k2 v2) b k3 v3 b = upd (upd (upd (t b) k1 v1) k2 v2) k3 v3 := by rw [jU_eq, jU_eq, jU_eq]
theorem c_Plate {l : Launch} {g : jG} (hok : jOk g) (hst : l.stackTraces = false) {z : Option Nat} {sk : jS} {t : jT} {b : Nat} (hz : z = some (b + 1)) (h0 : sk b = some k0_X5) : jMet l g mX5_init 1 1 8 [.ref (jb g + b)] z sk t (fun v2 z2 sk2 t2 => v2 = none ∧ z2 = some (b + 2) ∧ (sk2 b = some (jPlate g (b + 1)) ∧ sk2 (b + 1) = some (kA .int 8)) ∧ RcP t2 b (b + 1) (1, 0, 0, fun _ => false) ∧ ∀ a, (a < b ∨ b + 2 ≤ a) → sk2 a = sk a ∧ t2 a = t a) := by
  subst hz
  refine j_body (lv := [some (.ref (jb g + b))]) i_X5_init hok hst (fun p e s m args below meth c X => ?_)
  refine j_aload_n X (i := 0) dX5_init_0 rfl rfl ?_
  refine j_objInit X tw_1_53 tw_1_37 tw_1_38 dX5_init_1 ?_
  refine j_aload_n X (i := 0) dX5_init_4 rfl rfl ?_
  refine j_bipush X (v := (nI 8)) dX5_init_5 (by decide) ?_
  refine j_newarray X (ty := .int) (N := 8) (k9 := kA .int 8) rfl (by decide) tw_1_77 rfl (by decide) (by decide) dX5_init_7 ?_ 
  refine jFd.putR X fd_X5_9 ⟨_, rfl, tw_1_54⟩ rfl rfl ((jN_ne _ _ (by omega)).trans h0) (by exact Nat.le_of_ble_eq_true rfl) rfl rfl dX5_init_9 ?_
  refine j_aload_n X (i := 0) dX5_init_12 rfl rfl ?_
  refine j_iconst X (v := (nI 1)) dX5_init_13 (by decide) ?_
  refine jFd.put X fd_X5_15 (jN_eq _ _ _) rfl rfl rfl rfl dX5_init_14 ?_
  refine j_aload_n X (i := 0) dX5_init_17 rfl rfl ?_
  refine j_iconst X (v := (nI 0)) dX5_init_18 (by decide) ?_
  refine jFd.put X fd_X5_19 (jN_eq _ _ _) rfl rfl rfl rfl dX5_init_19 ?_
  refine j_aload_n X (i := 0) dX5_init_22 rfl rfl ?_
  refine j_iconst X (v := (nI 0)) dX5_init_23 (by decide) ?_
  refine jFd.put X fd_X5_22 (jN_eq _ _ _) rfl rfl rfl rfl dX5_init_24 ?_
  exact j_vret X dX5_init_27 rfl ⟨rfl, rfl, ⟨jN_eq _ _ _, (jN_ne _ _ (by omega)).trans (jN_eq _ _ _)⟩, ⟨by rw [jU3_eq]; rfl, by rw [jU3_eq]; rfl, by rw [jU3_eq]; rfl, by rw [jU3 (by omega), jT0_eq]; exact Rows_0 fun _ => rfl⟩, fun a ha => ⟨by rw [jN_ne _ _ (by omega), jN_ne _ _ (by omega)], by rw [jU3 (by omega), jT0_ne _ (by omega)]⟩⟩

theorem c_Sheet {l : Launch} {g : jG} (hok : jOk g) (hst : l.stackTraces = false) {z : Option Nat} {sk : jS} {t : jT} {b : Nat} (hz : z = some (b + 1)) (h0 : sk b = some k0_X7) : jMet l g mX7_init 1 2 48 [.ref (jb g + b)] z sk t (fun v2 z2 sk2 t2 => v2 = none ∧ z2 = some (b + 3) ∧ (sk2 b = some (jSheet g (b + 1) (b + 2)) ∧ sk2 (b + 1) = some (kA .int 24) ∧ sk2 (b + 2) = some (kA .int 24)) ∧ RcS t2 b (b + 1) (b + 2) ((0, 0, -1), (fun _ _ => false), fun _ _ => false) ∧ ∀ a, (a < b ∨ b + 3 ≤ a) → sk2 a = sk a ∧ t2 a = t a) := by
  subst hz
  refine j_body (lv := [some (.ref (jb g + b))]) i_X7_init hok hst (fun p e s m args below meth c X => ?_)
  refine j_aload_n X (i := 0) dX7_init_0 rfl rfl ?_
  refine j_objInit X tw_1_82 tw_1_37 tw_1_38 dX7_init_1 ?_
  refine j_aload_n X (i := 0) dX7_init_4 rfl rfl ?_
  refine j_bipush X (v := (nI 24)) dX7_init_5 (by decide) ?_
  refine j_newarray X (ty := .int) (N := 24) (k9 := kA .int 24) rfl (by decide) tw_1_77 rfl (by decide) (by decide) dX7_init_7 ?_ 
  refine jFd.putR X fd_X7_9 ⟨_, rfl, tw_1_83⟩ rfl rfl ((jN_ne _ _ (by omega)).trans h0) (by exact Nat.le_of_ble_eq_true rfl) rfl rfl dX7_init_9 ?_
  refine j_aload_n X (i := 0) dX7_init_12 rfl rfl ?_
  refine j_bipush X (v := (nI 24)) dX7_init_13 (by decide) ?_
  refine j_newarray X (ty := .int) (N := 24) (k9 := kA .int 24) rfl (by decide) tw_1_77 rfl (by decide) (by decide) dX7_init_15 ?_ 
  refine jFd.putR X fd_X7_15 ⟨_, rfl, tw_1_84⟩ rfl rfl ((jN_ne _ _ (by omega)).trans (jN_eq _ _ _)) (by exact Nat.le_of_ble_eq_true rfl) rfl rfl dX7_init_17 ?_
  refine j_aload_n X (i := 0) dX7_init_20 rfl rfl ?_
  refine j_iconst X (v := (nI 0)) dX7_init_21 (by decide) ?_
  refine jFd.put X fd_X7_18 (jN_eq _ _ _) rfl rfl rfl rfl dX7_init_22 ?_
  refine j_aload_n X (i := 0) dX7_init_25 rfl rfl ?_
  refine j_iconst X (v := (nI 0)) dX7_init_26 (by decide) ?_
  refine jFd.put X fd_X7_22 (jN_eq _ _ _) rfl rfl rfl rfl dX7_init_27 ?_
  refine j_aload_n X (i := 0) dX7_init_30 rfl rfl ?_
  refine j_iconst X (v := -1) dX7_init_31 (by decide) ?_
  refine jFd.put X fd_X7_25 (jN_eq _ _ _) rfl rfl rfl rfl dX7_init_32 ?_
  exact j_vret X dX7_init_35 rfl ⟨rfl, rfl, ⟨jN_eq _ _ _, (jN_ne _ _ (by omega)).trans ((jN_ne _ _ (by omega)).trans ((jN_ne _ _ (by omega)).trans (jN_eq _ _ _))), (jN_ne _ _ (by omega)).trans (jN_eq _ _ _)⟩, ⟨by rw [jU3_eq]; rfl, by rw [jU3_eq]; rfl, by rw [jU3_eq]; rfl, by rw [jU3 (by omega), jT0_ne _ (by omega), jT0_eq]; exact Rows3_0 fun _ => rfl, by rw [jU3 (by omega), jT0_eq]; exact Rows3_0 fun _ => rfl⟩, fun a ha => ⟨by rw [jN_ne _ _ (by omega), jN_ne _ _ (by omega), jN_ne _ _ (by omega), jN_ne _ _ (by omega)], by rw [jU3 (by omega), jT0_ne _ (by omega), jT0_ne _ (by omega)]⟩⟩

theorem c_Refusal {l : Launch} {g : jG} (hok : jOk g) (hst : l.stackTraces = false) {z : Option Nat} {sk : jS} {t : jT} {b : Nat} (h0 : sk b = some jRef) : jMet l g mX6_init 1 0 0 [.ref (jb g + b)] z sk t (fun v2 z2 sk2 t2 => v2 = none ∧ z = z2 ∧ sk = sk2 ∧ RcR t2 b none ∧ ∀ a, a ≠ b → t2 a = t a) := by
  refine j_body (lv := [some (.ref (jb g + b))]) i_X6_init hok hst (fun p e s m args below meth c X => ?_)
  refine j_aload_n X (i := 0) dX6_init_0 rfl rfl ?_
  refine j_objInit X tw_1_193 tw_1_37 tw_1_38 dX6_init_1 ?_
  refine j_aload_n X (i := 0) dX6_init_4 rfl rfl ?_
  refine j_iconst X (v := -1) dX6_init_5 (by decide) ?_
  refine jFd.put X fd_X6_9 h0 rfl rfl rfl rfl dX6_init_6 ?_
  refine j_aload_n X (i := 0) dX6_init_9 rfl rfl ?_
  refine j_iconst X (v := (nI 0)) dX6_init_10 (by decide) ?_
  refine jFd.put X fd_X6_15 h0 rfl rfl rfl rfl dX6_init_11 ?_
  exact j_vret X dX6_init_14 rfl ⟨rfl, rfl, rfl, by unfold RcR; rw [jU_eq, jU_eq]; rfl, fun a ha => by rw [jU_ne _ _ _ ha, jU_ne _ _ _ ha]⟩

