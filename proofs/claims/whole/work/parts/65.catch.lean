section LDR
variable {p : Program} {l : Launch} {e : Env} {R : Room} {s : State} {m : MethodId} {args : Array Value} {below : List Frame} {meth : Method} {c : Code} {cells slots : Nat} {Q : State → Prop}
variable {M : jI} {nL : Nat} {g : jG} {tb : Option (List ExceptionTableEntry)} {z : Option Nat} {sk : jS} {t : jT} {pc : Nat} {lv : List (Option Value)} {st : List Value}
theorem j_laload (X : jX p l s m args meth c M g tb) {i n q : Nat} {x : Int32} {f : Nat → Int64} (hs : sk i = some (kL n f)) (hx : x = nI q) (hq : q < n ∧ n < 2 ^ 31) (hdg : decode M.2.1 pc = .ok (.laload, 1)) (kk : J p l e R s m args below meth c Q nL g cells slots z sk t (pc + 1) lv (.long (f q) :: st)) : J p l e R s m args below meth c Q nL g cells slots z sk t pc lv (.int x :: .ref (jb g + i) :: st) := fun H locs ls hM hF hFl hZ hL => by
  have h0 : x.toNatClampNeg = q := by rw [hx]; exact nI_clamp (by omega)
  have kk' := kk H locs ls hM hF hFl hZ hL
  rw [← h0] at kk'
  exact va_lald X.1 X.2.1 (X.ok.A X.wm (ty := .long) (by decide)) (hM.one hs) 0 0 rfl rfl (by rw [hx]; exact vp_in_nI hq.1 hq.2) hdg kk'
theorem j_daload (X : jX p l s m args meth c M g tb) {i n q : Nat} {x : Int32} {f : Nat → UInt64} (hs : sk i = some (kD n f)) (hx : x = nI q) (hq : q < n ∧ n < 2 ^ 31) (hdg : decode M.2.1 pc = .ok (.daload, 1)) (kk : J p l e R s m args below meth c Q nL g cells slots z sk t (pc + 1) lv (.double (f q) :: st)) : J p l e R s m args below meth c Q nL g cells slots z sk t pc lv (.int x :: .ref (jb g + i) :: st) := fun H locs ls hM hF hFl hZ hL => by
  have h0 : x.toNatClampNeg = q := by rw [hx]; exact nI_clamp (by omega)
  have kk' := kk H locs ls hM hF hFl hZ hL
  rw [← h0] at kk'
  exact va_dald X.1 X.2.1 (X.ok.A X.wm (ty := .double) (by decide)) (hM.one hs) 0 0 rfl rfl (by rw [hx]; exact vp_in_nI hq.1 hq.2) hdg kk'
theorem j_lastore (X : jX p l s m args meth c M g tb) {i n q : Nat} {x : Int32} {v : Int64} {f : Nat → Int64} (hs : sk i = some (kL n f)) (hx : x = nI q) (hq : q < n ∧ n < 2 ^ 31) (hdg : decode M.2.1 pc = .ok (.lastore, 1)) (kk : J p l e R s m args below meth c Q nL g cells slots z (jN sk i (kL n (vp_updL f q v))) t (pc + 1) lv st) : J p l e R s m args below meth c Q nL g cells slots z sk t pc lv (.long v :: .int x :: .ref (jb g + i) :: st) := fun H locs ls hM hF hFl hZ hL => by
  have h0 : x.toNatClampNeg = q := by rw [hx]; exact nI_clamp (by omega)
  have hin : vp_in x n := by rw [hx]; exact vp_in_nI hq.1 hq.2
  have hK := X.ok.A X.wm (ty := .long) (by decide)
  refine W.last X.1 X.2.1 (hM i _ hs) ((hK.2 0 _ rfl).1 n (fun j => .long (f j))) (fun q => by cases q) (by show ¬ (x < 0 ∨ (arrV _ _ _).slots.size ≤ _); rw [arrV_size]; exact hin) rfl rfl hdg fun H1 e1 z1 oq => ?_
  refine kk H1 _ ls (hM.put i (fun a ha => jN_ne _ _ ha) (fun a ha => rfl) (fun k9 hk9 => ?_) (fun q h _ => oq q h)) (hF.put (Nat.le_of_eq z1.symm) (fun q h _ => oq q h)) (hFl.put _ _) (hZ.put z1) hL
  rw [jN_eq] at hk9
  cases hk9
  show H1[jb g + i]? = some (vp_cell _ _)
  rw [e1, h0]
  show some ((vp_cell (jAr g .long) (n, .inr (.inl f))).setSlot q _) = _
  rw [vp_cell_l, vp_cell_l, arrV_store]
  congr 2
  funext j
  by_cases hj : j = q
  · subst hj
    simp [updV, vp_updL]
  · simp [updV, vp_updL, hj]
theorem j_dastore (X : jX p l s m args meth c M g tb) {i n q : Nat} {x : Int32} {v : UInt64} {f : Nat → UInt64} (hs : sk i = some (kD n f)) (hx : x = nI q) (hq : q < n ∧ n < 2 ^ 31) (hdg : decode M.2.1 pc = .ok (.dastore, 1)) (kk : J p l e R s m args below meth c Q nL g cells slots z (jN sk i (kD n (vf_upd f q v))) t (pc + 1) lv st) : J p l e R s m args below meth c Q nL g cells slots z sk t pc lv (.double v :: .int x :: .ref (jb g + i) :: st) := fun H locs ls hM hF hFl hZ hL => by
  have h0 : x.toNatClampNeg = q := by rw [hx]; exact nI_clamp (by omega)
  have hin : vp_in x n := by rw [hx]; exact vp_in_nI hq.1 hq.2
  have hK := X.ok.A X.wm (ty := .double) (by decide)
  refine W.dast X.1 X.2.1 (hM i _ hs) ((hK.2 0 _ rfl).1 n (fun j => .double (f j))) (fun q => by cases q) (by show ¬ (x < 0 ∨ (arrV _ _ _).slots.size ≤ _); rw [arrV_size]; exact hin) rfl rfl hdg fun H1 e1 z1 oq => ?_
  refine kk H1 _ ls (hM.put i (fun a ha => jN_ne _ _ ha) (fun a ha => rfl) (fun k9 hk9 => ?_) (fun q h _ => oq q h)) (hF.put (Nat.le_of_eq z1.symm) (fun q h _ => oq q h)) (hFl.put _ _) (hZ.put z1) hL
  rw [jN_eq] at hk9
  cases hk9
  show H1[jb g + i]? = some (vp_cell _ _)
  rw [e1, h0]
  show some ((vp_cell (jAr g .double) (n, .inr (.inr (.inr (.inl f))))).setSlot q _) = _
  rw [vp_cell_d, vp_cell_d, arrV_store]
  congr 2
  funext j
  by_cases hj : j = q
  · subst hj
    simp [updV, vf_upd]
  · simp [updV, vf_upd, hj]
end LDR
/-- E isn't B -/
def jNc (E B : String) : Prop := ∃ i : Nat, gvn[i]? = some (Cond.not (.castable E B))
theorem jOk.nc {g : jG} (h : jOk g) {E B : String} (hi : jNc E B) : va_Nc E B (j0 g) := by
  obtain ⟨i, hi⟩ := hi
  obtain ⟨b, -, hg⟩ := h.at
  exact va_Nc.of (hg _ (List.mem_of_getElem? hi))
/-- a row of a table passes E by -/
def jPass (own E : String) (x : ExceptionTableEntry) : Prop := x.catchType ≠ 0 ∧ ∃ nm : String, Cond.classLink own x.catchType nm ∈ lw_tbl ∧ jNc E nm
abbrev noX : String → Option Nat → jS → jT → Prop := fun _ _ _ _ => False
def jWsW (M : jI) (hh : List (Nat × Nat × Nat × Nat)) : List Cond := [.codeWith M.1 M.2.1 M.2.2.1 M.2.2.2 hh]
/-- a method with a table, that throws nothing -/
def jMetW (l : Launch) (g : jG) (M : jI) (hh : List (Nat × Nat × Nat × Nat)) (d mc ms : Nat) (av : List Value) (z : Option Nat) (sk : jS) (t : jT) (P : Option Value → Option Nat → jS → jT → Prop) : Prop := vx_Met l M.1 (jWsW M hh) (jR d mc ms) (jPc g av z sk t) (jQ g P) (jXC g noX) mc ms (fun q => jb g ≤ q)
def jCaW (M : jI) (hh : List (Nat × Nat × Nat × Nat)) (n : Nat) : Prop := Cond.codeWith M.1 M.2.1 M.2.2.1 M.2.2.2 hh ∈ lw_tbl ∧ Cond.initialized M.1.cls ∈ lw_tbl ∧ (M.1.cls ≠ "java/lang/invoke/MethodHandle" ∧ M.1.cls ≠ "java/lang/invoke/VarHandle") ∧ (parseMethodDescriptor M.1.desc).map (fun d => d.parameters.length) = some n ∧ plainName M.1.cls = true
section CATCH
variable {p : Program} {l : Launch} {e : Env} {R : Room} {s : State} {m : MethodId} {args : Array Value} {below : List Frame} {meth : Method} {c : Code} {cells slots : Nat} {Q : State → Prop}
variable {M M2 : jI} {nL : Nat} {g : jG} {tb : Option (List ExceptionTableEntry)} {z : Option Nat} {sk : jS} {t : jT} {pc : Nat} {lv : List (Option Value)} {st : List Value} {mc ms : Nat} {hh : List (Nat × Nat × Nat × Nat)}
theorem j_catch {T : List ExceptionTableEntry} (X : jX p l s m args meth c M g (some T)) {E : String} (pre : List ExceptionTableEntry) (x : ExceptionTableEntry) (suf : List ExceptionTableEntry) (hsp : T = pre ++ x :: suf) (hpass : ∀ z9 ∈ pre, jPass M.1.cls E z9) (hx : covers x pc = true) (h0 : x.catchType ≠ 0) (hl : Cond.classLink M.1.cls x.catchType E ∈ lw_tbl) (hc : Cond.castable E E ∈ lw_tbl) {pc2 : Nat} (hpc : x.handlerPc = pc2) {rest : List Value} (kk : ∀ q : Nat, J p l e R s m args below meth c Q nL g cells slots z sk t pc2 lv [.ref q]) : JE p l e R s m args below meth c Q nL g cells slots E z sk t pc lv rest := by
  intro H locs ls ce q hM hF hFl hZ hL hce hcv hcl
  subst hpc
  have htb : c.exceptionTable.toList = T := X.2.2.2.2.2.2.2.2.2.2.2 T rfl
  refine vx_catch (own := M.1.cls) (name := E) X.own pre x suf (htb.trans hsp) (fun z9 hz9 => ?_) hx h0 (X.word hl rfl) (X.ok.face X.wm hc rfl) hce hcv hcl (kk q H locs ls hM hF hFl hZ hL)
  obtain ⟨h1, nm, h2, h3⟩ := hpass z9 hz9
  exact Or.inr ⟨h1, nm, X.word h2 rfl, (X.ok.nc h3).moved X.wm.alike⟩
theorem j_bodyW {n d : Nat} {av : List Value} {P : Option Value → Option Nat → jS → jT → Prop} (hC : jCaW M hh n) (hok : jOk g) (hst : l.stackTraces = false)
    (body : ∀ (p : Program) (e : Env) (s : State) (m : MethodId) (args : Array Value) (below : List Frame) (meth : Method) (c : Code), jX p l s m args meth c M g (some (tableOf hh)) → J p l e (jR d mc ms) s m args below meth c (jQx below args s g mc ms P noX) M.2.2.1 g 0 0 z sk t 0 lv []) (hlv : jLs 0 lv = lv_args 0 av := by rfl) (hnl : (lg_sl av).length ≤ M.2.2.1 := by exact Nat.le_of_ble_eq_true rfl) : jMetW l g M hh d mc ms av z sk t P := by
  refine vx_ofWH (cc := M.2.1) (maxL := M.2.2.1) (ret := M.2.2.2) (hh := hh) hC.2.2.2.2 rfl ?_
  intro p e s m args below meth c s₁ B hml hv
  obtain ⟨rfl, hW, hM, hF, hZ⟩ := hv
  have ht : c.exceptionTable.toList = tableOf hh := vx_table (x := M.1) B (atoms_spec (ws := jWsW M hh) B.pre _ List.mem_cons_self)
  rw [lg_entry_eq]
  refine body p e s m _ below meth c ⟨B.exec, B.bytes, hml, findClass_of_methodNamed B.named, B.notSynchronized, B.returns, (name_of_methodNamed B.named B.method).1, hst, hok, hW, hF, fun L hL => by cases hL; exact ht⟩ s.heap [] _ hM hF (fun q h => by cases h) hZ ?_
  unfold jL
  rw [hlv]
  exact lv_entry av hnl
theorem j_callSW_p (X : jX p l s m args meth c M g tb) {n d idx : Nat} {As rest : List Value} {P : Option Value → Option Nat → jS → jT → Prop} (hMet : jMetW l g M2 hh d mc ms As z sk t P) (hC : jCaW M2 hh n) (hl : Cond.methodLink M.1.cls idx M2.1 ∈ lw_tbl) (hin : Cond.static M2.1 ∈ lw_tbl) (hdg : decode M.2.1 pc = .ok (.invokestatic idx, 3)) (kk : ∀ (v : Option Value) (z2 : Option Nat) (sk2 : jS) (t2 : jT), P v z2 sk2 t2 → J p l e R s m args below meth c Q nL g (cells + mc) (slots + ms) z2 sk2 t2 (pc + 3) lv (v.toList ++ rest)) (hmc : cells + mc ≤ R.cells) (hms : slots + ms ≤ R.slots) (hst : st = As.reverse ++ rest := by rfl) (hfr : d + 1 ≤ R.frames := by exact Nat.le_of_ble_eq_true rfl) (hlo : 19 + M2.2.2.1 + 64 * d ≤ R.locals := by exact Nat.le_of_ble_eq_true rfl) (hlen : As.length = n := by rfl) (hnL : M.2.2.1 = nL := by rfl) (hrest : (rest.map fun v => v.category).sum ≤ 8 := by exact Nat.le_of_ble_eq_true rfl) : J p l e R s m args below meth c Q nL g cells slots z sk t pc lv st := by
  subst hst
  refine j_goX (a := As.toArray) (P := P) (PX := noX) (fun H locs ls hM hF hFl hZ hL => ?_) kk (fun _ _ _ _ h => h.elim)
  have hlen9 : ∀ sig, parseMethodDescriptor M2.1.desc = some sig → n = sig.parameters.length := fun sig h => by
    have h2 := hC.2.2.2.1
    rw [h] at h2
    exact (Option.some.inj h2).symm
  have hws : ∀ w ∈ jWsW M2 hh, ∀ (a' : Array Value) (U : State), s.WarmedH U.vm → w.before a' U = true := fun w hw a' U hW => by
    rw [show w = Cond.codeWith M2.1 M2.2.1 M2.2.2.1 M2.2.2.2 hh from List.mem_singleton.mp hw]
    exact X.ok.word (X.wm.trans hW) hC.1 rfl
  exact vx_runSX (hh := hh) X.fix hMet ⟨⟨rfl, rfl, hfr, by show 8 + (M2.2.2.1 + 11) + 64 * d ≤ R.locals; omega, hws, List.mem_singleton.mpr rfl⟩, X.word hC.1 rfl, X.word hC.2.1 rfl, hC.2.2.1, hlen9, X.word hl rfl, X.word hin rfl⟩ ⟨jPc.blind, fun U hU hW => jPc.mk X.wm hM hF hZ hU hW⟩ rfl hlen (hL.1.trans hnL.symm) rfl (lv_room hrest) hdg ⟨hmc, hms⟩
end CATCH
theorem nc_IA_IO : jNc "java/lang/IllegalArgumentException" "java/lang/IndexOutOfBoundsException" := ⟨129, by decide +kernel⟩
theorem nc_IS_IA : jNc "java/lang/IllegalStateException" "java/lang/IllegalArgumentException" := ⟨98, by decide +kernel⟩
theorem nc_IS_IO : jNc "java/lang/IllegalStateException" "java/lang/IndexOutOfBoundsException" := ⟨130, by decide +kernel⟩
theorem nc_UO_IA : jNc "java/lang/UnsupportedOperationException" "java/lang/IllegalArgumentException" := ⟨100, by decide +kernel⟩
theorem nc_UO_IS : jNc "java/lang/UnsupportedOperationException" "java/lang/IllegalStateException" := ⟨116, by decide +kernel⟩
theorem nc_UO_IO : jNc "java/lang/UnsupportedOperationException" "java/lang/IndexOutOfBoundsException" := ⟨132, by decide +kernel⟩
theorem nc_NS_IA : jNc "java/util/NoSuchElementException" "java/lang/IllegalArgumentException" := ⟨99, by decide +kernel⟩
theorem nc_NS_IO : jNc "java/util/NoSuchElementException" "java/lang/IndexOutOfBoundsException" := ⟨131, by decide +kernel⟩
theorem ps_IA_IO (s h q : Nat) : jPass RL "java/lang/IllegalArgumentException" ⟨s, h, q, 21⟩ := ⟨(by decide : (21 : Nat) ≠ 0), _, tw_3_115, nc_IA_IO⟩
theorem ps_IS_IA (s h q : Nat) : jPass RL "java/lang/IllegalStateException" ⟨s, h, q, 13⟩ := ⟨(by decide : (13 : Nat) ≠ 0), _, tw_2_183, nc_IS_IA⟩
theorem ps_IS_IO (s h q : Nat) : jPass RL "java/lang/IllegalStateException" ⟨s, h, q, 21⟩ := ⟨(by decide : (21 : Nat) ≠ 0), _, tw_3_115, nc_IS_IO⟩
theorem ps_UO_IA (s h q : Nat) : jPass RL "java/lang/UnsupportedOperationException" ⟨s, h, q, 13⟩ := ⟨(by decide : (13 : Nat) ≠ 0), _, tw_2_183, nc_UO_IA⟩
theorem ps_UO_IS (s h q : Nat) : jPass RL "java/lang/UnsupportedOperationException" ⟨s, h, q, 15⟩ := ⟨(by decide : (15 : Nat) ≠ 0), _, tw_2_184, nc_UO_IS⟩
theorem ps_UO_IO (s h q : Nat) : jPass RL "java/lang/UnsupportedOperationException" ⟨s, h, q, 21⟩ := ⟨(by decide : (21 : Nat) ≠ 0), _, tw_3_115, nc_UO_IO⟩
theorem ps_NS_IA (s h q : Nat) : jPass RL "java/util/NoSuchElementException" ⟨s, h, q, 13⟩ := ⟨(by decide : (13 : Nat) ≠ 0), _, tw_2_183, nc_NS_IA⟩
theorem ps_NS_IO (s h q : Nat) : jPass RL "java/util/NoSuchElementException" ⟨s, h, q, 21⟩ := ⟨(by decide : (21 : Nat) ≠ 0), _, tw_3_115, nc_NS_IO⟩
