theorem jOk.face {g : jG} (h : jOk g) {s : State} (hW : (j0 g).WarmedH s.vm) {args : Array Value} {w : Cond} (hw : w ∈ lw_tbl) (hg : (goodWord w || (w.onTables && w.faceAtom)) = true) : w.before args s = true := by
  rcases Bool.or_eq_true _ _ ▸ hg with hg | hg
  · exact h.word hW hw hg
  · obtain ⟨b, hb, -⟩ := h.at
    rw [Bool.and_eq_true] at hg
    have h1 := Cond.faceAtom_setVm hW.alike w hg.2 (hb w hw)
    rw [Cond.onTables_vm (A' := args) (U' := s) s.vm _ hg.1] at h1
    exact h1
/-- the words of a throw -/
def jThr (own cls : String) (ik ic : Nat) : Prop := (Cond.classLink own ik cls :: Cond.initialized cls :: vx_atS own ic cls ["java/lang/RuntimeException", "java/lang/Exception"]).all (fun w => decide (w ∈ lw_tbl) && (vx_ot w && (goodWord w || (w.onTables && w.faceAtom)))) = true ∧ Bundle.fit cls = true
theorem jThr.w {own cls : String} {ik ic : Nat} (h : jThr own cls ik ic) : ∀ w ∈ Cond.classLink own ik cls :: Cond.initialized cls :: vx_atS own ic cls ["java/lang/RuntimeException", "java/lang/Exception"], w ∈ lw_tbl ∧ vx_ot w = true ∧ (goodWord w || (w.onTables && w.faceAtom)) = true := fun w hw => by
  have h1 := List.all_eq_true.mp h.1 w hw
  rw [Bool.and_eq_true, Bool.and_eq_true, decide_eq_true_eq] at h1
  exact h1
theorem jM.grow {g : jG} {sk : jS} {t : jT} {H H1 : Heap} (h : jM g sk t H) (oq : ∀ q : Nat, q < H.size → H1[q]? = H[q]?) : jM g sk t H1 := fun i k hk => (h i k hk).kept (oq _ (h.lt hk))
theorem jF0.grow {g : jG} {H H1 : Heap} (h : jF0 g H) (z : H.size ≤ H1.size) (oq : ∀ q : Nat, q < H.size → H1[q]? = H[q]?) : jF0 g H1 := ⟨Nat.le_trans h.1 z, fun q hq => by rw [oq q (Nat.lt_of_lt_of_le hq h.1)]; exact h.2 q hq⟩
theorem jOk.txt {g : jG} (h : jOk g) {own tx : String} {k : Nat} (hw : Cond.stringRef own k tx ∈ lw_tbl) {i : Nat} (hi : gvn[i]? = some (Cond.exactly (.string own k) "java/lang/String")) : ∃ a, vk_R own k tx a (j0 g) := by
  obtain ⟨b, hb, hg⟩ := h.at
  obtain ⟨a, cc, cA, kA, q1, q2, q3, q4, q5, q6, -⟩ := Cond.exactly_spec (args := #[Value.ref b]) (first := j0 g) (o := none) (s := j0 g) (idx := []) (t := .string own k) (cls := "java/lang/String") (hg _ (List.mem_of_getElem? hi))
  exact ⟨a, vk_R.of (hb _ hw) q1⟩
section THR
variable {p : Program} {l : Launch} {e : Env} {R : Room} {s : State} {m : MethodId} {args : Array Value} {below : List Frame} {meth : Method} {c : Code} {cells slots : Nat} {Q : State → Prop}
variable {M M2 : jI} {nL : Nat} {g : jG} {z : Option Nat} {sk : jS} {t : jT} {pc : Nat} {lv : List (Option Value)} {st : List Value} {mc ms : Nat}
theorem j_throwS (X : jX p l s m args meth c M g (some [])) {cls tx : String} {ik is ic : Nat} {P : Option Value → Option Nat → jS → jT → Prop} {PX : String → Option Nat → jS → jT → Prop} (hT : jThr M.1.cls cls ik ic) (hR : ∃ q, vk_R M.1.cls is tx q (j0 g)) (d0 : decode M.2.1 pc = .ok (.new ik, 3)) (d3 : decode M.2.1 (pc + 3) = .ok (.dup, 1)) (d4 : decode M.2.1 (pc + 4) = .ok (.ldc is, 2)) (d6 : decode M.2.1 (pc + 6) = .ok (.invokespecial ic, 3)) (d9 : decode M.2.1 (pc + 9) = .ok (.athrow, 1)) (hP : PX cls none sk t) (hnL : M.2.2.1 = nL := by rfl) (hfr : 5 < R.frames := by exact Nat.le_of_ble_eq_true rfl) (hlo : (st.map fun v => v.category).sum + 82 ≤ R.locals := by exact Nat.le_of_ble_eq_true rfl) (hRc : cells + 1 ≤ R.cells := by exact Nat.le_of_ble_eq_true rfl) (hRs : slots + 6 ≤ R.slots := by exact Nat.le_of_ble_eq_true rfl) (hc : cells + 1 ≤ mc := by exact Nat.le_of_ble_eq_true rfl) (hs : slots + 6 ≤ ms := by exact Nat.le_of_ble_eq_true rfl) : J p l e R s m args below meth c (jQx below args s g mc ms P PX) nL g cells slots z sk t pc lv st := by
  obtain ⟨q, hR⟩ := hR
  have hw := hT.w
  have hW : ∀ w ∈ Cond.classLink M.1.cls ik cls :: Cond.initialized cls :: vx_atS M.1.cls ic cls ["java/lang/RuntimeException", "java/lang/Exception"], w.before args s = true := fun w hm => X.ok.face X.wm (hw w hm).1 (hw w hm).2.2
  refine j_with X (fun H locs ls hM hF hFl hZ hL hS => ?_)
  refine vx_throwS (A := jA g) (names := ["java/lang/RuntimeException", "java/lang/Exception"]) X.1 X.2.1 X.2.2.2.2.2.2.2.1 X.own hT.2 (by decide +kernel) (hW _ List.mem_cons_self) (hW _ (List.mem_cons_of_mem _ List.mem_cons_self)) (hR.warm X.wm) (fun w hm => hW w (List.mem_cons_of_mem _ (List.mem_cons_of_mem _ hm))) (fun w hm => (hw w hm).2.1) ((X.ok.un.moved X.wm.alike).kept X.old) ((X.ok.su.moved X.wm.alike).kept X.old) hS ((hL.1.trans hnL.symm).trans X.2.2.1.symm) d0 d3 d4 d6 d9 (fun x hx => ?_) hfr hlo hRc hRs X.lk (fun u hu h1 h2 => ⟨none, sk, t, hP, hM.grow h2, hF.grow h1 h2, fun n hn => by cases hn⟩) hFl hc hs
  rw [X.2.2.2.2.2.2.2.2.2.2.2 [] rfl] at hx
  cases hx
theorem j_throwSW (X : jX p l s m args meth c M g (some [])) {cls tx : String} {ik is ic : Nat} {P : Option Value → Option Nat → jS → jT → Prop} {PX : String → Option Nat → jS → jT → Prop} (hT : jThr M.1.cls cls ik ic) (hR : ∃ q, vk_R M.1.cls is tx q (j0 g)) (d0 : decode M.2.1 pc = .ok (.new ik, 3)) (d3 : decode M.2.1 (pc + 3) = .ok (.dup, 1)) (d4 : decode M.2.1 (pc + 4) = .ok (.ldc_w is, 3)) (d6 : decode M.2.1 (pc + 7) = .ok (.invokespecial ic, 3)) (d9 : decode M.2.1 (pc + 10) = .ok (.athrow, 1)) (hP : PX cls none sk t) (hnL : M.2.2.1 = nL := by rfl) (hfr : 5 < R.frames := by exact Nat.le_of_ble_eq_true rfl) (hlo : (st.map fun v => v.category).sum + 82 ≤ R.locals := by exact Nat.le_of_ble_eq_true rfl) (hRc : cells + 1 ≤ R.cells := by exact Nat.le_of_ble_eq_true rfl) (hRs : slots + 6 ≤ R.slots := by exact Nat.le_of_ble_eq_true rfl) (hc : cells + 1 ≤ mc := by exact Nat.le_of_ble_eq_true rfl) (hs : slots + 6 ≤ ms := by exact Nat.le_of_ble_eq_true rfl) : J p l e R s m args below meth c (jQx below args s g mc ms P PX) nL g cells slots z sk t pc lv st := by
  obtain ⟨q, hR⟩ := hR
  have hw := hT.w
  have hW : ∀ w ∈ Cond.classLink M.1.cls ik cls :: Cond.initialized cls :: vx_atS M.1.cls ic cls ["java/lang/RuntimeException", "java/lang/Exception"], w.before args s = true := fun w hm => X.ok.face X.wm (hw w hm).1 (hw w hm).2.2
  refine j_with X (fun H locs ls hM hF hFl hZ hL hS => ?_)
  refine vx_throwSW (A := jA g) (names := ["java/lang/RuntimeException", "java/lang/Exception"]) X.1 X.2.1 X.2.2.2.2.2.2.2.1 X.own hT.2 (by decide +kernel) (hW _ List.mem_cons_self) (hW _ (List.mem_cons_of_mem _ List.mem_cons_self)) (hR.warm X.wm) (fun w hm => hW w (List.mem_cons_of_mem _ (List.mem_cons_of_mem _ hm))) (fun w hm => (hw w hm).2.1) ((X.ok.un.moved X.wm.alike).kept X.old) ((X.ok.su.moved X.wm.alike).kept X.old) hS ((hL.1.trans hnL.symm).trans X.2.2.1.symm) d0 d3 d4 d6 d9 (fun x hx => ?_) hfr hlo hRc hRs X.lk (fun u hu h1 h2 => ⟨none, sk, t, hP, hM.grow h2, hF.grow h1 h2, fun n hn => by cases hn⟩) hFl hc hs
  rw [X.2.2.2.2.2.2.2.2.2.2.2 [] rfl] at hx
  cases hx
end THR
/-- a throw whose constructor links the one above it by another index than the rest: its words -/
def ntTail (own : String) (ic : Nat) (C : String) : List Cond := [.methodLink own ic (Bundle.initS C), .instantiable C 6, .castable C C, .selects C Bundle.tFill0 Bundle.tFill0, .selects C Bundle.tFill Bundle.tFill, .lays C Bundle.tN "cause" "Ljava/lang/Throwable;", .lays C Bundle.tN "stackTrace" Bundle.steD, .lays C Bundle.tN "suppressedExceptions" Bundle.listD, .lays C Bundle.tN "detailMessage" "Ljava/lang/String;", .isRef (.static Bundle.tN "UNASSIGNED_STACK" Bundle.steD), .isRef (.static Bundle.tN "SUPPRESSED_SENTINEL" Bundle.listD), .fieldLink Bundle.tN 198 Bundle.tN "backtrace" "Ljava/lang/Object;", .lays Bundle.tN Bundle.tN "backtrace" "Ljava/lang/Object;", .lays C Bundle.tN "backtrace" "Ljava/lang/Object;"]
def ntAt (own : String) (ic : Nat) (C : String) (ix : Nat) (rx : ByteArray) (D : String) (names : List String) : List Cond := Bundle.throwableAtoms ++ (Bundle.throwableSAtoms ++ (Bundle.passSAtoms C D ix rx ++ (Bundle.chainSAtoms D names ++ ntTail own ic C)))
section NT
variable {p : Program} {l : Launch} {e : Env} {R : Room} {s : State} {m₀ : MethodId} {args : Array Value} {below : List Frame} {meth : Method} {c : Code} {U0 : State} {locs : List Loc} {cells slots : Nat}
theorem nt_ctor (X : Stand p l e R s m₀ args below meth c U0 locs cells slots) (hexec : p.tables.exec = Jvm.exec) (htr : e.platform.stackTraces = false) {own cls D : String} {names : List String} {ic ix : Nat} {rx : ByteArray}
    (x0 : decode rx 0 = .ok (.aload_n 0, 1)) (x1 : decode rx 1 = .ok (.aload_n 1, 1)) (x2 : decode rx 2 = .ok (.invokespecial ix, 3)) (x5 : decode rx 5 = .ok (.return_, 1))
    (hown : s.vm.findClass own = some m₀.cls) (hcls : Bundle.fit cls = true) (hD : Bundle.fit D = true) (hnames : ∀ n ∈ names, Bundle.fit n = true)
    (h : ∀ w ∈ ntAt own ic cls ix rx D names, w.before args s = true)
    (hlocs : ∀ x ∈ locs, ∀ cell, s.heap[x.base]? = some cell → cell.vm.isStatics = false)
    {a : Addr} {cX : ClassId} {kX : Class} (hfoundX : s.vm.findClass cls = some cX) (hkX : s.vm.classes[cX]? = some kX) (hcell : U0.heap[a]? = some (freshCell cX kX)) (hnew : s.heap.size ≤ a)
    {msg : Value} (hmsg : msg.isRef = true)
    {g : JFrame} (hg : g.method = m₀) (hsize : g.locals.size = c.maxLocals) (hlocked : g.locked = none) (hentered : g.entered = []) {rest : List Value} (hstack : g.stack = msg :: .ref a :: .ref a :: rest)
    (hd6 : decode c.code g.pc = .ok (.invokespecial ic, 3)) (hd9 : decode c.code (g.pc + 3) = .ok (.athrow, 1)) (hout : ∀ x ∈ c.exceptionTable.toList, covers x (g.pc + 3) = false)
    (hRframes : names.length + 4 < R.frames) (hRlocals : 2 * g.monitorRoom + ((Value.ref a :: rest).map fun v => v.category).sum + (13 * (names.length + 2) + 42) ≤ R.locals) (hlocks : meth.locks = false) :
    ∃ U : State, Steps p.tables e below (U0.setTop g) U ∧ U.status = .running ∧ Ended U below (.threw a) ∧ s.WarmedH U.vm ∧ s.sameButNew ({ U with vm := s.vm } : State) locs cells slots ∧ ∃ ce, U.heap[a]? = some ce ∧ ce.cls = cX ∧ ce.vm = .none := by
  have howns : e.platform.frameOwnsMonitors = true := by rw [X.admits.platform]
  have hfin : e.platform.finalization = false := by rw [X.admits.platform]
  have hpl : e.platform.magicAccessors = ({} : Platform).magicAccessors := by rw [X.admits.platform]
  have hA : ∀ w ∈ Bundle.throwableAtoms, w.before args s = true := fun w hw => h w (List.mem_append_left _ hw)
  have hB : ∀ w ∈ Bundle.throwableSAtoms, w.before args s = true := fun w hw => h w (List.mem_append_right _ (List.mem_append_left _ hw))
  have hC : ∀ w ∈ Bundle.passSAtoms cls D ix rx, w.before args s = true := fun w hw => h w (List.mem_append_right _ (List.mem_append_right _ (List.mem_append_left _ hw)))
  have hE : ∀ w ∈ Bundle.chainSAtoms D names, w.before args s = true := fun w hw => h w (List.mem_append_right _ (List.mem_append_right _ (List.mem_append_right _ (List.mem_append_left _ hw))))
  have hT : ∀ w ∈ ntTail own ic cls, w.before args s = true := fun w hw => h w (List.mem_append_right _ (List.mem_append_right _ (List.mem_append_right _ (List.mem_append_right _ hw))))
  have tl : ∀ (i : Nat) (w : Cond), (ntTail own ic cls)[i]? = some w → w.holds args s none s [] = true := fun i w hi => hT w (List.mem_of_getElem? hi)
  obtain ⟨T, Z0, L, -, Y⟩ := ThrowableC.of_atoms (args := args) howns hfin hpl hA
  obtain ⟨Z, M, LZ, LM, hnZ⟩ := Init0T.ofS_atoms (args := args) hpl L Y hB
  obtain ⟨P1, L1, hP1m, hP1s⟩ := PassC.ofS_atoms (args := args) (s := s) hpl (Bundle.fit_spec hcls).1 (Bundle.fit_spec hD).2 x0 x1 x2 x5 hC
  obtain ⟨P2, Ps, hlen, L2, hL, hP2m, hl2, hlink⟩ := Bundle.chainS (args := args) hpl hnZ names D hD hnames hE
  have hlink1 : P1.sup = P2.m := Option.some.inj (hP1s.symm.trans hP2m)
  have hfound : s.vm.findClass cls = some P1.m.cls := findClass_of_methodNamed hP1m
  cases Option.some.inj (hfoundX.symm.trans hfound)
  obtain ⟨c1, kX', hc1, hk, hord, -, -, hn6⟩ := Cond.instantiable_spec (tl 1 (.instantiable cls 6) rfl)
  cases Option.some.inj (hc1.symm.trans hfound)
  cases Option.some.inj (hkX.symm.trans hk)
  have sel : ∀ (x : MethodName) (f : MethodId), s.methodNamed? x = some f → (x.cls ≠ "java/lang/invoke/MethodHandle" ∧ x.cls ≠ "java/lang/invoke/VarHandle") → (Cond.selects cls x x).holds args s none s [] = true → selectMethod e.platform s.vm P1.m.cls f = .method f := by
    intro x f hx hne hs
    obtain ⟨c2, r2, m2, q1, q2, q3, q4, -⟩ := Cond.selects_spec hs
    cases Option.some.inj (q1.symm.trans hfound)
    cases Option.some.inj (q2.symm.trans (State.methodFound?_of_named hx hne))
    cases Option.some.inj (q3.symm.trans hx)
    rw [Launch.admits_selectMethod X.admits]; exact q4
  have hsel0 := sel _ _ Y.fill0 (by decide) (tl 3 (.selects cls Bundle.tFill0 Bundle.tFill0) rfl)
  have hselF := sel _ _ Y.fill (by decide) (tl 4 (.selects cls Bundle.tFill Bundle.tFill) rfl)
  obtain ⟨cellS0, hcS0, hiss⟩ := Y.statics
  obtain ⟨u0, hu0⟩ := Cond.staticRefV Y.unassigned L.unassignedStatic L.statics hcS0 hiss (tl 9 (.isRef (.static Bundle.tN "UNASSIGNED_STACK" Bundle.steD)) rfl)
  obtain ⟨sen, hsen⟩ := Cond.staticRefV Y.sentinel L.sentinelStatic L.statics hcS0 hiss (tl 10 (.isRef (.static Bundle.tN "SUPPRESSED_SENTINEL" Bundle.listD)) rfl)
  obtain ⟨ci198, i198, fB, hk198, hg198, ha198, hsB, -, hnB, htB, hffB⟩ := Cond.ownField (t := .object "java/lang/Object") Y.found L.cls (by decide +kernel) (tl 11 (.fieldLink Bundle.tN 198 Bundle.tN "backtrace" "Ljava/lang/Object;") rfl) (tl 12 (.lays Bundle.tN Bundle.tN "backtrace" "Ljava/lang/Object;") rfl) e.platform hpl
  obtain ⟨cellS, hcS', heS, -, hkeep⟩ := X.same.2.2.2.2.2 T.aS cellS0 hcS0
  have hcellS : U0.heap[T.aS]? = some cellS := hcS'
  have hout' : ∀ i, (⟨T.aS, i⟩ : Loc) ∉ locs := fun i hmem => by
    have := hlocs _ hmem cellS0 hcS0
    rw [hiss] at this; cases this
  have hknownS : cellS.vm ≠ .unknown := by
    rw [heS]; intro hu
    rw [show cellS0.vm = .unknown from hu] at hiss
    cases hiss
  have hneS : T.aS ≠ a := Nat.ne_of_lt (Nat.lt_of_lt_of_le (Array.getElem?_eq_some_iff.mp hcS0).1 hnew)
  obtain ⟨iM, hffM⟩ := Y.msg
  obtain ⟨tyC, dC, hdC, hdnC⟩ := Cond.laysAt hfound hk Y.cause (tl 5 (.lays cls Bundle.tN "cause" "Ljava/lang/Throwable;") rfl)
  obtain ⟨tyS, dS, hdS, hdnS⟩ := Cond.laysAt hfound hk Y.stack (tl 6 (.lays cls Bundle.tN "stackTrace" Bundle.steD) rfl)
  obtain ⟨tyP, dP, hdP, hdnP⟩ := Cond.laysAt hfound hk Y.supp (tl 7 (.lays cls Bundle.tN "suppressedExceptions" Bundle.listD) rfl)
  obtain ⟨tyM, -⟩ := Cond.laysAt hfound hk hffM (tl 8 (.lays cls Bundle.tN "detailMessage" "Ljava/lang/String;") rfl)
  obtain ⟨tyB, dB, hdB, hdnB⟩ := Cond.laysAt hfound hk hffB (tl 13 (.lays cls Bundle.tN "backtrace" "Ljava/lang/Object;") rfl)
  have bC := Cond.laysApart hdB hdC hdnB hdnC (by rw [hnB, Y.causeName]; decide)
  have bS := Cond.laysApart hdB hdS hdnB hdnS (by rw [hnB, Y.stackName]; decide)
  have bP := Cond.laysApart hdB hdP hdnB hdnP (by rw [hnB, Y.suppName]; decide)
  have hskip : SkipFacts T e.platform s (fun u => u) u0 ((preparedCellV T.toThrowableT (freshCell P1.m.cls kX) a u0 sen).withEntry U0.cur) := by
    refine ⟨{ ci198 := ci198, i198 := i198, fBack := fB }, ⟨hk198, hg198, ha198, hsB⟩, ?_, fun _ _ => rfl⟩
    have hdef := fresh_default (c := P1.m.cls) tyB
    rw [htB] at hdef
    simpa [preparedCellV, Cell.setSlot, Cell.withEntry, Array.getElem?_setIfInBounds, bC, bS, bP, bC.symm, bS.symm, bP.symm, defaultValue] using hdef
  obtain ⟨tm, methC, cdC, kC, vm₁, hnC, -, -, -, -, -, -, -, hW₁, st1⟩ := Steps.initColdS (tb := p.tables) (e := e) (below := below) (s := s) (U := U0) X.here hexec X.warmed hpl hown (t := Bundle.initS cls) rfl rfl (Bundle.fit_spec hcls).2
    (tl 0 (.methodLink own ic (Bundle.initS cls)) rfl) (hC (.instanceMethod (Bundle.initS cls)) List.mem_cons_self) (bytes := rx) (maxL := 2) (hC (.code (Bundle.initS cls) rx 2 none) (List.mem_cons_of_mem _ List.mem_cons_self))
    (f := g) hg (a := a) (msg := msg) (rest := .ref a :: rest) hstack hd6
  cases Option.some.inj (hnC.symm.trans hP1m)
  obtain ⟨vm₂, X₂, st2⟩ := (X.noted hW₁).ctorMessageOffV hexec (g := { g with stack := .ref a :: rest }) hg hsize T L Z LZ M LM (P1 :: P2 :: Ps)
    (fun P hP => by
      rcases List.mem_cons.mp hP with rfl | hP
      · exact L1
      · rcases List.mem_cons.mp hP with rfl | hP
        · exact L2
        · exact hL P hP) ⟨hlink1, hl2, hlink⟩ (u0 := u0) (sen := sen) (self := a) hmsg (cell := freshCell P1.m.cls kX) (cellS := cellS)
    hcell (fun _ => by simp) (by simp) rfl rfl hsel0 hselF hcellS hneS hknownS (by rw [hkeep _ (hout' _)]; exact hu0) (by rw [hkeep _ (hout' _)]; exact hsen)
    (Takes.of_laid hk hord tyC (by rw [Y.causeType]; rfl)) (Takes.of_laid hk hord tyS (by rw [Y.stackType]; exact fits_refV_array _ u0)) (Takes.of_laid hk hord tyP (by rw [Y.suppType]; exact fits_refV_object _ sen))
    (Takes.of_laid hk hord tyM (by rw [Y.msgType]; exact fits_refV_object _ ⟨msg, hmsg⟩)) Y.objLocals hskip htr [] hd6
    (by simp only [List.length_cons, hlen]; omega) (by simp only [List.length_cons, hlen]; exact hRlocals)
  obtain ⟨hwalk, hrun, hended, hWU, hsame⟩ := X₂.athrowLeaves hexec (g := { g with stack := .ref a :: rest, pc := g.pc + 3 }) hg hlocked hentered hout (a := a) (rest := rest) rfl hd9
  have hlt : a < ((U0.setVm vm₁).setVm vm₂).heap.size := (Array.getElem?_eq_some_iff.mp hcell).1
  refine ⟨_, st1 _ (fun acts => ?_), hrun, hended, hWU, hsame.weaken (fun y hy hlt' => ?_) (Nat.le_refl _) (Nat.le_refl _), _, heapAt_setCell_self (s := (U0.setVm vm₁).setVm vm₂) (plainBareV T.toThrowableT (freshCell P1.m.cls kX) a u0 sen msg) hlt, rfl, rfl⟩
  · rw [doInvoke_state]
    exact st2 _ hwalk
  · rcases List.mem_append.mp hy with h1 | h1
    · exact h1
    · exfalso
      have hb : y.base = a := by
        simp only [List.mem_cons, List.not_mem_nil, or_false] at h1
        rcases h1 with rfl | rfl | rfl | rfl | rfl <;> rfl
      rw [hb] at hlt'
      exact Nat.not_lt.mpr hnew hlt'
end NT
section THN
variable {p : Program} {l : Launch} {e : Env} {R : Room} {s : State} {m : MethodId} {args : Array Value} {below : List Frame} {meth : Method} {c : Code} {H : Heap} {locs : List Loc} {cells slots : Nat} {free : Addr → Prop} {ls : Array Slot} {rest : List Value} {Qc : Array Value → State → Outcome → State → Prop} {XC : String → State → State → Prop}
def ntA9 (own : String) (ic : Nat) (C : String) (ix : Nat) (rx : ByteArray) (D : String) (names : List String) : List Cond := (ntAt own ic C ix rx D names).filter vx_no
theorem nt_throw {cc : ByteArray} {pc : Nat} (hexec : p.tables.exec = Jvm.exec) (hb : c.code = cc) (hl : l.stackTraces = false) {own cls D text : String} {names : List String} {ik is ic ix mc ms sa : Nat} {rx : ByteArray} {A : Nat → Prop}
    (x0 : decode rx 0 = .ok (.aload_n 0, 1)) (x1 : decode rx 1 = .ok (.aload_n 1, 1)) (x2 : decode rx 2 = .ok (.invokespecial ix, 3)) (x5 : decode rx 5 = .ok (.return_, 1))
    (hown : s.vm.findClass own = some m.cls) (hcls : Bundle.fit cls = true) (hD : Bundle.fit D = true) (hnames : ∀ n ∈ names, Bundle.fit n = true)
    (hw : ∀ w ∈ Cond.classLink own ik cls :: Cond.initialized cls :: ntA9 own ic cls ix rx D names, w.before args s = true ∧ vx_ot w = true) (hstr : vk_R own is text sa s) (hins : Cond.instantiable cls 6 ∈ ntA9 own ic cls ix rx D names)
    (hU : vx_Zq Bundle.tN "UNASSIGNED_STACK" Bundle.steD A s s.heap) (hN : vx_Zq Bundle.tN "SUPPRESSED_SENTINEL" Bundle.listD A s s.heap) (hS : va_S A s.heap H locs) (hsize : ls.size = c.maxLocals)
    (d0 : decode cc pc = .ok (.new ik, 3)) (d3 : decode cc (pc + 3) = .ok (.dup, 1)) (d4 : decode cc (pc + 4) = .ok (.ldc is, 2)) (d6 : decode cc (pc + 6) = .ok (.invokespecial ic, 3)) (d9 : decode cc (pc + 9) = .ok (.athrow, 1))
    (hout : ∀ x ∈ c.exceptionTable.toList, covers x (pc + 9) = false)
    (hRf : names.length + 4 < R.frames) (hRl : (rest.map fun v => v.category).sum + (13 * (names.length + 2) + 43) ≤ R.locals) (hRc : cells + 1 ≤ R.cells) (hRs : slots + 6 ≤ R.slots) (hlocks : meth.locks = false)
    (hx : ∀ t : State, s.vm.Alike t.vm → H.size ≤ t.heap.size → (∀ q : Nat, q < H.size → t.heap[q]? = H[q]?) → XC cls s t)
    (hf : ∀ z ∈ locs, free z.base) (hc : cells + 1 ≤ mc) (hs : slots + 6 ≤ ms) :
    W p l e R s m args below meth c H locs cells slots (vx_MQ below Qc XC args s mc ms free) (F0 m pc ls rest) := by
  intro T hT X
  have htr : e.platform.stackTraces = false := (show e.platform.stackTraces = l.stackTraces by rw [X.admits.platform]).trans hl
  have Y := vx_rebase X (R' := { frames := R.frames, locals := R.locals, cells := 1, slots := 6 }) (Nat.le_refl _) (Nat.le_refl _) hRc hRs
  obtain ⟨s', hA⟩ : ∃ z, z = (T.setVm s.vm).setFrames (.invoking m args :: below) := ⟨_, rfl⟩
  rw [← hA] at Y
  have hvm : s'.vm = s.vm := by rw [hA]; rfl
  have hhp : s'.heap = H := by rw [hA]; exact hT
  have hW0 : s.WarmedH s'.vm := by rw [hvm]; exact State.WarmedH.refl s
  have hw' : ∀ w ∈ Cond.classLink own ik cls :: Cond.initialized cls :: ntA9 own ic cls ix rx D names, w.before args s' = true := fun w hm => vx_ot_at hW0 hvm.symm (hw w hm).2 (hw w hm).1
  have hU' : vx_Zq Bundle.tN "UNASSIGNED_STACK" Bundle.steD A s' s'.heap := by rw [hhp]; exact vx_Zq.moved hW0.alike (hU.kept hS.2.1)
  have hN' : vx_Zq Bundle.tN "SUPPRESSED_SENTINEL" Bundle.listD A s' s'.heap := by rw [hhp]; exact vx_Zq.moved hW0.alike (hN.kept hS.2.1)
  have h : ∀ w ∈ ntAt own ic cls ix rx D names, w.before args s' = true := vx_own (fun w hm => hw' w (List.mem_cons_of_mem _ (List.mem_cons_of_mem _ hm))) (vx_isRefq hU'.1) (vx_isRefq hN'.1) hU'.2.word hN'.2.word
  have hown' : s'.vm.findClass own = some m.cls := by rw [hvm]; exact hown
  obtain ⟨vm₁, cX, kX, hfX, hkX, -, -, X₁, st1⟩ := Y.newCold hexec (own := own) (C := cls) (index := ik) (n := 6) hown' (hw' _ List.mem_cons_self) (hw' _ (List.mem_cons_of_mem _ (List.mem_cons_of_mem _ hins))) (hw' _ (List.mem_cons_of_mem _ List.mem_cons_self))
    (g := F0 m pc ls rest) rfl (by rw [hb]; exact d0) (Nat.le_refl _) (Nat.le_refl _)
  generalize hT1 : (T.setVm vm₁).pushCell { cls := cX, slots := kX.instanceTypes.map defaultValue, vm := .none } = T1 at X₁ st1
  have hcat : (Value.ref T.heap.size).category = 1 := rfl
  have hcellA : T1.heap[T.heap.size]? = some (freshCell cX kX) := by rw [← hT1]; exact State.heap_pushCell_size _ _
  have d3' : decode c.code (pc + 3) = .ok (.dup, 1) := by rw [hb]; exact d3
  have d4' : decode c.code (pc + 4) = .ok (.ldc is, 2) := by rw [hb]; exact d4
  have hstr' : vk_R own is text sa s' := vk_R.warm hW0 hstr
  obtain ⟨U, hsteps, hrun, hend, hW, hsame, ce, hce, hcc, hcv⟩ := nt_ctor X₁ hexec htr x0 x1 x2 x5 (ic := ic) hown' hcls hD hnames h (fun x hx => nomatch hx) hfX hkX hcellA (by rw [hhp, hT]; exact Nat.le_refl _) (msg := .ref sa) rfl
    (g := { method := m, pc := pc + 6, locals := ls, stack := .ref sa :: .ref T.heap.size :: .ref T.heap.size :: rest, locked := none }) rfl hsize rfl rfl (rest := rest) rfl
    (by rw [hb]; exact d6) (by rw [hb]; exact d9) hout hRf (by simp only [List.map_cons, List.sum_cons, hcat]; omega) hlocks
  obtain ⟨f1, f2⟩ := vx_frame hsame
  rw [hhp] at f1 f2
  have hWs : s.WarmedH U.vm := State.WarmedH.trans hW0 hW
  have hcl : s.vm.findClass cls = some ce.cls := by rw [hcc, ← hvm]; exact hfX
  have hall : s.sameButNew ({ U with vm := s.vm } : State) locs mc ms := by
    subst hA
    obtain ⟨e1, e2⟩ := hsame
    rw [State.setFrames_setFrames] at e1
    have h2 : (T.setVm s.vm).sameButNew ({ U with vm := s.vm } : State) [] (0 + 1) (0 + 6) := ⟨e1, e2⟩
    have h3 := X.same.trans h2
    rw [List.append_nil] at h3
    exact h3.mono hc hs
  refine ⟨U, ?_, .threw T.heap.size, hrun, hend, Or.inr ⟨T.heap.size, rfl, cls, ce, locs, hx U hWs.alike f1 (fun q hq => f2 q hq (fun z hz => nomatch hz)), hce, hcv, hcl, hWs, hall, hf⟩⟩
  refine st1 _ ?_
  show Steps p.tables e below (T1.setTop { method := m, pc := pc + 3, locals := ls, stack := .ref T.heap.size :: rest, locked := none }) _
  jvm_step X₁.here [X₁.here.top, hexec, d3', Value.category]
  exact X₁.ldcString hexec (own := own) (text := text) (index := is) (a := sa) hown' hstr'.1 hstr'.2
    (g := { method := m, pc := pc + 4, locals := ls, stack := .ref T.heap.size :: .ref T.heap.size :: rest, locked := none }) rfl d4' _ hsteps
theorem nt_throwW {cc : ByteArray} {pc : Nat} (hexec : p.tables.exec = Jvm.exec) (hb : c.code = cc) (hl : l.stackTraces = false) {own cls D text : String} {names : List String} {ik is ic ix mc ms sa : Nat} {rx : ByteArray} {A : Nat → Prop}
    (x0 : decode rx 0 = .ok (.aload_n 0, 1)) (x1 : decode rx 1 = .ok (.aload_n 1, 1)) (x2 : decode rx 2 = .ok (.invokespecial ix, 3)) (x5 : decode rx 5 = .ok (.return_, 1))
    (hown : s.vm.findClass own = some m.cls) (hcls : Bundle.fit cls = true) (hD : Bundle.fit D = true) (hnames : ∀ n ∈ names, Bundle.fit n = true)
    (hw : ∀ w ∈ Cond.classLink own ik cls :: Cond.initialized cls :: ntA9 own ic cls ix rx D names, w.before args s = true ∧ vx_ot w = true) (hstr : vk_R own is text sa s) (hins : Cond.instantiable cls 6 ∈ ntA9 own ic cls ix rx D names)
    (hU : vx_Zq Bundle.tN "UNASSIGNED_STACK" Bundle.steD A s s.heap) (hN : vx_Zq Bundle.tN "SUPPRESSED_SENTINEL" Bundle.listD A s s.heap) (hS : va_S A s.heap H locs) (hsize : ls.size = c.maxLocals)
    (d0 : decode cc pc = .ok (.new ik, 3)) (d3 : decode cc (pc + 3) = .ok (.dup, 1)) (d4 : decode cc (pc + 4) = .ok (.ldc_w is, 3)) (d6 : decode cc (pc + 7) = .ok (.invokespecial ic, 3)) (d9 : decode cc (pc + 10) = .ok (.athrow, 1))
    (hout : ∀ x ∈ c.exceptionTable.toList, covers x (pc + 10) = false)
    (hRf : names.length + 4 < R.frames) (hRl : (rest.map fun v => v.category).sum + (13 * (names.length + 2) + 43) ≤ R.locals) (hRc : cells + 1 ≤ R.cells) (hRs : slots + 6 ≤ R.slots) (hlocks : meth.locks = false)
    (hx : ∀ t : State, s.vm.Alike t.vm → H.size ≤ t.heap.size → (∀ q : Nat, q < H.size → t.heap[q]? = H[q]?) → XC cls s t)
    (hf : ∀ z ∈ locs, free z.base) (hc : cells + 1 ≤ mc) (hs : slots + 6 ≤ ms) :
    W p l e R s m args below meth c H locs cells slots (vx_MQ below Qc XC args s mc ms free) (F0 m pc ls rest) := by
  intro T hT X
  have htr : e.platform.stackTraces = false := (show e.platform.stackTraces = l.stackTraces by rw [X.admits.platform]).trans hl
  have Y := vx_rebase X (R' := { frames := R.frames, locals := R.locals, cells := 1, slots := 6 }) (Nat.le_refl _) (Nat.le_refl _) hRc hRs
  obtain ⟨s', hA⟩ : ∃ z, z = (T.setVm s.vm).setFrames (.invoking m args :: below) := ⟨_, rfl⟩
  rw [← hA] at Y
  have hvm : s'.vm = s.vm := by rw [hA]; rfl
  have hhp : s'.heap = H := by rw [hA]; exact hT
  have hW0 : s.WarmedH s'.vm := by rw [hvm]; exact State.WarmedH.refl s
  have hw' : ∀ w ∈ Cond.classLink own ik cls :: Cond.initialized cls :: ntA9 own ic cls ix rx D names, w.before args s' = true := fun w hm => vx_ot_at hW0 hvm.symm (hw w hm).2 (hw w hm).1
  have hU' : vx_Zq Bundle.tN "UNASSIGNED_STACK" Bundle.steD A s' s'.heap := by rw [hhp]; exact vx_Zq.moved hW0.alike (hU.kept hS.2.1)
  have hN' : vx_Zq Bundle.tN "SUPPRESSED_SENTINEL" Bundle.listD A s' s'.heap := by rw [hhp]; exact vx_Zq.moved hW0.alike (hN.kept hS.2.1)
  have h : ∀ w ∈ ntAt own ic cls ix rx D names, w.before args s' = true := vx_own (fun w hm => hw' w (List.mem_cons_of_mem _ (List.mem_cons_of_mem _ hm))) (vx_isRefq hU'.1) (vx_isRefq hN'.1) hU'.2.word hN'.2.word
  have hown' : s'.vm.findClass own = some m.cls := by rw [hvm]; exact hown
  obtain ⟨vm₁, cX, kX, hfX, hkX, -, -, X₁, st1⟩ := Y.newCold hexec (own := own) (C := cls) (index := ik) (n := 6) hown' (hw' _ List.mem_cons_self) (hw' _ (List.mem_cons_of_mem _ (List.mem_cons_of_mem _ hins))) (hw' _ (List.mem_cons_of_mem _ List.mem_cons_self))
    (g := F0 m pc ls rest) rfl (by rw [hb]; exact d0) (Nat.le_refl _) (Nat.le_refl _)
  generalize hT1 : (T.setVm vm₁).pushCell { cls := cX, slots := kX.instanceTypes.map defaultValue, vm := .none } = T1 at X₁ st1
  have hcat : (Value.ref T.heap.size).category = 1 := rfl
  have hcellA : T1.heap[T.heap.size]? = some (freshCell cX kX) := by rw [← hT1]; exact State.heap_pushCell_size _ _
  have d3' : decode c.code (pc + 3) = .ok (.dup, 1) := by rw [hb]; exact d3
  have d4' : decode c.code (pc + 4) = .ok (.ldc_w is, 3) := by rw [hb]; exact d4
  have hstr' : vk_R own is text sa s' := vk_R.warm hW0 hstr
  obtain ⟨U, hsteps, hrun, hend, hW, hsame, ce, hce, hcc, hcv⟩ := nt_ctor X₁ hexec htr x0 x1 x2 x5 (ic := ic) hown' hcls hD hnames h (fun x hx => nomatch hx) hfX hkX hcellA (by rw [hhp, hT]; exact Nat.le_refl _) (msg := .ref sa) rfl
    (g := { method := m, pc := pc + 7, locals := ls, stack := .ref sa :: .ref T.heap.size :: .ref T.heap.size :: rest, locked := none }) rfl hsize rfl rfl (rest := rest) rfl
    (by rw [hb]; exact d6) (by rw [hb]; exact d9) hout hRf (by simp only [List.map_cons, List.sum_cons, hcat]; omega) hlocks
  obtain ⟨f1, f2⟩ := vx_frame hsame
  rw [hhp] at f1 f2
  have hWs : s.WarmedH U.vm := State.WarmedH.trans hW0 hW
  have hcl : s.vm.findClass cls = some ce.cls := by rw [hcc, ← hvm]; exact hfX
  have hall : s.sameButNew ({ U with vm := s.vm } : State) locs mc ms := by
    subst hA
    obtain ⟨e1, e2⟩ := hsame
    rw [State.setFrames_setFrames] at e1
    have h2 : (T.setVm s.vm).sameButNew ({ U with vm := s.vm } : State) [] (0 + 1) (0 + 6) := ⟨e1, e2⟩
    have h3 := X.same.trans h2
    rw [List.append_nil] at h3
    exact h3.mono hc hs
  refine ⟨U, ?_, .threw T.heap.size, hrun, hend, Or.inr ⟨T.heap.size, rfl, cls, ce, locs, hx U hWs.alike f1 (fun q hq => f2 q hq (fun z hz => nomatch hz)), hce, hcv, hcl, hWs, hall, hf⟩⟩
  refine st1 _ ?_
  show Steps p.tables e below (T1.setTop { method := m, pc := pc + 3, locals := ls, stack := .ref T.heap.size :: rest, locked := none }) _
  jvm_step X₁.here [X₁.here.top, hexec, d3', Value.category]
  exact X₁.ldcStringW hexec (own := own) (text := text) (index := is) (a := sa) hown' hstr'.1 hstr'.2
    (g := { method := m, pc := pc + 4, locals := ls, stack := .ref T.heap.size :: .ref T.heap.size :: rest, locked := none }) rfl d4' _ hsteps
end THN
def jThN (own cls : String) (ik ic ix : Nat) (rx : ByteArray) (D : String) : Prop := (Cond.classLink own ik cls :: Cond.initialized cls :: ntA9 own ic cls ix rx D ["java/lang/Exception"]).all (fun w => decide (w ∈ lw_tbl) && (vx_ot w && (goodWord w || (w.onTables && w.faceAtom)))) = true ∧ (Bundle.fit cls = true ∧ Bundle.fit D = true) ∧ Cond.instantiable cls 6 ∈ ntA9 own ic cls ix rx D ["java/lang/Exception"] ∧ decode rx 0 = .ok (.aload_n 0, 1) ∧ decode rx 1 = .ok (.aload_n 1, 1) ∧ decode rx 2 = .ok (.invokespecial ix, 3) ∧ decode rx 5 = .ok (.return_, 1)
theorem jThN.w {own cls : String} {ik ic ix : Nat} {rx : ByteArray} {D : String} (h : jThN own cls ik ic ix rx D) : ∀ w ∈ Cond.classLink own ik cls :: Cond.initialized cls :: ntA9 own ic cls ix rx D ["java/lang/Exception"], w ∈ lw_tbl ∧ vx_ot w = true ∧ (goodWord w || (w.onTables && w.faceAtom)) = true := fun w hw => by
  have h1 := List.all_eq_true.mp h.1 w hw
  rw [Bool.and_eq_true, Bool.and_eq_true, decide_eq_true_eq] at h1
  exact h1
theorem j_throwN {p : Program} {l : Launch} {e : Env} {R : Room} {s : State} {m : MethodId} {args : Array Value} {below : List Frame} {meth : Method} {c : Code} {cells slots : Nat} {M : jI} {nL : Nat} {g : jG} {z : Option Nat} {sk : jS} {t : jT} {pc : Nat} {lv : List (Option Value)} {st : List Value} {mc ms : Nat} (X : jX p l s m args meth c M g (some [])) {cls D tx : String} {ik is ic ix : Nat} {rx : ByteArray} {P : Option Value → Option Nat → jS → jT → Prop} {PX : String → Option Nat → jS → jT → Prop} (hT : jThN M.1.cls cls ik ic ix rx D) (hR : ∃ q, vk_R M.1.cls is tx q (j0 g)) (d0 : decode M.2.1 pc = .ok (.new ik, 3)) (d3 : decode M.2.1 (pc + 3) = .ok (.dup, 1)) (d4 : decode M.2.1 (pc + 4) = .ok (.ldc is, 2)) (d6 : decode M.2.1 (pc + 6) = .ok (.invokespecial ic, 3)) (d9 : decode M.2.1 (pc + 9) = .ok (.athrow, 1)) (hP : PX cls none sk t) (hnL : M.2.2.1 = nL := by rfl) (hfr : 5 < R.frames := by exact Nat.le_of_ble_eq_true rfl) (hlo : (st.map fun v => v.category).sum + 82 ≤ R.locals := by exact Nat.le_of_ble_eq_true rfl) (hRc : cells + 1 ≤ R.cells := by exact Nat.le_of_ble_eq_true rfl) (hRs : slots + 6 ≤ R.slots := by exact Nat.le_of_ble_eq_true rfl) (hc : cells + 1 ≤ mc := by exact Nat.le_of_ble_eq_true rfl) (hs : slots + 6 ≤ ms := by exact Nat.le_of_ble_eq_true rfl) : J p l e R s m args below meth c (jQx below args s g mc ms P PX) nL g cells slots z sk t pc lv st := by
  obtain ⟨q, hR⟩ := hR
  have hw := hT.w
  refine j_with X (fun H locs ls hM hF hFl hZ hL hS => ?_)
  refine nt_throw (A := jA g) (names := ["java/lang/Exception"]) X.1 X.2.1 X.2.2.2.2.2.2.2.1 hT.2.2.2.1 hT.2.2.2.2.1 hT.2.2.2.2.2.1 hT.2.2.2.2.2.2 X.own hT.2.1.1 hT.2.1.2 (by decide +kernel) (fun w hm => ⟨X.ok.face X.wm (hw w hm).1 (hw w hm).2.2, (hw w hm).2.1⟩) (hR.warm X.wm) hT.2.2.1 ((X.ok.un.moved X.wm.alike).kept X.old) ((X.ok.su.moved X.wm.alike).kept X.old) hS ((hL.1.trans hnL.symm).trans X.2.2.1.symm) d0 d3 d4 d6 d9 (fun x hx => ?_) hfr hlo hRc hRs X.lk (fun u hu h1 h2 => ⟨none, sk, t, hP, hM.grow h2, hF.grow h1 h2, fun n hn => by cases hn⟩) hFl hc hs
  rw [X.2.2.2.2.2.2.2.2.2.2.2 [] rfl] at hx
  cases hx
theorem j_throwNW {p : Program} {l : Launch} {e : Env} {R : Room} {s : State} {m : MethodId} {args : Array Value} {below : List Frame} {meth : Method} {c : Code} {cells slots : Nat} {M : jI} {nL : Nat} {g : jG} {z : Option Nat} {sk : jS} {t : jT} {pc : Nat} {lv : List (Option Value)} {st : List Value} {mc ms : Nat} (X : jX p l s m args meth c M g (some [])) {cls D tx : String} {ik is ic ix : Nat} {rx : ByteArray} {P : Option Value → Option Nat → jS → jT → Prop} {PX : String → Option Nat → jS → jT → Prop} (hT : jThN M.1.cls cls ik ic ix rx D) (hR : ∃ q, vk_R M.1.cls is tx q (j0 g)) (d0 : decode M.2.1 pc = .ok (.new ik, 3)) (d3 : decode M.2.1 (pc + 3) = .ok (.dup, 1)) (d4 : decode M.2.1 (pc + 4) = .ok (.ldc_w is, 3)) (d6 : decode M.2.1 (pc + 7) = .ok (.invokespecial ic, 3)) (d9 : decode M.2.1 (pc + 10) = .ok (.athrow, 1)) (hP : PX cls none sk t) (hnL : M.2.2.1 = nL := by rfl) (hfr : 5 < R.frames := by exact Nat.le_of_ble_eq_true rfl) (hlo : (st.map fun v => v.category).sum + 82 ≤ R.locals := by exact Nat.le_of_ble_eq_true rfl) (hRc : cells + 1 ≤ R.cells := by exact Nat.le_of_ble_eq_true rfl) (hRs : slots + 6 ≤ R.slots := by exact Nat.le_of_ble_eq_true rfl) (hc : cells + 1 ≤ mc := by exact Nat.le_of_ble_eq_true rfl) (hs : slots + 6 ≤ ms := by exact Nat.le_of_ble_eq_true rfl) : J p l e R s m args below meth c (jQx below args s g mc ms P PX) nL g cells slots z sk t pc lv st := by
  obtain ⟨q, hR⟩ := hR
  have hw := hT.w
  refine j_with X (fun H locs ls hM hF hFl hZ hL hS => ?_)
  refine nt_throwW (A := jA g) (names := ["java/lang/Exception"]) X.1 X.2.1 X.2.2.2.2.2.2.2.1 hT.2.2.2.1 hT.2.2.2.2.1 hT.2.2.2.2.2.1 hT.2.2.2.2.2.2 X.own hT.2.1.1 hT.2.1.2 (by decide +kernel) (fun w hm => ⟨X.ok.face X.wm (hw w hm).1 (hw w hm).2.2, (hw w hm).2.1⟩) (hR.warm X.wm) hT.2.2.1 ((X.ok.un.moved X.wm.alike).kept X.old) ((X.ok.su.moved X.wm.alike).kept X.old) hS ((hL.1.trans hnL.symm).trans X.2.2.1.symm) d0 d3 d4 d6 d9 (fun x hx => ?_) hfr hlo hRc hRs X.lk (fun u hu h1 h2 => ⟨none, sk, t, hP, hM.grow h2, hF.grow h1 h2, fun n hn => by cases hn⟩) hFl hc hs
  rw [X.2.2.2.2.2.2.2.2.2.2.2 [] rfl] at hx
  cases hx
theorem thr_NS : jThN "StarPress" "java/util/NoSuchElementException" 206 210 13 prog_35_method_4_code "java/lang/RuntimeException" := ⟨by decide +kernel, ⟨by decide +kernel, by decide +kernel⟩, by decide +kernel, by decide +kernel, by decide +kernel, by decide +kernel, by decide +kernel⟩
theorem thr_IO : jThr "StarPress" "java/lang/IndexOutOfBoundsException" 226 230 := ⟨by decide +kernel, by decide +kernel⟩
theorem thr_IA : jThr "StarPress" "java/lang/IllegalArgumentException" 127 131 := ⟨by decide +kernel, by decide +kernel⟩
theorem thr_IS : jThr "StarPress" "java/lang/IllegalStateException" 286 290 := ⟨by decide +kernel, by decide +kernel⟩
theorem thr_UO : jThr "StarPress" "java/lang/UnsupportedOperationException" 316 320 := ⟨by decide +kernel, by decide +kernel⟩
theorem thr_AE : jThr "StarPress" "java/lang/ArithmeticException" 374 378 := ⟨by decide +kernel, by decide +kernel⟩
theorem jOk.x129 {g : jG} (h : jOk g) : ∃ q, vk_R "StarPress" 129 "a shift is from -3 to 3" q (j0 g) := h.txt tw_4_15 (i := 428) (by decide +kernel)
theorem jOk.x182 {g : jG} (h : jOk g) : ∃ q, vk_R "StarPress" 182 "a colour is from 0 to 7" q (j0 g) := h.txt tw_4_130 (i := 481) (by decide +kernel)
theorem jOk.x208 {g : jG} (h : jOk g) : ∃ q, vk_R "StarPress" 208 "there is no such rank" q (j0 g) := h.txt tw_4_174 (i := 508) (by decide +kernel)
theorem jOk.x221 {g : jG} (h : jOk g) : ∃ q, vk_R "StarPress" 221 "the sheet is not in the rack" q (j0 g) := h.txt tw_4_209 (i := 533) (by decide +kernel)
theorem jOk.x228 {g : jG} (h : jOk g) : ∃ q, vk_R "StarPress" 228 "there is no such place in the rack" q (j0 g) := h.txt tw_4_217 (i := 565) (by decide +kernel)
theorem jOk.x234 {g : jG} (h : jOk g) : ∃ q, vk_R "StarPress" 234 "the place is free" q (j0 g) := h.txt tw_4_219 (i := 603) (by decide +kernel)
theorem jOk.x243 {g : jG} (h : jOk g) : ∃ q, vk_R "StarPress" 243 "there is no such ink" q (j0 g) := h.txt tw_4_239 (i := 624) (by decide +kernel)
theorem jOk.x275 {g : jG} (h : jOk g) : ∃ q, vk_R "StarPress" 275 "the output has no such character" q (j0 g) := h.txt tw_5_100 (i := 694) (by decide +kernel)
theorem jOk.x288 {g : jG} (h : jOk g) : ∃ q, vk_R "StarPress" 288 "the input buffer is full" q (j0 g) := h.txt tw_5_112 (i := 730) (by decide +kernel)
theorem jOk.x304 {g : jG} (h : jOk g) : ∃ q, vk_R "StarPress" 304 "the text is malformed" q (j0 g) := h.txt tw_5_239 (i := 758) (by decide +kernel)
theorem jOk.x318 {g : jG} (h : jOk g) : ∃ q, vk_R "StarPress" 318 "a command failed" q (j0 g) := h.txt tw_6_13 (i := 783) (by decide +kernel)
theorem jOk.x324 {g : jG} (h : jOk g) : ∃ q, vk_R "StarPress" 324 "no error position was kept" q (j0 g) := h.txt tw_6_21 (i := 803) (by decide +kernel)
theorem jOk.x326 {g : jG} (h : jOk g) : ∃ q, vk_R "StarPress" 326 "no failed command was kept" q (j0 g) := h.txt tw_6_29 (i := 833) (by decide +kernel)
theorem jOk.x331 {g : jG} (h : jOk g) : ∃ q, vk_R "StarPress" 331 "no change can be undone" q (j0 g) := h.txt tw_6_37 (i := 863) (by decide +kernel)
theorem jOk.x336 {g : jG} (h : jOk g) : ∃ q, vk_R "StarPress" 336 "nothing was saved" q (j0 g) := h.txt tw_6_49 (i := 890) (by decide +kernel)
theorem jOk.x343 {g : jG} (h : jOk g) : ∃ q, vk_R "StarPress" 343 "there is no such index" q (j0 g) := h.txt tw_3_17 (i := 236) (by decide +kernel)
theorem jOk.x345 {g : jG} (h : jOk g) : ∃ q, vk_R "StarPress" 345 "an argument is out of its bounds" q (j0 g) := h.txt tw_3_53 (i := 262) (by decide +kernel)
theorem jOk.x347 {g : jG} (h : jOk g) : ∃ q, vk_R "StarPress" 347 "the state does not allow it" q (j0 g) := h.txt tw_3_69 (i := 298) (by decide +kernel)
theorem jOk.x349 {g : jG} (h : jOk g) : ∃ q, vk_R "StarPress" 349 "there is nothing to remove" q (j0 g) := h.txt tw_3_85 (i := 329) (by decide +kernel)
theorem jOk.x351 {g : jG} (h : jOk g) : ∃ q, vk_R "StarPress" 351 "it is refused" q (j0 g) := h.txt tw_3_101 (i := 359) (by decide +kernel)
theorem jOk.x356 {g : jG} (h : jOk g) : ∃ q, vk_R "StarPress" 356 "there is no such plate" q (j0 g) := h.txt tw_3_211 (i := 376) (by decide +kernel)
theorem jOk.x365 {g : jG} (h : jOk g) : ∃ q, vk_R "StarPress" 365 "there is no such sheet" q (j0 g) := h.txt tw_4_105 (i := 455) (by decide +kernel)
theorem jOk.x370 {g : jG} (h : jOk g) : ∃ q, vk_R "StarPress" 370 "there is no such place" q (j0 g) := h.txt tw_3_231 (i := 402) (by decide +kernel)
theorem jOk.x372 {g : jG} (h : jOk g) : ∃ q, vk_R "StarPress" 372 "nothing was refused" q (j0 g) := h.txt tw_5_43 (i := 648) (by decide +kernel)
theorem jOk.x376 {g : jG} (h : jOk g) : ∃ q, vk_R "StarPress" 376 "there are no sheets" q (j0 g) := h.txt tw_5_77 (i := 671) (by decide +kernel)
