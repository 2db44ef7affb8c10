/-- the addresses that are new since the law began -/
def jA (g : jG) : Nat → Prop := fun q => jb g ≤ q
theorem jA_old (g : jG) : ∀ a : Nat, a < (j0 g).heap.size → ¬ jA g a := fun a h q => absurd h (Nat.not_lt.mpr q)
section OLD
variable {p : Program} {l : Launch} {e : Env} {R : Room} {s : State} {m : MethodId} {args : Array Value} {below : List Frame} {meth : Method} {c : Code} {cells slots : Nat} {Q : State → Prop}
variable {M M2 : jI} {nL : Nat} {g : jG} {tb : Option (List ExceptionTableEntry)} {z : Option Nat} {sk : jS} {t : jT} {pc : Nat} {lv : List (Option Value)} {st : List Value} {mc ms : Nat}
theorem jX.old (X : jX p l s m args meth c M g tb) : ∀ a : Nat, a < (j0 g).heap.size → ¬ jA g a → s.heap[a]? = (j0 g).heap[a]? := fun a h _ => X.fr.2 a h
/-- a row that needs to know that nothing old has changed -/
theorem j_with (X : jX p l s m args meth c M g tb) (k : ∀ (H : Heap) (locs : List Loc) (ls : Array Slot), jM g sk t H → jF0 g H → jFl g locs → jZ g z H → jL ls nL lv → va_S (jA g) s.heap H locs → W p l e R s m args below meth c H locs cells slots Q (F0 m pc ls st)) : J p l e R s m args below meth c Q nL g cells slots z sk t pc lv st := by
  intro H locs ls hM hF hFl hZ hL T hT X9
  have hsz : s.heap.size ≤ H.size := by rw [← hT]; exact X9.same.2.1
  exact k H locs ls hM hF hFl hZ hL ⟨hsz, fun q hq hn => by
    have hq2 : q < jb g := Nat.lt_of_not_le hn
    rw [hF.2 q hq2, X.fr.2 q hq2], hFl⟩ T hT X9
theorem j_ldcS (X : jX p l s m args meth c M g tb) {idx q : Nat} {tx : String} (hR : vk_R M.1.cls idx tx q (j0 g)) (hdg : decode M.2.1 pc = .ok (.ldc idx, 2)) (k : J p l e R s m args below meth c Q nL g cells slots z sk t (pc + 2) lv (.ref q :: st)) : J p l e R s m args below meth c Q nL g cells slots z sk t pc lv st := fun H locs ls hM hF hFl hZ hL => va_ldcS X.1 X.2.1 X.own (hR.warm X.wm) hdg (k H locs ls hM hF hFl hZ hL)
theorem j_gets (X : jX p l s m args meth c M g tb) {C n d : String} {v : Value} {idx : Nat} (hv : va_Z C n d v (jA g) (j0 g) (j0 g).heap) (hl : Cond.fieldLink M.1.cls idx C n d ∈ lw_tbl) (hdg : decode M.2.1 pc = .ok (.getstatic idx, 3)) (k : J p l e R s m args below meth c Q nL g cells slots z sk t (pc + 3) lv (v :: st)) : J p l e R s m args below meth c Q nL g cells slots z sk t pc lv st :=
  j_with X fun H locs ls hM hF hFl hZ hL hS => va_gets X.1 X.2.1 ((va_Z.moved X.wm.alike hv).kept X.old) hS X.own (X.word hl rfl) (fun _ h => h) hdg (k H locs ls hM hF hFl hZ hL)
theorem j_getO (X : jX p l s m args meth c M g tb) {o n d : String} {v : Value} {idx q : Nat} (hv : va_OF o n d v q (jA g) (j0 g) (j0 g).heap) (hl : Cond.fieldLink M.1.cls idx o n d ∈ lw_tbl) (hdg : decode M.2.1 pc = .ok (.getfield idx, 3)) (k : J p l e R s m args below meth c Q nL g cells slots z sk t (pc + 3) lv (v :: st)) : J p l e R s m args below meth c Q nL g cells slots z sk t pc lv (.ref q :: st) :=
  j_with X fun H locs ls hM hF hFl hZ hL hS => vk_getf X.1 X.2.1 ((va_OF.moved X.wm.alike hv).kept X.old) hS X.own (X.word hl rfl) (fun _ h => h) hdg (k H locs ls hM hF hFl hZ hL)
theorem j_getON (X : jX p l s m args meth c M g tb) {o n d hh : String} {v : Value} {idx q : Nat} (hv : va_OF o n d v q (jA g) (j0 g) (j0 g).heap) (hl : Cond.fieldLinkNest M.1.cls idx o n d hh ∈ lw_tbl) (hdg : decode M.2.1 pc = .ok (.getfield idx, 3)) (k : J p l e R s m args below meth c Q nL g cells slots z sk t (pc + 3) lv (v :: st)) : J p l e R s m args below meth c Q nL g cells slots z sk t pc lv (.ref q :: st) :=
  j_with X fun H locs ls hM hF hFl hZ hL hS => by
    obtain ⟨cf, k9, fi, f, cell, h1, h2, h3, h4, h5, h6⟩ := ((va_OF.moved X.wm.alike hv).kept X.old).kept hS.2.1
    exact va_Wgetf X.1 X.2.1 X.own (X.ok.nestF X.wm hl) h1 h2 h3 h4 (v := v) h5 rfl rfl hdg (k H locs ls hM hF hFl hZ hL)
theorem j_tb (X : jX p l s m args meth c M g tb) {a N q : Nat} {f : Nat → Value} {x : Int32} {v : Value} (hv : va_T .byte a N f (jA g) (j0 g) (j0 g).heap) (hx : x = nI q) (hq : q < N) (hN : N < 2 ^ 31) (hf : f q = v) (hdg : decode M.2.1 pc = .ok (.baload, 1)) (k : J p l e R s m args below meth c Q nL g cells slots z sk t (pc + 1) lv (v :: st)) : J p l e R s m args below meth c Q nL g cells slots z sk t pc lv (.int x :: .ref a :: st) :=
  j_with X fun H locs ls hM hF hFl hZ hL hS => va_tb X.1 X.2.1 ((va_T.moved X.wm.alike hv).kept X.old) hS (by rw [hx]; exact vp_in_nI hq hN) (by rw [hx, nI_clamp (by omega)]; exact hf) hdg (k H locs ls hM hF hFl hZ hL)
theorem j_ti (X : jX p l s m args meth c M g tb) {a N q : Nat} {f : Nat → Value} {x : Int32} {v : Value} (hv : va_T .int a N f (jA g) (j0 g) (j0 g).heap) (hx : x = nI q) (hq : q < N) (hN : N < 2 ^ 31) (hf : f q = v) (hdg : decode M.2.1 pc = .ok (.iaload, 1)) (k : J p l e R s m args below meth c Q nL g cells slots z sk t (pc + 1) lv (v :: st)) : J p l e R s m args below meth c Q nL g cells slots z sk t pc lv (.int x :: .ref a :: st) :=
  j_with X fun H locs ls hM hF hFl hZ hL hS => va_ti X.1 X.2.1 ((va_T.moved X.wm.alike hv).kept X.old) hS (by rw [hx]; exact vp_in_nI hq hN) (by rw [hx, nI_clamp (by omega)]; exact hf) hdg (k H locs ls hM hF hFl hZ hL)
theorem j_tq (X : jX p l s m args meth c M g tb) {a N q : Nat} {f : Nat → Value} {C : String} {x : Int32} {v : Value} (hv : va_T (.object C) a N f (jA g) (j0 g) (j0 g).heap) (hx : x = nI q) (hq : q < N) (hN : N < 2 ^ 31) (hf : f q = v) (hdg : decode M.2.1 pc = .ok (.aaload, 1)) (k : J p l e R s m args below meth c Q nL g cells slots z sk t (pc + 1) lv (v :: st)) : J p l e R s m args below meth c Q nL g cells slots z sk t pc lv (.int x :: .ref a :: st) :=
  j_with X fun H locs ls hM hF hFl hZ hL hS => vb_tq X.1 X.2.1 ((va_T.moved X.wm.alike hv).kept X.old) hS (by rw [hx]; exact vp_in_nI hq hN) (by rw [hx, nI_clamp (by omega)]; exact hf) hdg (k H locs ls hM hF hFl hZ hL)
theorem j_tlen (X : jX p l s m args meth c M g tb) {a N : Nat} {f : Nat → Value} {ty : FieldType} (hv : va_T ty a N f (jA g) (j0 g) (j0 g).heap) (hdg : decode M.2.1 pc = .ok (.arraylength, 1)) (k : J p l e R s m args below meth c Q nL g cells slots z sk t (pc + 1) lv (.int (nI N) :: st)) : J p l e R s m args below meth c Q nL g cells slots z sk t pc lv (.ref a :: st) :=
  j_with X fun H locs ls hM hF hFl hZ hL hS => va_tlen X.1 X.2.1 ((va_T.moved X.wm.alike hv).kept X.old) hS rfl hdg (k H locs ls hM hF hFl hZ hL)
/-- a call on an object that was there before -/
theorem j_callVO (X : jX p l s m args meth c M g tb) {n d idx a : Nat} {As rest : List Value} {P : Option Value → Option Nat → jS → jT → Prop} (hMet : jMet l g M2 d mc ms (.ref a :: As) z sk t P) (hO : va_O M2.1.cls a (jA g) (j0 g) (j0 g).heap) (hC : jCa M2 n) (hl : Cond.methodLink M.1.cls idx M2.1 ∈ lw_tbl) (hin : Cond.instanceMethod M2.1 ∈ lw_tbl) (hse : Cond.selects M2.1.cls M2.1 M2.1 ∈ lw_tbl) (hdg : decode M.2.1 pc = .ok (.invokevirtual idx, 3)) (kk : ∀ (v : Option Value) (z2 : Option Nat) (sk2 : jS) (t2 : jT), P v z2 sk2 t2 → J p l e R s m args below meth c Q nL g (cells + mc) (slots + ms) z2 sk2 t2 (pc + 3) lv (v.toList ++ rest)) (hst : st = As.reverse ++ .ref a :: rest := by rfl) (hfr : d + 1 ≤ R.frames := by exact Nat.le_of_ble_eq_true rfl) (hlo : 19 + M2.2.2.1 + 64 * d ≤ R.locals := by exact Nat.le_of_ble_eq_true rfl) (hmc : cells + mc ≤ R.cells := by exact Nat.le_of_ble_eq_true rfl) (hms : slots + ms ≤ R.slots := by exact Nat.le_of_ble_eq_true rfl) (hlen : As.length = n := by rfl) (hnL : M.2.2.1 = nL := by rfl) (hrest : (rest.map fun v => v.category).sum ≤ 8 := by exact Nat.le_of_ble_eq_true rfl) : J p l e R s m args below meth c Q nL g cells slots z sk t pc lv st := by
  subst hst
  refine j_go (a := (.ref a :: As).toArray) (P := P) (fun H locs ls hM hF hFl hZ hL => ?_) kk
  intro T hT X9
  have hsz : s.heap.size ≤ H.size := by rw [← hT]; exact X9.same.2.1
  have hS : va_S (jA g) s.heap H locs := ⟨hsz, fun q hq hn => by
    have hq2 : q < jb g := Nat.lt_of_not_le hn
    rw [hF.2 q hq2, X.fr.2 q hq2], hFl⟩
  have hr : ∃ cell : Cell, H[a]? = some cell ∧ cell.vm.isStatics = false ∧ s.vm.findClass M2.1.cls = some cell.cls := by
    obtain ⟨cell, h1, h2, h3, -⟩ := ((va_O.moved X.wm.alike hO).kept X.old).kept hS.2.1
    exact ⟨cell, h1, h2, h3⟩
  exact va_runV (C := M2.1.cls) X.fix hMet ⟨jCB X hC hl hfr hlo, X.word hin rfl, X.word hse rfl⟩ ⟨jPc.blind, hr, fun U hU hW => jPc.mk X.wm hM hF hZ hU hW⟩ rfl hlen (hL.1.trans hnL.symm) rfl (lv_room hrest) hdg ⟨hmc, hms⟩ T hT X9
/-- .. of a method of a class above -/
theorem j_callUO (X : jX p l s m args meth c M g tb) {n d idx a : Nat} {C : String} {x : MethodName} {As rest : List Value} {P : Option Value → Option Nat → jS → jT → Prop} (hMet : jMet l g M2 d mc ms (.ref a :: As) z sk t P) (hO : va_O C a (jA g) (j0 g) (j0 g).heap) (hC : jCa M2 n) (hx : x = ⟨C, M2.1.name, M2.1.desc⟩) (hl : Cond.methodLink M.1.cls idx x ∈ lw_tbl) (hsm : Cond.sameMethod x.cls M2.1.cls x.name x.desc ∈ lw_tbl) (hin : Cond.instanceMethod M2.1 ∈ lw_tbl) (hse : Cond.selects C x M2.1 ∈ lw_tbl) (hdg : decode M.2.1 pc = .ok (.invokevirtual idx, 3)) (kk : ∀ (v : Option Value) (z2 : Option Nat) (sk2 : jS) (t2 : jT), P v z2 sk2 t2 → J p l e R s m args below meth c Q nL g (cells + mc) (slots + ms) z2 sk2 t2 (pc + 3) lv (v.toList ++ rest)) (hst : st = As.reverse ++ .ref a :: rest := by rfl) (hfr : d + 1 ≤ R.frames := by exact Nat.le_of_ble_eq_true rfl) (hlo : 19 + M2.2.2.1 + 64 * d ≤ R.locals := by exact Nat.le_of_ble_eq_true rfl) (hmc : cells + mc ≤ R.cells := by exact Nat.le_of_ble_eq_true rfl) (hms : slots + ms ≤ R.slots := by exact Nat.le_of_ble_eq_true rfl) (hlen : As.length = n := by rfl) (hnL : M.2.2.1 = nL := by rfl) (hrest : (rest.map fun v => v.category).sum ≤ 8 := by exact Nat.le_of_ble_eq_true rfl) : J p l e R s m args below meth c Q nL g cells slots z sk t pc lv st := by
  subst hst
  subst hx
  refine j_go (a := (.ref a :: As).toArray) (P := P) (fun H locs ls hM hF hFl hZ hL => ?_) kk
  intro T hT X9
  have hsz : s.heap.size ≤ H.size := by rw [← hT]; exact X9.same.2.1
  have hS : va_S (jA g) s.heap H locs := ⟨hsz, fun q hq hn => by
    have hq2 : q < jb g := Nat.lt_of_not_le hn
    rw [hF.2 q hq2, X.fr.2 q hq2], hFl⟩
  have hr : ∃ cell : Cell, H[a]? = some cell ∧ cell.vm.isStatics = false ∧ s.vm.findClass C = some cell.cls := by
    obtain ⟨cell, h1, h2, h3, -⟩ := ((va_O.moved X.wm.alike hO).kept X.old).kept hS.2.1
    exact ⟨cell, h1, h2, h3⟩
  have cw : va_CU R s args M.1.cls C M2.1.cls idx ⟨C, M2.1.name, M2.1.desc⟩ M2.1 M2.2.1 M2.2.2.1 M2.2.2.2 (jWs M2) (jR d mc ms) mc ms n :=
    ⟨⟨rfl, rfl, hfr, by show 8 + (M2.2.2.1 + 11) + 64 * d ≤ R.locals; omega, jWs.ok X hC, List.mem_singleton.mpr rfl⟩, X.word hC.1 rfl, X.word hC.2.1 rfl, hC.2.2.1, hC.len, X.word hl rfl, X.word hsm rfl, va_Decl.of (X.word hin rfl) (X.word hC.1 rfl), X.word hse rfl, X.word hin rfl⟩
  exact va_runU (C := C) X.fix hMet cw ⟨jPc.blind, hr, fun U hU hW => jPc.mk X.wm hM hF hZ hU hW⟩ rfl hlen (hL.1.trans hnL.symm) rfl (lv_room hrest) hdg ⟨hmc, hms⟩ T hT X9
end OLD
/-- a text of small letters -/
def oStr (g : jG) (a : Nat) (bs : List Nat) : Prop := (∀ b ∈ bs, b < 128) ∧ bs.length < 100 ∧ ∃ v : Nat, va_O "java/lang/String" a (jA g) (j0 g) (j0 g).heap ∧ va_OF "java/lang/String" "coder" "B" (.int 0) a (jA g) (j0 g) (j0 g).heap ∧ va_OF "java/lang/String" "value" "[B" (.ref v) a (jA g) (j0 g) (j0 g).heap ∧ va_T .byte v bs.length (fun j => .int (nI (bs.getD j 0))) (jA g) (j0 g) (j0 g).heap
def strC (own : String) (k : Nat) (bs : List Nat) : List Cond := [Cond.exactly (.string own k) "java/lang/String", Cond.eq (.field (.string own k) "java/lang/String" "coder" "B") (.int 0), Cond.arrayOf (.field (.string own k) "java/lang/String" "value" "[B") .byte, Cond.eq (.length (.field (.string own k) "java/lang/String" "value" "[B")) (.int (Int32.ofNat bs.length))] ++ (List.range bs.length).map (fun j => Cond.eq (.elem (.field (.string own k) "java/lang/String" "value" "[B") (.int (Int32.ofNat j))) (.int (nI (bs.getD j 0))))
abbrev gvn : List Cond := flatC (Jvm.Cond.and given_1 narrow_1)
theorem in_ix (L : List Cond) (ix : List Nat) (h : ∀ k, k < L.length → gvn[ix.getD k 0]? = L[k]?) : ∀ c ∈ L, c ∈ gvn := fun c hc => by
  obtain ⟨k, hk⟩ := List.getElem?_of_mem hc
  exact List.mem_of_getElem? ((h k (List.getElem?_eq_some_iff.mp hk).1).trans hk)
theorem jOk.at {g : jG} (h : jOk g) : ∃ b : Nat, (∀ w ∈ lw_tbl, w.before #[Value.ref b] (j0 g) = true) ∧ ∀ c ∈ gvn, c.before #[Value.ref b] (j0 g) = true := by
  obtain ⟨⟨b, h1, h2⟩, -⟩ := h
  exact ⟨b, h1, flat_of_before _ h2⟩
theorem jOk.str {g : jG} (h : jOk g) {own tx : String} {k : Nat} {bs : List Nat} (hw : Cond.stringRef own k tx ∈ lw_tbl) (h1 : ∀ b ∈ bs, b < 128) (h2 : bs.length < 100) (hc : ∀ c ∈ strC own k bs, c ∈ gvn) : ∃ a, vk_R own k tx a (j0 g) ∧ oStr g a bs ∧ ∃ b : Nat, (Term.string own k).eval #[Value.ref b] (j0 g) none [] (j0 g) = some (.ref a) := by
  obtain ⟨b, hb, hg⟩ := h.at
  have w : ∀ c ∈ strC own k bs, c.before #[Value.ref b] (j0 g) = true := fun c hm => hg c (hc c hm)
  have hel : ∀ j : Nat, j < bs.length → (Cond.eq (.elem (.field (.string own k) "java/lang/String" "value" "[B") (.int (Int32.ofNat j))) (.int (nI (bs.getD j 0)))).before #[Value.ref b] (j0 g) = true := fun j hj => w _ (List.mem_append_right _ (List.mem_map.mpr ⟨j, List.mem_range.mpr hj, rfl⟩))
  obtain ⟨a, cc, cA, kA, q1, q2, q3, q4, q5, q6, -⟩ := Cond.exactly_spec (args := #[Value.ref b]) (first := j0 g) (o := none) (s := j0 g) (idx := []) (t := .string own k) (cls := "java/lang/String") (w _ (List.mem_append_left _ (List.mem_cons_self)))
  obtain ⟨v, ht, hT⟩ := va_Tof (f := fun j => .int (nI (bs.getD j 0))) (A := jA g) (show bs.length < 2 ^ 31 by omega) (w _ (List.mem_append_left _ (List.mem_of_getElem? (i := 2) rfl))) (va_eqt (w _ (List.mem_append_left _ (List.mem_of_getElem? (i := 3) rfl)))) (fun j hj => va_eqt (hel j hj)) (jA_old g)
  exact ⟨a, vk_R.of (hb _ hw) q1, ⟨h1, h2, v, ⟨cA, q3, q5, by rw [q6]; exact q2, jA_old g a (Array.getElem?_eq_some_iff.mp q3).1⟩, vk_OFof q1 (va_eqt (w _ (List.mem_append_left _ (List.mem_of_getElem? (i := 1) rfl)))) (jA_old g), vk_OFof q1 ht (jA_old g), hT⟩, b, q1⟩
theorem jOk.compact {g : jG} (h : jOk g) : va_Z "java/lang/String" "COMPACT_STRINGS" "Z" (.int 1) (jA g) (j0 g) (j0 g).heap := by
  obtain ⟨b, hb, hg⟩ := h.at
  exact va_Zof (hb _ tw_5_163) (hb _ tw_1_23) (va_eqi (hg (Cond.eq (.static "java/lang/String" "COMPACT_STRINGS" "Z") (.int 1)) (in_ix [_] [22] (by decide +kernel) _ List.mem_cons_self))) (jA_old g)
theorem jOk.sioobe {g : jG} (h : jOk g) : va_Zq "jdk/internal/util/Preconditions" "SIOOBE_FORMATTER" "Ljava/util/function/BiFunction;" (jA g) (j0 g) (j0 g).heap := by
  obtain ⟨b, hb, hg⟩ := h.at
  exact va_Zqof (hb _ tw_5_179) (hb _ tw_1_28) (hg (Cond.isRef (.static "jdk/internal/util/Preconditions" "SIOOBE_FORMATTER" "Ljava/util/function/BiFunction;")) (in_ix [_] [23] (by decide +kernel) _ List.mem_cons_self)) (jA_old g)
theorem jOk.un {g : jG} (h : jOk g) : vx_Zq Bundle.tN "UNASSIGNED_STACK" Bundle.steD (jA g) (j0 g) (j0 g).heap := by
  obtain ⟨b, hb, hg⟩ := h.at
  exact vx_Zqof (hb _ tw_2_239) (hb _ tw_1_14) (hg (Cond.isRef (.static "java/lang/Throwable" "UNASSIGNED_STACK" "[Ljava/lang/StackTraceElement;")) (in_ix [_] [7] (by decide +kernel) _ List.mem_cons_self)) (jA_old g)
theorem jOk.su {g : jG} (h : jOk g) : vx_Zq Bundle.tN "SUPPRESSED_SENTINEL" Bundle.listD (jA g) (j0 g) (j0 g).heap := by
  obtain ⟨b, hb, hg⟩ := h.at
  exact vx_Zqof (hb _ tw_3_1) (hb _ tw_1_14) (hg (Cond.isRef (.static "java/lang/Throwable" "SUPPRESSED_SENTINEL" "Ljava/util/List;")) (in_ix [_] [8] (by decide +kernel) _ List.mem_cons_self)) (jA_old g)
def kwT : List (List Nat) := [[112, 108, 97, 116, 101, 32], [115, 116, 97, 114, 32], [115, 104, 105, 102, 116, 32], [115, 104, 101, 101, 116], [112, 114, 105, 110, 116, 32], [114, 97, 99, 107, 32], [111, 117, 116, 32], [104, 111, 117, 114, 32]]
def kwN : List String := ["PLATE", "STAR", "SHIFT", "SHEET", "PRINT", "RACK", "OUT", "HOUR"]
def kwI : List Nat := [52, 58, 61, 64, 67, 70, 73, 76]
abbrev kwTm (i : Nat) : Term := .static "StarPress$Keyword" (kwN.getD i "") "LStarPress$Keyword;"
def kwC (i : Nat) : List Cond := [Cond.exactly (kwTm i) "StarPress$Keyword", Cond.eq (.field (kwTm i) "java/lang/Enum" "ordinal" "I") (.int (nI i)), Cond.eq (.field (kwTm i) "StarPress$Keyword" "text" "Ljava/lang/String;") (.string "StarPress$Keyword" (kwI.getD i 0)), Cond.eq (.elem (.static "StarPress$Input" "KEYWORDS" "[LStarPress$Keyword;") (.int (Int32.ofNat i))) (kwTm i), Cond.eq (.elem (.static "StarPress$1" "$SwitchMap$StarPress$Keyword" "[I") (.int (Int32.ofNat i))) (.int (nI (i + 1)))]
theorem kwC_0 : ∀ c ∈ kwC 0, c ∈ gvn := in_ix _ [38, 39, 40, 14, 30] (by decide +kernel)
theorem kwS_0 : ∀ c ∈ strC "StarPress$Keyword" (kwI.getD 0 0) (kwT.getD 0 []), c ∈ gvn := in_ix _ [975, 976, 977, 978, 979, 980, 981, 982, 983, 984] (by decide +kernel)
theorem kwC_1 : ∀ c ∈ kwC 1, c ∈ gvn := in_ix _ [42, 43, 44, 15, 31] (by decide +kernel)
theorem kwS_1 : ∀ c ∈ strC "StarPress$Keyword" (kwI.getD 1 0) (kwT.getD 1 []), c ∈ gvn := in_ix _ [985, 986, 987, 988, 989, 990, 991, 992, 993] (by decide +kernel)
theorem kwC_2 : ∀ c ∈ kwC 2, c ∈ gvn := in_ix _ [47, 48, 49, 16, 32] (by decide +kernel)
theorem kwS_2 : ∀ c ∈ strC "StarPress$Keyword" (kwI.getD 2 0) (kwT.getD 2 []), c ∈ gvn := in_ix _ [994, 995, 996, 997, 998, 999, 1000, 1001, 1002, 1003] (by decide +kernel)
theorem kwC_3 : ∀ c ∈ kwC 3, c ∈ gvn := in_ix _ [4, 5, 6, 17, 33] (by decide +kernel)
theorem kwS_3 : ∀ c ∈ strC "StarPress$Keyword" (kwI.getD 3 0) (kwT.getD 3 []), c ∈ gvn := in_ix _ [966, 967, 968, 969, 970, 971, 972, 973, 974] (by decide +kernel)
theorem kwC_4 : ∀ c ∈ kwC 4, c ∈ gvn := in_ix _ [53, 54, 55, 18, 34] (by decide +kernel)
theorem kwS_4 : ∀ c ∈ strC "StarPress$Keyword" (kwI.getD 4 0) (kwT.getD 4 []), c ∈ gvn := in_ix _ [1004, 1005, 1006, 1007, 1008, 1009, 1010, 1011, 1012, 1013] (by decide +kernel)
theorem kwC_5 : ∀ c ∈ kwC 5, c ∈ gvn := in_ix _ [60, 61, 62, 19, 35] (by decide +kernel)
theorem kwS_5 : ∀ c ∈ strC "StarPress$Keyword" (kwI.getD 5 0) (kwT.getD 5 []), c ∈ gvn := in_ix _ [1014, 1015, 1016, 1017, 1018, 1019, 1020, 1021, 1022] (by decide +kernel)
theorem kwC_6 : ∀ c ∈ kwC 6, c ∈ gvn := in_ix _ [68, 69, 70, 20, 36] (by decide +kernel)
theorem kwS_6 : ∀ c ∈ strC "StarPress$Keyword" (kwI.getD 6 0) (kwT.getD 6 []), c ∈ gvn := in_ix _ [1023, 1024, 1025, 1026, 1027, 1028, 1029, 1030] (by decide +kernel)
theorem kwC_7 : ∀ c ∈ kwC 7, c ∈ gvn := in_ix _ [77, 78, 79, 21, 37] (by decide +kernel)
theorem kwS_7 : ∀ c ∈ strC "StarPress$Keyword" (kwI.getD 7 0) (kwT.getD 7 []), c ∈ gvn := in_ix _ [1031, 1032, 1033, 1034, 1035, 1036, 1037, 1038, 1039] (by decide +kernel)
theorem kwC_in : ∀ i, i < 8 → ∀ c ∈ kwC i, c ∈ gvn
  | 0, _ => kwC_0
  | 1, _ => kwC_1
  | 2, _ => kwC_2
  | 3, _ => kwC_3
  | 4, _ => kwC_4
  | 5, _ => kwC_5
  | 6, _ => kwC_6
  | 7, _ => kwC_7
  | k + 8, h => absurd h (by omega)
theorem kwS_in : ∀ i, i < 8 → ∀ c ∈ strC "StarPress$Keyword" (kwI.getD i 0) (kwT.getD i []), c ∈ gvn
  | 0, _ => kwS_0
  | 1, _ => kwS_1
  | 2, _ => kwS_2
  | 3, _ => kwS_3
  | 4, _ => kwS_4
  | 5, _ => kwS_5
  | 6, _ => kwS_6
  | 7, _ => kwS_7
  | k + 8, h => absurd h (by omega)
def kwK : List Cond := [Cond.arrayOf (.static "StarPress$Input" "KEYWORDS" "[LStarPress$Keyword;") (.object "StarPress$Keyword"), Cond.eq (.length (.static "StarPress$Input" "KEYWORDS" "[LStarPress$Keyword;")) (.int 8), Cond.arrayOf (.static "StarPress$1" "$SwitchMap$StarPress$Keyword" "[I") .int, Cond.eq (.length (.static "StarPress$1" "$SwitchMap$StarPress$Keyword" "[I")) (.int 8)]
theorem kwK_in : ∀ c ∈ kwK, c ∈ gvn := in_ix kwK [11, 12, 28, 29] (by decide +kernel)
/-- the keywords: their row, each of them, its text; the row of the switch -/
def oKw (g : jG) (K : Nat) (kw sa : Nat → Nat) (w : Nat) : Prop := va_Z "StarPress$Input" "KEYWORDS" "[LStarPress$Keyword;" (.ref K) (jA g) (j0 g) (j0 g).heap ∧ va_T (.object "StarPress$Keyword") K 8 (fun j => .ref (kw j)) (jA g) (j0 g) (j0 g).heap ∧ va_Z "StarPress$1" "$SwitchMap$StarPress$Keyword" "[I" (.ref w) (jA g) (j0 g) (j0 g).heap ∧ va_T .int w 8 (fun j => .int (nI (j + 1))) (jA g) (j0 g) (j0 g).heap ∧ va_Z "StarPress$Keyword" "SHEET" "LStarPress$Keyword;" (.ref (kw 3)) (jA g) (j0 g) (j0 g).heap ∧ ∀ i, i < 8 → va_O "StarPress$Keyword" (kw i) (jA g) (j0 g) (j0 g).heap ∧ va_OF "java/lang/Enum" "ordinal" "I" (.int (nI i)) (kw i) (jA g) (j0 g) (j0 g).heap ∧ va_OF "StarPress$Keyword" "text" "Ljava/lang/String;" (.ref (sa i)) (kw i) (jA g) (j0 g) (j0 g).heap ∧ oStr g (sa i) (kwT.getD i [])
theorem kwW : ∀ i, i < 8 → ∃ tx, Cond.stringRef "StarPress$Keyword" (kwI.getD i 0) tx ∈ lw_tbl
  | 0, _ => ⟨_, tw_8_83⟩
  | 1, _ => ⟨_, tw_8_84⟩
  | 2, _ => ⟨_, tw_8_85⟩
  | 3, _ => ⟨_, tw_8_75⟩
  | 4, _ => ⟨_, tw_8_86⟩
  | 5, _ => ⟨_, tw_8_87⟩
  | 6, _ => ⟨_, tw_8_88⟩
  | 7, _ => ⟨_, tw_8_89⟩
  | k + 8, h => absurd h (by omega)
theorem jOk.kw {g : jG} (h : jOk g) : ∃ K kw sa w, oKw g K kw sa w := by
  obtain ⟨b, hb, hg⟩ := h.at
  have h0 : ∀ i : Nat, ∃ q : Nat × Nat, i < 8 → (kwTm i).eval #[Value.ref b] (j0 g) none [] (j0 g) = some (.ref q.1) ∧ va_O "StarPress$Keyword" q.1 (jA g) (j0 g) (j0 g).heap ∧ va_OF "java/lang/Enum" "ordinal" "I" (.int (nI i)) q.1 (jA g) (j0 g) (j0 g).heap ∧ va_OF "StarPress$Keyword" "text" "Ljava/lang/String;" (.ref q.2) q.1 (jA g) (j0 g) (j0 g).heap ∧ oStr g q.2 (kwT.getD i []) := by
    intro i
    by_cases hi : i < 8
    · have w : ∀ c ∈ kwC i, c.before #[Value.ref b] (j0 g) = true := fun c hm => hg c (kwC_in i hi c hm)
      obtain ⟨tx, htx⟩ := kwW i hi
      obtain ⟨a, cc, cA, kA, q1, q2, q3, q4, q5, q6, -⟩ := Cond.exactly_spec (args := #[Value.ref b]) (first := j0 g) (o := none) (s := j0 g) (idx := []) (t := kwTm i) (cls := "StarPress$Keyword") (w _ (List.mem_of_getElem? (i := 0) rfl))
      have hst := (strC "StarPress$Keyword" (kwI.getD i 0) (kwT.getD i []))
      have ws : ∀ c ∈ strC "StarPress$Keyword" (kwI.getD i 0) (kwT.getD i []), c.before #[Value.ref b] (j0 g) = true := fun c hm => hg c (kwS_in i hi c hm)
      obtain ⟨a2, cc2, cA2, kA2, s1, s2, s3, s4, s5, s6, -⟩ := Cond.exactly_spec (args := #[Value.ref b]) (first := j0 g) (o := none) (s := j0 g) (idx := []) (t := .string "StarPress$Keyword" (kwI.getD i 0)) (cls := "java/lang/String") (ws _ (List.mem_append_left _ (List.mem_cons_self)))
      have hbs : (∀ b ∈ kwT.getD i [], b < 128) ∧ (kwT.getD i []).length < 100 := (show ∀ i, i < 8 → (∀ b ∈ kwT.getD i [], b < 128) ∧ (kwT.getD i []).length < 100 by decide) i hi
      have hel : ∀ j : Nat, j < (kwT.getD i []).length → (Cond.eq (.elem (.field (.string "StarPress$Keyword" (kwI.getD i 0)) "java/lang/String" "value" "[B") (.int (Int32.ofNat j))) (.int (nI ((kwT.getD i []).getD j 0)))).before #[Value.ref b] (j0 g) = true := fun j hj => ws _ (List.mem_append_right _ (List.mem_map.mpr ⟨j, List.mem_range.mpr hj, rfl⟩))
      obtain ⟨v, ht, hT⟩ := va_Tof (f := fun j => .int (nI ((kwT.getD i []).getD j 0))) (A := jA g) (show (kwT.getD i []).length < 2 ^ 31 by omega) (ws _ (List.mem_append_left _ (List.mem_of_getElem? (i := 2) rfl))) (va_eqt (ws _ (List.mem_append_left _ (List.mem_of_getElem? (i := 3) rfl)))) (fun j hj => va_eqt (hel j hj)) (jA_old g)
      refine ⟨(a, a2), fun _ => ⟨q1, ⟨cA, q3, q5, by rw [q6]; exact q2, jA_old g a (Array.getElem?_eq_some_iff.mp q3).1⟩, vk_OFof q1 (va_eqt (w _ (List.mem_of_getElem? (i := 1) rfl))) (jA_old g), vk_OFof q1 (va_eqv (w _ (List.mem_of_getElem? (i := 2) rfl)) s1) (jA_old g), hbs.1, hbs.2, v, ⟨cA2, s3, s5, by rw [s6]; exact s2, jA_old g a2 (Array.getElem?_eq_some_iff.mp s3).1⟩, vk_OFof s1 (va_eqt (ws _ (List.mem_append_left _ (List.mem_of_getElem? (i := 1) rfl)))) (jA_old g), vk_OFof s1 ht (jA_old g), hT⟩⟩
    · exact ⟨(0, 0), fun h => absurd h hi⟩
  obtain ⟨ad, had⟩ := Classical.axiomOfChoice h0
  have wk : ∀ c ∈ kwK, c.before #[Value.ref b] (j0 g) = true := fun c hm => hg c (kwK_in c hm)
  obtain ⟨K, k1, k2⟩ := va_Tof (f := fun j => .ref (ad j).1) (A := jA g) (N := 8) (by decide) (wk _ (List.mem_of_getElem? (i := 0) rfl)) (va_eqt (wk _ (List.mem_of_getElem? (i := 1) rfl))) (fun j hj => va_eqv (hg _ (kwC_in j hj _ (List.mem_of_getElem? (i := 3) rfl))) (had j hj).1) (jA_old g)
  obtain ⟨w9, w1, w2⟩ := va_Tof (f := fun j => .int (nI (j + 1))) (A := jA g) (N := 8) (by decide) (wk _ (List.mem_of_getElem? (i := 2) rfl)) (va_eqt (wk _ (List.mem_of_getElem? (i := 3) rfl))) (fun j hj => va_eqt (hg _ (kwC_in j hj _ (List.mem_of_getElem? (i := 4) rfl)))) (jA_old g)
  exact ⟨K, fun i => (ad i).1, fun i => (ad i).2, w9, va_Zof (hb _ tw_5_149) (hb _ tw_1_9) k1 (jA_old g), k2, va_Zof (hb _ tw_5_208) (hb _ tw_1_30) w1 (jA_old g), w2, va_Zof (hb _ tw_1_210) (hb _ tw_1_11) (had 3 (by decide)).1 (jA_old g), fun i hi => (had i hi).2⟩
theorem jOk.s205 {g : jG} (h : jOk g) : ∃ a, vk_R "StarPressModel" 205 "ar" a (j0 g) ∧ oStr g a [97, 114] := by
  obtain ⟨a, h1, h2, -⟩ := h.str (own := "StarPressModel") (bs := [97, 114]) tw_7_226 (by decide) (by decide) (in_ix _ [911, 912, 913, 914, 915, 916] (by decide +kernel))
  exact ⟨a, h1, h2⟩
theorem jOk.s211 {g : jG} (h : jOk g) : ∃ a, vk_R "StarPressModel" 211 "ft" a (j0 g) ∧ oStr g a [102, 116] := by
  obtain ⟨a, h1, h2, -⟩ := h.str (own := "StarPressModel") (bs := [102, 116]) tw_7_237 (by decide) (by decide) (in_ix _ [917, 918, 919, 920, 921, 922] (by decide +kernel))
  exact ⟨a, h1, h2⟩
theorem jOk.s216 {g : jG} (h : jOk g) : ∃ a, vk_R "StarPressModel" 216 "eet" a (j0 g) ∧ oStr g a [101, 101, 116] := by
  obtain ⟨a, h1, h2, -⟩ := h.str (own := "StarPressModel") (bs := [101, 101, 116]) tw_8_2 (by decide) (by decide) (in_ix _ [923, 924, 925, 926, 927, 928, 929] (by decide +kernel))
  exact ⟨a, h1, h2⟩
theorem jOk.s221 {g : jG} (h : jOk g) : ∃ a, vk_R "StarPressModel" 221 "ack" a (j0 g) ∧ oStr g a [97, 99, 107] := by
  obtain ⟨a, h1, h2, -⟩ := h.str (own := "StarPressModel") (bs := [97, 99, 107]) tw_8_3 (by decide) (by decide) (in_ix _ [930, 931, 932, 933, 934, 935, 936] (by decide +kernel))
  exact ⟨a, h1, h2⟩
theorem jOk.s223 {g : jG} (h : jOk g) : ∃ a, vk_R "StarPressModel" 223 "ut" a (j0 g) ∧ oStr g a [117, 116] := by
  obtain ⟨a, h1, h2, -⟩ := h.str (own := "StarPressModel") (bs := [117, 116]) tw_8_4 (by decide) (by decide) (in_ix _ [937, 938, 939, 940, 941, 942] (by decide +kernel))
  exact ⟨a, h1, h2⟩
theorem jOk.s225 {g : jG} (h : jOk g) : ∃ a, vk_R "StarPressModel" 225 "our" a (j0 g) ∧ oStr g a [111, 117, 114] := by
  obtain ⟨a, h1, h2, -⟩ := h.str (own := "StarPressModel") (bs := [111, 117, 114]) tw_8_5 (by decide) (by decide) (in_ix _ [943, 944, 945, 946, 947, 948, 949] (by decide +kernel))
  exact ⟨a, h1, h2⟩
theorem jOk.s227 {g : jG} (h : jOk g) : ∃ a, vk_R "StarPressModel" 227 "int" a (j0 g) ∧ oStr g a [105, 110, 116] := by
  obtain ⟨a, h1, h2, -⟩ := h.str (own := "StarPressModel") (bs := [105, 110, 116]) tw_8_6 (by decide) (by decide) (in_ix _ [950, 951, 952, 953, 954, 955, 956] (by decide +kernel))
  exact ⟨a, h1, h2⟩
theorem jOk.s229 {g : jG} (h : jOk g) : ∃ a, vk_R "StarPressModel" 229 "late " a (j0 g) ∧ oStr g a [108, 97, 116, 101, 32] := by
  obtain ⟨a, h1, h2, -⟩ := h.str (own := "StarPressModel") (bs := [108, 97, 116, 101, 32]) tw_8_7 (by decide) (by decide) (in_ix _ [957, 958, 959, 960, 961, 962, 963, 964, 965] (by decide +kernel))
  exact ⟨a, h1, h2⟩
theorem st_coder {l : Launch} {g : jG} (hok : jOk g) (hst : l.stackTraces = false) {z : Option Nat} {sk : jS} {t : jT} {a : Nat} {bs : List Nat} (hS : oStr g a bs) : jMet l g mJ0_coder_7d493 1 0 0 [.ref a] z sk t (jE (some (.int (nI 0))) z sk t) := by
  refine j_body (lv := [some (.ref a)]) i_J0_coder_7d493 hok hst (fun p e s m args below meth c X => ?_)
  obtain ⟨hb, hl, v, o1, o2, o3, o4⟩ := hS
  refine j_gets X hok.compact tw_5_162 dJ0_coder_7d493_0 ?_
  refine j_if_eq X (tgt := 13) dJ0_coder_7d493_3 (by decide) (fun q9 => absurd q9 (by decide)) (fun _ => ?_)
  refine j_aload_n X (i := 0) dJ0_coder_7d493_6 rfl rfl ?_
  refine j_getO X o2 tw_8_73 dJ0_coder_7d493_7 ?_
  refine j_goto X (tgt := 14) dJ0_coder_7d493_10 (by decide) ?_
  exact j_iret X dJ0_coder_7d493_14 rfl rfl ⟨rfl, rfl, rfl, rfl⟩

theorem st_isLatin1 {l : Launch} {g : jG} (hok : jOk g) (hst : l.stackTraces = false) {z : Option Nat} {sk : jS} {t : jT} {a : Nat} {bs : List Nat} (hS : oStr g a bs) : jMet l g mJ0_isLatin1_aae02 1 0 0 [.ref a] z sk t (jE (some (.int (nI 1))) z sk t) := by
  refine j_body (lv := [some (.ref a)]) i_J0_isLatin1_aae02 hok hst (fun p e s m args below meth c X => ?_)
  obtain ⟨hb, hl, v, o1, o2, o3, o4⟩ := hS
  refine j_gets X hok.compact tw_5_162 dJ0_isLatin1_aae02_0 ?_
  refine j_if_eq X (tgt := 17) dJ0_isLatin1_aae02_3 (by decide) (fun q9 => absurd q9 (by decide)) (fun _ => ?_)
  refine j_aload_n X (i := 0) dJ0_isLatin1_aae02_6 rfl rfl ?_
  refine j_getO X o2 tw_8_73 dJ0_isLatin1_aae02_7 ?_
  refine j_if_ne X (tgt := 17) dJ0_isLatin1_aae02_10 (by decide) (fun q9 => absurd (by decide) q9) (fun _ => ?_)
  refine j_iconst X (v := (nI 1)) dJ0_isLatin1_aae02_13 (by decide) ?_
  refine j_goto X (tgt := 18) dJ0_isLatin1_aae02_14 (by decide) ?_
  exact j_iret X dJ0_isLatin1_aae02_18 rfl rfl ⟨rfl, rfl, rfl, rfl⟩

theorem st_length {l : Launch} {g : jG} (hok : jOk g) (hst : l.stackTraces = false) {z : Option Nat} {sk : jS} {t : jT} {a : Nat} {bs : List Nat} (hS : oStr g a bs) : jMet l g mJ0_length_8abf5 2 0 0 [.ref a] z sk t (jE (some (.int (nI bs.length))) z sk t) := by
  refine j_body (lv := [some (.ref a)]) i_J0_length_8abf5 hok hst (fun p e s m args below meth c X => ?_)
  obtain ⟨hb, hl, v, o1, o2, o3, o4⟩ := id hS
  refine j_aload_n X (i := 0) dJ0_length_8abf5_0 rfl rfl ?_
  refine j_getO X o3 tw_8_72 dJ0_length_8abf5_1 ?_
  refine j_tlen X o4 dJ0_length_8abf5_4 ?_
  refine j_aload_n X (i := 0) dJ0_length_8abf5_5 rfl rfl ?_
  refine j_callVO X (st_coder hok hst hS) o1 i_J0_coder_7d493 tw_5_158 tw_5_159 tw_5_160 dJ0_length_8abf5_6 (fun v2 z2 sk2 t2 hp => ?_)
  obtain ⟨rfl, rfl, rfl, rfl⟩ := hp
  refine j_ishr X dJ0_length_8abf5_9 ?_
  rw [show nI bs.length >>> (nI 0 &&& 31) = nI bs.length from (pk_shrN (show bs.length < 2 ^ 31 by omega) (nI 0 &&& 31) 0 (by decide)).trans (by rw [Nat.pow_zero, Nat.div_one])]
  exact j_iret X dJ0_length_8abf5_10 rfl rfl ⟨rfl, rfl, rfl, rfl⟩

theorem st_check3n {l : Launch} {g : jG} (hok : jOk g) (hst : l.stackTraces = false) {z : Option Nat} {sk : jS} {t : jT} {k n : Nat} (hk : k < n) (hn : n < 2 ^ 31) : jMet l g mJ3_checkIndex_8e157 1 0 0 [.int (nI k), .int (nI n), .null] z sk t (jE (some (.int (nI k))) z sk t) := by
  refine j_body (lv := [some (.int (nI k)), some (.int (nI n)), some (.null)]) i_J3_checkIndex_8e157 hok hst (fun p e s m args below meth c X => ?_)
  refine j_iload_n X (i := 0) dJ3_checkIndex_8e157_0 rfl rfl ?_
  refine j_if_lt X (tgt := 9) dJ3_checkIndex_8e157_1 (by decide) (fun q9 => absurd q9 ((nI_pos (by omega)))) (fun _ => ?_)
  refine j_iload_n X (i := 0) dJ3_checkIndex_8e157_4 rfl rfl ?_
  refine j_iload_n X (i := 1) dJ3_checkIndex_8e157_5 rfl rfl ?_
  refine j_icmp_lt X (tgt := 16) dJ3_checkIndex_8e157_6 (by decide) (fun _ => ?_) (fun q9 => absurd (nI_lt hk hn) q9)
  refine j_iload_n X (i := 0) dJ3_checkIndex_8e157_16 rfl rfl ?_
  exact j_iret X dJ3_checkIndex_8e157_17 rfl rfl ⟨rfl, rfl, rfl, rfl⟩

theorem st_check3r {l : Launch} {g : jG} (hok : jOk g) (hst : l.stackTraces = false) {z : Option Nat} {sk : jS} {t : jT} {r9 : Nat} {k n : Nat} (hk : k < n) (hn : n < 2 ^ 31) : jMet l g mJ3_checkIndex_8e157 1 0 0 [.int (nI k), .int (nI n), .ref r9] z sk t (jE (some (.int (nI k))) z sk t) := by
  refine j_body (lv := [some (.int (nI k)), some (.int (nI n)), some (.ref r9)]) i_J3_checkIndex_8e157 hok hst (fun p e s m args below meth c X => ?_)
  refine j_iload_n X (i := 0) dJ3_checkIndex_8e157_0 rfl rfl ?_
  refine j_if_lt X (tgt := 9) dJ3_checkIndex_8e157_1 (by decide) (fun q9 => absurd q9 ((nI_pos (by omega)))) (fun _ => ?_)
  refine j_iload_n X (i := 0) dJ3_checkIndex_8e157_4 rfl rfl ?_
  refine j_iload_n X (i := 1) dJ3_checkIndex_8e157_5 rfl rfl ?_
  refine j_icmp_lt X (tgt := 16) dJ3_checkIndex_8e157_6 (by decide) (fun _ => ?_) (fun q9 => absurd (nI_lt hk hn) q9)
  refine j_iload_n X (i := 0) dJ3_checkIndex_8e157_16 rfl rfl ?_
  exact j_iret X dJ3_checkIndex_8e157_17 rfl rfl ⟨rfl, rfl, rfl, rfl⟩

theorem st_check0 {l : Launch} {g : jG} (hok : jOk g) (hst : l.stackTraces = false) {z : Option Nat} {sk : jS} {t : jT} {k n : Nat} (hk : k < n) (hn : n < 2 ^ 31) : jMet l g mJ0_checkIndex_df160 2 0 0 [.int (nI k), .int (nI n)] z sk t (jE none z sk t) := by
  refine j_body (lv := [some (.int (nI k)), some (.int (nI n))]) i_J0_checkIndex_df160 hok hst (fun p e s m args below meth c X => ?_)
  rcases hok.sioobe with hz | ⟨r9, hz⟩
  · refine j_iload_n X (i := 0) dJ0_checkIndex_df160_0 rfl rfl ?_
    refine j_iload_n X (i := 1) dJ0_checkIndex_df160_1 rfl rfl ?_
    refine j_gets X hz tw_5_178 dJ0_checkIndex_df160_2 ?_
    refine j_callS X (st_check3n hok hst hk hn) i_J3_checkIndex_8e157 tw_5_180 tw_5_181 dJ0_checkIndex_df160_5 ?_ 
    refine j_pop X dJ0_checkIndex_df160_8 rfl ?_
    exact j_vret X dJ0_checkIndex_df160_9 rfl ⟨rfl, rfl, rfl, rfl⟩
  · refine j_iload_n X (i := 0) dJ0_checkIndex_df160_0 rfl rfl ?_
    refine j_iload_n X (i := 1) dJ0_checkIndex_df160_1 rfl rfl ?_
    refine j_gets X hz tw_5_178 dJ0_checkIndex_df160_2 ?_
    refine j_callS X (st_check3r hok hst hk hn) i_J3_checkIndex_8e157 tw_5_180 tw_5_181 dJ0_checkIndex_df160_5 ?_ 
    refine j_pop X dJ0_checkIndex_df160_8 rfl ?_
    exact j_vret X dJ0_checkIndex_df160_9 rfl ⟨rfl, rfl, rfl, rfl⟩

theorem b127 : ∀ b, b < 128 → (nI b &&& nI 255 = nI b) ∧ ((nI b).toUInt32 % 65536).toInt32 = nI b := by decide +kernel
theorem st_lchar {l : Launch} {g : jG} (hok : jOk g) (hst : l.stackTraces = false) {z : Option Nat} {sk : jS} {t : jT} {v n : Nat} {bs : List Nat} (hT : va_T .byte v n (fun j => .int (nI (bs.getD j 0))) (jA g) (j0 g) (j0 g).heap) (hb : ∀ b ∈ bs, b < 128) {k : Nat} (hk : k < n) (hn : n < 2 ^ 31) : jMet l g mJ1_charAt_3b067 3 0 0 [.ref v, .int (nI k)] z sk t (jE (some (.int (nI (bs.getD k 0)))) z sk t) := by
  refine j_body (lv := [some (.ref v), some (.int (nI k))]) i_J1_charAt_3b067 hok hst (fun p e s m args below meth c X => ?_)
  have hb1 : bs.getD k 0 < 128 := by
    rw [List.getD_eq_getElem?_getD]
    cases hq : bs[k]? with
    | none => decide
    | some b => exact hb b (List.mem_of_getElem? hq)
  refine j_iload_n X (i := 1) dJ1_charAt_3b067_0 rfl rfl ?_
  refine j_aload_n X (i := 0) dJ1_charAt_3b067_1 rfl rfl ?_
  refine j_tlen X hT dJ1_charAt_3b067_2 ?_
  refine j_callS X (st_check0 hok hst hk hn) i_J0_checkIndex_df160 tw_5_175 tw_5_176 dJ1_charAt_3b067_3 ?_ 
  refine j_aload_n X (i := 0) dJ1_charAt_3b067_6 rfl rfl ?_
  refine j_iload_n X (i := 1) dJ1_charAt_3b067_7 rfl rfl ?_
  refine j_tb X hT rfl hk hn rfl dJ1_charAt_3b067_8 ?_
  refine j_sipush X (v := (nI 255)) dJ1_charAt_3b067_9 (by decide) ?_
  refine j_iand X dJ1_charAt_3b067_12 ?_
  rw [(b127 _ hb1).1]
  refine j_i2c X dJ1_charAt_3b067_13 (b127 _ hb1).2 ?_
  exact j_iret X dJ1_charAt_3b067_14 rfl (pk_charN (Nat.lt_trans hb1 (by decide))).1 ⟨rfl, rfl, rfl, rfl⟩

theorem st_charAt {l : Launch} {g : jG} (hok : jOk g) (hst : l.stackTraces = false) {z : Option Nat} {sk : jS} {t : jT} {a : Nat} {bs : List Nat} (hS : oStr g a bs) {k : Nat} (hk : k < bs.length) : jMet l g mJ0_charAt_5068e 4 0 0 [.ref a, .int (nI k)] z sk t (jE (some (.int (nI (bs.getD k 0)))) z sk t) := by
  refine j_body (lv := [some (.ref a), some (.int (nI k))]) i_J0_charAt_5068e hok hst (fun p e s m args below meth c X => ?_)
  obtain ⟨hb, hl, v, o1, o2, o3, o4⟩ := id hS
  have hb1 : bs.getD k 0 < 128 := by
    rw [List.getD_eq_getElem?_getD]
    cases hq : bs[k]? with
    | none => decide
    | some b => exact hb b (List.mem_of_getElem? hq)
  refine j_aload_n X (i := 0) dJ0_charAt_5068e_0 rfl rfl ?_
  refine j_callVO X (st_isLatin1 hok hst hS) o1 i_J0_isLatin1_aae02 tw_5_168 tw_5_169 tw_5_170 dJ0_charAt_5068e_1 (fun v2 z2 sk2 t2 hp => ?_)
  obtain ⟨rfl, rfl, rfl, rfl⟩ := hp
  refine j_if_eq X (tgt := 16) dJ0_charAt_5068e_4 (by decide) (fun q9 => absurd q9 (by decide)) (fun _ => ?_)
  refine j_aload_n X (i := 0) dJ0_charAt_5068e_7 rfl rfl ?_
  refine j_getO X o3 tw_8_72 dJ0_charAt_5068e_8 ?_
  refine j_iload_n X (i := 1) dJ0_charAt_5068e_11 rfl rfl ?_
  refine j_callS X (st_lchar hok hst o4 hb hk (by omega)) i_J1_charAt_3b067 tw_5_172 tw_5_173 dJ0_charAt_5068e_12 ?_ 
  exact j_iret X dJ0_charAt_5068e_15 rfl (pk_charN (Nat.lt_trans hb1 (by decide))).1 ⟨rfl, rfl, rfl, rfl⟩

theorem st_ordinal {l : Launch} {g : jG} (hok : jOk g) (hst : l.stackTraces = false) {z : Option Nat} {sk : jS} {t : jT} {a : Nat} {v : Int32} (ho : va_OF "java/lang/Enum" "ordinal" "I" (.int v) a (jA g) (j0 g) (j0 g).heap) : jMet l g mJx29ce0_ordinal_8abf5 1 0 0 [.ref a] z sk t (jE (some (.int v)) z sk t) := by
  refine j_body (lv := [some (.ref a)]) i_Jx29ce0_ordinal_8abf5 hok hst (fun p e s m args below meth c X => ?_)
  refine j_aload_n X (i := 0) dJx29ce0_ordinal_8abf5_0 rfl rfl ?_
  refine j_getO X ho tw_8_74 dJx29ce0_ordinal_8abf5_1 ?_
  exact j_iret X dJx29ce0_ordinal_8abf5_4 rfl rfl ⟨rfl, rfl, rfl, rfl⟩

