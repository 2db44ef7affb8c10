/-! THE CLAIM OUT OF ONE WALK OF THE LAW'S BODY. Your part is whole_start (and what it stands on); all else here is the same for every law, but numbers. -/
def R_law : String := "StarPressLaw"
def lw_P (b : Addr) (xs : List Int32) (args : Array Value) (s : State) : Prop := args = #[.ref b] ∧ s.IntsAt b xs ∧ xs.length ≤ 2560 ∧ (Jvm.Cond.and given_1 narrow_1).before args s = true
/-- what a walk over the start with the record d0 says of its end, said of the start itself -/
theorem lw_closed {s t : State} {o : Outcome} {d0 : Drawn} {L : List Loc} {k n : Nat} (hd0 : s.drawn.sameBut d0 lw_cs) (hv : ∃ v, o = .returned v) (hW : (s.setDrawn d0).WarmedH t.vm) (hs : (s.setDrawn d0).sameButNew ({ t with vm := s.vm } : State) L k n) : State.butDraws s t lw_cs (fun t1 => Framed s o t1 L k n) := by
  have h2 : t.drawn = d0 := congrArg State.drawn hs.1
  refine ⟨⟨hv, hW, State.sameButNew.setDrawn hs s.drawn⟩, ?_, by decide⟩
  rw [h2]
  exact hd0
def lw_Q (_ : Array Value) (s : State) (o : Outcome) (t : State) : Prop := o = .returned (some (.int 1)) ∧ State.butDraws s t lw_cs (fun t1 => Framed s o t1 [] 603072 7219306)
def lw_Z (below : List Frame) (a : Array Value) (s : State) : State → Prop := fun t => ∃ o, t.status = .running ∧ Ended t below o ∧ lw_Q a s o t
/-- the law's own end, with 1 on the stack, nothing written that was there before, its room as the claim has it; d0: the record of draws at this point (at the entry s.drawn: begin with 'refine W.base ?_' and 'have hd0 := Drawn.sameBut.refl s.drawn lw_cs') -/
theorem lw_ret {p : Program} {l : Launch} {e : Env} {s : State} {m : MethodId} {below : List Frame} {meth : Method} {c : Code} {b : Nat} {d0 : Drawn} (hd0 : s.drawn.sameBut d0 lw_cs) (hx : p.tables.exec = Jvm.exec) (hb : c.code = code) (hr : meth.sig.returnType = ret) (hlocks : meth.locks = false) {pc : Nat} {H : Heap} {ls : Array Slot} (hdg : decode code pc = .ok (.ireturn, 1)) : W p l e room_1 (s.setDrawn d0) m #[Value.ref b] below meth c H [] 603072 7219306 (lw_Z below #[Value.ref b] s) (F0 m pc ls [.int 1]) := by
  intro T hT X
  obtain ⟨fs, hret, hrun, hended, hW, hframe⟩ := X.leave (v := some (.int 1)) (hlocks := hlocks) (fun h => by rw [hr] at h; cases h)
  have hmeth' : T.vm.method? m = some meth := X.method'
  refine ⟨T.setFrames fs, ?_, .returned (some (.int 1)), hrun, hended, rfl, lw_closed hd0 ⟨_, rfl⟩ hW hframe⟩
  jvm_step X.here [X.here.top, hx, hb, hdg, hmeth', hr, ret, narrow_b1]
  (try refine ⟨rfl, ?_⟩); (try refine ⟨rfl, ?_⟩)
  first | (intro acts; rw [hret _ acts rfl rfl rfl]) | rw [hret _ _ rfl rfl rfl]
  exact Steps.refl _
/-- what holds at the law's entry: the machine, the code, the tables' words (any of lw_tbl by 'hts w (by decide +kernel)'), the script of L ints xs at the cell b, what the Statement gives of the start (any of its parts by flat_of_before) -/
def lw_At (p : Program) (s : State) (m : MethodId) (meth : Method) (c : Code) (b L : Nat) (xs : Nat → Int32) : Prop :=
  p.tables.exec = Jvm.exec ∧ c.code = code ∧ meth.sig.returnType = ret ∧ c.maxLocals = 9 ∧ s.vm.findClass R_law = some m.cls ∧ (∀ w ∈ lw_tbl, w.before #[Value.ref b] s = true) ∧ va_X b L xs s s.heap ∧ b < s.heap.size ∧ meth.locks = false ∧ (Jvm.Cond.and given_1 narrow_1).before #[Value.ref b] s = true
theorem uw_J0 : ∀ w ∈ u_ws RJ0 TJ0 2, w ∈ lw_tbl := by
  intro w h
  obtain ⟨k, hk, rfl⟩ := List.mem_map.mp h
  have hk := List.mem_range.mp hk
  match k, hk with
  | 0, _ => exact tw_3_132
  | 1, _ => exact tw_3_134
  | k + 2, h => exact absurd h (by omega)
theorem uw_Jx00060 : ∀ w ∈ u_ws RJx00060 TJx00060 6, w ∈ lw_tbl := by
  intro w h
  obtain ⟨k, hk, rfl⟩ := List.mem_map.mp h
  have hk := List.mem_range.mp hk
  match k, hk with
  | 0, _ => exact tw_3_120
  | 1, _ => exact tw_3_121
  | 2, _ => exact tw_3_122
  | 3, _ => exact tw_3_123
  | 4, _ => exact tw_3_124
  | 5, _ => exact tw_3_125
  | k + 6, h => exact absurd h (by omega)
/-- the classes of the rows -/
theorem arr_of {s : State} {b : Nat} (hts : ∀ w ∈ lw_tbl, w.before #[Value.ref b] s = true) : ∀ ty ∈ jtys, ∃ cA : ClassId, ArrOfT s cA ty ∧ va_RA s cA ty := by
  have hp : ∀ ty : FieldType, Cond.arrayClass ty ∈ lw_tbl → (∀ cA : ClassId, s.vm.findClass ("[" ++ ty.toString) = some cA → va_RA s cA ty) → ∃ cA : ClassId, ArrOfT s cA ty ∧ va_RA s cA ty := fun ty hw hr => by
    obtain ⟨cA, kA, comp, h1, h2, h3⟩ := Cond.arrayClass_spec (hts _ hw)
    exact ⟨cA, fun n z => ⟨fun k h => (by cases h), kA, h2, comp, h3⟩, hr cA h1⟩
  have ho : ∀ C : String, Cond.arrayOver (.object C) ∈ lw_tbl → ∃ cA : ClassId, ArrOfT s cA (.object C) ∧ va_RA s cA (.object C) := fun C hw => by
    obtain ⟨comp, cA, kA, h1, -, h2, h3, h4⟩ := Cond.arrayOver_spec (hts _ hw)
    exact ⟨cA, fun n z => ⟨fun k h => (by cases h), kA, h2, comp, h3⟩, kA, comp, h2, h3, h1, h4⟩
  intro ty hty
  simp only [jtys, List.mem_cons, List.not_mem_nil, or_false] at hty
  rcases hty with rfl | rfl | rfl | rfl | rfl | rfl | rfl
  · exact hp _ tw_1_77 (fun _ h => h)
  · exact hp _ tw_2_1 (fun _ h => h)
  · exact hp _ tw_8_48 (fun _ h => h)
  · exact hp _ tw_8_49 (fun _ h => h)
  · exact ho _ tw_1_46
  · exact ho _ tw_1_48
  · exact ho _ tw_1_138
/-- what the law stands on at its entry -/
theorem ok_at {s : State} {b : Nat} (hts : ∀ w ∈ lw_tbl, w.before #[Value.ref b] s = true) (hgv : (Jvm.Cond.and given_1 narrow_1).before #[Value.ref b] s = true) : ∃ g : jG, j0 g = s ∧ jOk g := by
  obtain ⟨c0, iS0, hK0⟩ := u_known (C := RJ0) (T := TJ0) (N := 2) (n := 4) hts uw_J0 (hts _ tw_3_131)
  obtain ⟨c1, iS1, hK1⟩ := u_known (C := RJx00060) (T := TJx00060) (N := 6) (n := 6) hts uw_Jx00060 (hts _ tw_3_116)
  obtain ⟨c2, iS2, hK2⟩ := u_known (C := RX1) (T := TX1) (N := 8) (n := 8) hts uw_X1 (hts _ tw_1_152)
  obtain ⟨c3, iS3, hK3⟩ := u_known (C := RX2) (T := TX2) (N := 3) (n := 3) hts uw_X2 (hts _ tw_1_132)
  obtain ⟨c4, iS4, hK4⟩ := u_known (C := RX3) (T := TX3) (N := 8) (n := 8) hts uw_X3 (hts _ tw_1_204)
  obtain ⟨c5, iS5, hK5⟩ := u_known (C := RX5) (T := TX5) (N := 4) (n := 4) hts uw_X5 (hts _ tw_1_49)
  obtain ⟨c6, iS6, hK6⟩ := u_known (C := RX6) (T := TX6) (N := 2) (n := 2) hts uw_X6 (hts _ tw_1_189)
  obtain ⟨c7, iS7, hK7⟩ := u_known (C := RX7) (T := TX7) (N := 5) (n := 5) hts uw_X7 (hts _ tw_1_78)
  obtain ⟨c8, iS8, hK8⟩ := u_known (C := RX8) (T := TX8) (N := 6) (n := 6) hts uw_X8 (hts _ tw_1_40)
  obtain ⟨c9, iS9, hK9⟩ := u_known (C := RX9) (T := TX9) (N := 12) (n := 12) hts uw_X9 (hts _ tw_1_32)
  obtain ⟨c10, iS10, hK10⟩ := u_known (C := RX10) (T := TX10) (N := 21) (n := 21) hts uw_X10 (hts _ tw_6_55)
  obtain ⟨dC, dI, hKc⟩ : ∃ (dC : Nat → ClassId) (dI : Nat → Nat → Nat), ∀ (k : Nat) (q : vw_C), vwCl[k]? = some q → u_Kn s q.1 q.2.1 q.2.2 (dC k) (dI k) := by
    refine ⟨fun k => if k = 0 then c0 else if k = 1 then c1 else if k = 2 then c2 else if k = 3 then c3 else if k = 4 then c4 else if k = 5 then c5 else if k = 6 then c6 else if k = 7 then c7 else if k = 8 then c8 else if k = 9 then c9 else c10, fun k => if k = 0 then iS0 else if k = 1 then iS1 else if k = 2 then iS2 else if k = 3 then iS3 else if k = 4 then iS4 else if k = 5 then iS5 else if k = 6 then iS6 else if k = 7 then iS7 else if k = 8 then iS8 else if k = 9 then iS9 else iS10, ?_⟩
    intro k q hq
    match k, hq with
    | 0, hq => cases hq; exact hK0
    | 1, hq => cases hq; exact hK1
    | 2, hq => cases hq; exact hK2
    | 3, hq => cases hq; exact hK3
    | 4, hq => cases hq; exact hK4
    | 5, hq => cases hq; exact hK5
    | 6, hq => cases hq; exact hK6
    | 7, hq => cases hq; exact hK7
    | 8, hq => cases hq; exact hK8
    | 9, hq => cases hq; exact hK9
    | 10, hq => cases hq; exact hK10
    | k + 11, hq => simp [vwCl] at hq
  have ha := arr_of hts
  refine ⟨(s, (dC, dI), fun ty => Classical.epsilon (fun cA : ClassId => ArrOfT s cA ty ∧ va_RA s cA ty)), rfl, ⟨b, hts, hgv⟩, ⟨hKc, fun k q h => by simp at h⟩, fun ty hty => ?_⟩
  exact Classical.epsilon_spec (p := fun cA : ClassId => ArrOfT s cA ty ∧ va_RA s cA ty) (ha ty hty)
theorem RmG.mid {t u : jT} {M : Nat} {w : WB} {G : GS} (h : RmG t M w G) (e : ∀ c, M ≤ c → c < M + 8 → u c = t c) : RmG u M w G := by
  have h9 : RmG t M w G = RmG u M w G := by
    unfold RmG
    rw [e M (by omega) (by omega), e (M + 1) (by omega) (by omega), e (M + 2) (by omega) (by omega), e (M + 5) (by omega) (by omega), e (M + 6) (by omega) (by omega)]
    have q1 : RmO u M (gS G) = RmO t M (gS G) := by cases gS G <;> simp only [RmO, e M (by omega) (by omega), e (M + 3) (by omega) (by omega)]
    have q2 : RmR u M (gR G) = RmR t M (gR G) := by cases gR G <;> simp only [RmR, e M (by omega) (by omega)]
    have q3 : RmB u M = RmB t M := by simp only [RmB, e M (by omega) (by omega)]
    rw [q1, q2, q3]
  rw [← h9]
  exact h
-- ===== YOUR PART BEGINS =====
theorem whole_start {p : Program} {e : Env} {s : State} {m : MethodId} {below : List Frame} {meth : Method} {c : Code} (l : Launch) (hflags : l.flags = flags0) {b L : Nat} {xs : Nat → Int32} (hL : L ≤ 2560) (C0 : lw_At p s m meth c b L xs) : W p l e room_1 s m #[Value.ref b] below meth c s.heap [] 0 0 (lw_Z below #[Value.ref b] s) (entryFrame m ([Value.ref b] : List Value).toArray 9) := by
  obtain ⟨hx, hb, hr, hml, hown, hts, hX, hbl, hlocks, hgv⟩ := C0
  obtain ⟨g, hg, hok⟩ := ok_at hts hgv
  have hst : l.stackTraces = false := by
    show (!l.flags.contains noTraceFlag) = false
    rw [hflags]
    decide
  obtain ⟨K, kw, sa, w9, hK9⟩ := hok.kw
  have hjb : jb g = s.heap.size := congrArg (fun q : State => q.heap.size) hg
  have X : jX p l s m #[Value.ref b] meth c (mLaw meth.name) g none := ⟨hx, hb, hml, hown, hlocks, hr, rfl, hst, hok, by rw [hg]; exact State.WarmedH.refl s, ⟨Nat.le_of_eq hjb, fun q _ => by rw [hg]⟩, fun L h => by cases h⟩
  have hX9 : va_X b L xs (j0 g) (j0 g).heap := by rw [hg]; exact hX
  have hb9 : b < jb g := by rw [hjb]; exact hbl
  have kend : ∀ (cells slots : Nat) (z : Option Nat) (sk : jS) (t : jT) (lv : List (Option Value)), cells ≤ 603072 → slots ≤ 7219306 → J p l e room_1 s m #[Value.ref b] below meth c (lw_Z below #[Value.ref b] s) 9 g cells slots z sk t 3215 lv [] := by
    intro cells slots z sk t lv h1 h2
    refine j_iconst X (v := 1) dL_law_3215 (by decide) ?_
    intro H locs ls hM hF hFl hZ hL9
    exact va_forget (fun q hq => by have := hFl q hq; omega) (W.widen h1 h2 (lw_ret (d0 := s.drawn) (Drawn.sameBut.refl s.drawn lw_cs) hx hb hr hlocks dL_law_3216))
  have go : J p l e room_1 s m #[Value.ref b] below meth c (lw_Z below #[Value.ref b] s) 9 g 0 0 (some 0) (fun _ => none) (fun _ _ => nI 0) 0 [some (.ref b), none, none, none, none, none, none, none, none] [] := by
    refine j_new X nw_X9 tw_1_31 dL_law_0 ?_ 
    refine j_dup X dL_law_3 rfl ?_
    refine j_callI_p X (c_Press hok hst rfl (jN_eq _ _ _) hK9) i_X9_init tw_1_33 tw_1_34 rfl rfl dL_law_4 (fun v2 z2 sk2 t2 hp => ?_)
    obtain ⟨rfl, rfl, hP, hG, hf⟩ := hp
    refine j_astore_n X (i := 1) dL_law_7 rfl (by decide) rfl ?_
    refine j_new X nw_X10 tw_6_54 dL_law_8 ?_ 
    refine j_dup X dL_law_11 rfl ?_
    refine j_callI_p X (c_Model hok hst (M := 454) rfl (jN_eq _ _ _) (jT0_eq _ _)) i_X10_init tw_6_56 tw_6_57 rfl rfl dL_law_12 (fun v3 z3 sk3 t3 hq => ?_)
    obtain ⟨rfl, rfl, hM, hR, hf3⟩ := hq
    have e3 : ∀ a, a < 454 → sk3 a = sk2 a ∧ t3 a = t2 a := fun a ha => ⟨(hf3 a (by omega)).1.trans (jN_ne _ _ (by omega)), (hf3 a (by omega)).2.trans (jT0_ne _ (by omega))⟩
    refine j_astore_n X (i := 2) dL_law_15 rfl (by decide) rfl ?_
    refine j_iconst X (v := (nI 1)) dL_law_16 (by decide) ?_
    refine j_newarray X (ty := .long) (N := 1) (k9 := kL 1 (fun _ => 0)) rfl (by decide) tw_8_48 rfl (by decide) (by decide) dL_law_17 ?_ 
    refine j_astore_n X (i := 3) dL_law_19 rfl (by decide) rfl ?_
    refine j_iconst X (v := (nI 1)) dL_law_20 (by decide) ?_
    refine j_newarray X (ty := .double) (N := 1) (k9 := kD 1 (fun _ => 0)) rfl (by decide) tw_8_49 rfl (by decide) (by decide) dL_law_21 ?_ 
    refine j_astore X (i := 4) dL_law_23 (by decide) rfl ?_
    refine j_iconst X (v := (nI 0)) dL_law_25 (by decide) ?_
    refine j_istore X (i := 5) dL_law_26 (by decide) rfl ?_
    refine law_loop X hst hK9 hX9 hb9 hL kend 513 0 _ _ _ g0 rfl ⟨hP.cong fun a ha => by rw [jN_ne _ _ (by omega), jN_ne _ _ (by omega)]; exact (e3 a ha).1, hM.cong fun a h1 h2 => by rw [jN_ne _ _ (by omega), jN_ne _ _ (by omega)], ⟨_, (jN_ne _ _ (by omega)).trans (jN_eq _ _ _)⟩, ⟨_, jN_eq _ _ _⟩, hG.low fun a ha => by rw [jT0_ne _ (by omega), jT0_ne _ (by omega)]; exact (e3 a ha).2, ⟨nI 0, ?_⟩, ok_g0⟩
    exact RmG.mid hR fun a h1 h2 => by rw [jT0_ne _ (by omega), jT0_ne _ (by omega)]
  rw [lg_entry_eq]
  refine go s.heap [] _ (fun i k h => by cases h) ⟨Nat.le_of_eq hjb, fun q _ => by rw [hg]⟩ (fun q h => by cases h) (fun n h => by cases h; exact hjb.symm) ?_
  exact lv_entry ([.ref b]) (n := 9) (Nat.le_of_ble_eq_true rfl)
-- ===== YOUR PART ENDS =====
set_option maxHeartbeats 4000000 in
theorem lw_walk (l : Launch) (hflags : l.flags = flags0) (b : Addr) (xs : List Int32) : MetFree l x (headSpec (Jvm.Cond.code x code maxLocals ret :: tables_1) room_1) (lw_P b xs) (fun _ _ _ _ _ => True) lw_Q := by
  refine MetFree.of_bodyS (code := code) (maxLocals := maxLocals) (ret := ret) (by decide) ?_ ?_
  · intro args s m h hn
    obtain ⟨meth, c, h1, h2, h3, h4, h5, h6, -, -⟩ := Cond.code_spec hn (atoms_spec (ws := Jvm.Cond.code x code maxLocals ret :: tables_1) h _ List.mem_cons_self)
    exact ⟨meth, c, h1, h2, h3, h4, h5, h6⟩
  · intro p e s m args below meth c s₁ B hml0 hP _
    obtain ⟨rfl, hx, hbd, hgv⟩ := hP
    obtain ⟨scr, harrAt, hlist, hof, hsmall⟩ := hx
    obtain ⟨hcb, hkn, -, -⟩ := State.arrayAt?_spec harrAt
    have hown : s.vm.findClass R_law = some m.cls := findClass_of_methodNamed B.named
    have hts0 : ∀ c ∈ (Jvm.Cond.code x code maxLocals ret :: tables_1), c.before #[Value.ref b] s = true := atoms_spec (ws := Jvm.Cond.code x code maxLocals ret :: tables_1) B.pre
    have hts : ∀ w ∈ lw_tbl, w.before #[Value.ref b] s = true := k2_hts_sels lw_privs (fun w hw => hts0 w (List.mem_cons_of_mem _ hw)) lw_privs_ok
    have hml : c.maxLocals = 9 := B.maxLocals_eq (hts0 _ List.mem_cons_self)
    have X₀ : Stand p l e room_1 s m #[Value.ref b] below meth c s₁ [] 0 0 := Stand.of_body B
    have hh0 : s₁.heap = s.heap := by rw [B.state]; rfl
    have hsz : scr.slots.size = xs.length := by rw [← Array.length_toList, hlist, List.length_map]
    have hval : ∀ j : Nat, j < xs.length → scr.slots[j]? = some (.int (xs.getD j 0)) := fun j hj => by
      rw [← Array.getElem?_toList, hlist]
      simp [hj]
    have hbl : b < s.heap.size := (Array.getElem?_eq_some_iff.mp hcb).1
    have hX : va_X b xs.length (fun j => xs.getD j 0) s s.heap := ⟨scr, hcb, hof, hkn, hsz, hval⟩
    have K : W p l e room_1 s m #[Value.ref b] below meth c s₁.heap [] 0 0 (lw_Z below #[Value.ref b] s) (entryFrame m ([Value.ref b] : List Value).toArray 9) := by
      rw [hh0]
      exact whole_start l hflags hbd ⟨B.exec, B.bytes, B.returns, hml, hown, hts, hX, hbl, B.notSynchronized, hgv⟩
    obtain ⟨t, a1, o, b1, b2, b3⟩ := K s₁ rfl X₀
    exact ⟨t, o, a1, b1, b2, b3⟩
theorem lw_pre_spec {args : Array Value} {s : State} (h : (Jvm.Cond.and given_1 narrow_1).before args s = true) (hr : rest_1_c.before args s = true) : ∃ (b : Addr) (xs : List Int32), lw_P b xs args s := by
  have hs := flat_of_before _ h
  have hq := flat_of_before _ hr
  have hc : (Cond.count 1).before args s = true := hs _ (by decide +kernel)
  have harr : (Cond.arrayOf (.arg 0) .int).before args s = true := hs _ (by decide +kernel)
  have hle : (Cond.le (.length (.arg 0)) (.int 2560)).before args s = true := hs _ (by decide +kernel)
  have hlen : (Cond.isInt (.length (.arg 0))).before args s = true := hq _ (by decide +kernel)
  have hall : (Cond.all (.arg 0) (.isInt (.elem (.arg 0) (.index 0)))).before args s = true := hq _ (by decide +kernel)
  obtain ⟨b, xs, hb, hx⟩ := State.ints_of_pre rfl harr hlen hall
  have hsm : xs.length < 2 ^ 31 := hx.choose_spec.2.2.2
  have hev : (Term.length (.arg 0)).eval args s none [] s = some (.int xs.length.toInt32) := hx.length_eval hb
  have hv := Cond.le_ints hev (show (Term.int 2560).eval args s none [] s = some (.int 2560) from rfl)
  have hd : xs.length.toInt32 ≤ 2560 := by
    simpa [Cond.before, Cond.holds, hv] using hle
  have hN : xs.length ≤ 2560 := (Int32.ofNat_le_ofNat hsm (by decide)).mp (show Int32.ofNat xs.length ≤ Int32.ofNat 2560 from hd)
  exact ⟨b, xs, Cond.one_arg hc (show args[0]? = some (.ref b) from hb), hx, hN, h⟩
theorem lw_comes (l : Launch) (hflags : l.flags = flags0) : Comes l x (Jvm.Cond.code x code maxLocals ret :: tables_1) room_1 (fun tb e args s => Calls_1 tb e args s ∧ rest_1 tb e args s ∧ Pre_1 tb e args s)
    (fun _ _ args s o t => lw_Q args s o t) := by
  intro p e ha hc hk s m args below hf hfit hheap happ hpre
  obtain ⟨b, xs, hP⟩ := lw_pre_spec hpre.2.2 hpre.2.1
  obtain ⟨k, o, h1, h2, h3, hQ⟩ := lw_walk l hflags b xs p e ha hc hk s m args below hf ((Spec.applies_iff_loose hf).mp happ).1 hP trivial
  exact ⟨k, o, h1, h2, h3, hQ⟩
theorem lw_frame {s t : State} {o : Outcome} {args : Array Value} (h : State.butDraws s t lw_cs (fun t1 => Framed s o t1 [] 603072 7219306)) :
    State.butDraws s t [Jvm.Choice.named "NaN.bits"] (fun t1 => Framed s o t1 (fieldLocs frame_1_writes args s ++ arrayLocs frame_1_arrays args s ++ staticLocs frame_1_statics s) 603072 7219306) := h
theorem lw_limb (L : Cond) (hL : ∀ (args : Array Value) (s t : State), L.after args s (.returned (some (.int 1))) t = true) :
    ArmFor flags0 classFile x code maxLocals ret World_1 tables_1 room_1 Calls_1 rest_1 Pre_1
      (fun tb e a s o t => postC L tb e a s o t ∧ State.butDraws s t [Jvm.Choice.named "NaN.bits"] (fun t1 => Framed s o t1 (fieldLocs frame_1_writes a s ++ arrayLocs frame_1_arrays a s ++ staticLocs frame_1_statics s) 603072 7219306)) := by
  intro l hflags _ _ p e ha hc hk s m args below hf hfit hheap happ hpre
  obtain ⟨k, o, h1, h2, h3, rfl, hF⟩ := lw_comes l hflags p e ha hc hk s m args below hf hfit hheap happ hpre
  exact ⟨k, _, h1, h2, h3, hL args s _, lw_frame hF⟩
theorem i_vc : Claimed_1_1 ∧ Claimed_1_2 := ⟨lw_limb limb_1_1 (fun args s t => by simp [limb_1_1, Cond.after, Cond.holds, Cond.value]), lw_limb limb_1_2 (fun args s t => Cond.after_iff.mpr (by
  first | (rw [show limb_1_2 = Cond.eq .result (.int 1) from rfl, Cond.eq_ints (x := 1) (y := 1) rfl rfl]; simp; done) | (simp [limb_1_2, Cond.value, Term.eval]; done)))⟩
