def posN (T : TXV) : Nat → Nat
  | 0 => 0
  | i + 1 => (nxR T (posN T i)).1.2
def cmN (T : TXV) (i : Nat) : Nat × A3 := (nxR T (posN T i)).2
def prT (T : TXV) : Bool × Nat × Nat := prR T 60 0 0
theorem prT_st {T : TXV} (h : T.1 ≤ 60) : (prT T).2.2 ≤ T.1 ∧ 5 * (prT T).2.1 ≤ T.1 ∧ ((prT T).1 = true → (prT T).2.2 = T.1) := by
  obtain ⟨a, b, -, d⟩ := prR_st T 60 0 0 (Nat.zero_le _) (Nat.zero_le _) (by omega)
  exact ⟨a, b, d⟩
/-- what reading a text leaves -/
def tP (M : Nat) (T : TXV) (z : Option Nat) (sk : jS) (t : jT) : Option Value → Option Nat → jS → jT → Prop := fun v2 z2 sk2 t2 => v2 = some (.int (nI (prT T).1.toNat)) ∧ z = z2 ∧ sk = sk2 ∧ RX t2 M T (prT T).2.2 ∧ (∀ k, k ≠ 18 → k ≠ 20 → t2 M k = t M k) ∧ (∀ c, c ≠ M → c ≠ M + 7 → t2 c = t c) ∧ ((prT T).1 = true → t2 M 20 = nI (prT T).2.1 ∧ ∀ j, j < (prT T).2.1 → oA (t2 (M + 7)) (4 * j) (cmN T j) ∧ (cmN T j).1 < 8)
theorem oA.cong {f f2 : Nat → Int32} {o : Nat} {x : Nat × A3} (h : oA f o x) (e : ∀ j, o ≤ j → j < o + 4 → f2 j = f j) : oA f2 o x :=
  ⟨(e o (by omega) (by omega)).trans h.1, fun q => (e _ (by omega) (by omega)).trans (h.2.1 q), fun q => (e _ (by omega) (by omega)).trans (h.2.2.1 q), fun q => (e _ (by omega) (by omega)).trans (h.2.2.2 q)⟩
theorem m_isText {l : Launch} {g : jG} (hok : jOk g) (hst : l.stackTraces = false) {z : Option Nat} {sk : jS} {t : jT} {M : Nat} (hM : isMod g sk M) {T : TXV} (hT : t M 11 = nI T.1 ∧ ∀ i, i < T.1 → t (M + 5) i = nI (T.2 i)) (hT1 : T.1 ≤ 60) (hT2 : ∀ i, T.2 i < 65536) : jMet l g mX10_isText 8 0 0 [.ref (jb g + M)] z sk t (tP M T z sk t) := by
  refine j_body (lv := [some (.ref (jb g + M))]) i_X10_isText hok hst (fun p e s m args below meth c X => ?_)
  obtain ⟨M0, M1, M2, M3, M4, M5, M6, M7⟩ := id hM
  have key : ∀ (n i p1 q : Nat) (t3 : jT), prR T n i p1 = prT T → nxR T p1 = cmR T q → posN T i = p1 → T.1 < p1 + 5 * n → 5 * i ≤ p1 → p1 ≤ q → RX t3 M T q → (∀ k, k ≠ 18 → k ≠ 20 → t3 M k = t M k) → (∀ c, c ≠ M → c ≠ M + 7 → t3 c = t c) → t3 M 20 = nI i → (∀ j, j < i → oA (t3 (M + 7)) (4 * j) (cmN T j) ∧ (cmN T j).1 < 8) → J p l e (jR 8 0 0) s m args below meth c (jQm below args s g 0 0 (tP M T z sk t)) 1 g 0 0 z sk t3 10 [some (.ref (jb g + M))] [] := by
    intro n
    induction n with
    | zero =>
      intro i p1 q t3 _ _ _ h1 _ h2 x3
      have := x3.2.2.1
      omega
    | succ n ih =>
      intro i p1 q t3 hpr hnx hpos hf hi hpq x3 e3 f3 h20 hoA
      have hp1 : p1 ≤ T.1 := Nat.le_trans hpq x3.2.2.1
      obtain ⟨n1, n2, n3⟩ := nxR_st T hp1
      unfold prR at hpr
      refine j_aload_n X (i := 0) dX10_isText_10 rfl rfl ?_
      refine j_callV_p X (m_command hok hst hM x3 h20 (by omega)) i_X10_commandHere tw_7_210 tw_7_212 tp_53 M0 rfl dX10_isText_11 (fun v2 z2 sk2 t4 hp => ?_) 
      rw [← cmR_T, ← hnx] at hp
      have hcm : (nxR T p1).2 = cmN T i := by unfold cmN; rw [hpos]
      have hps : posN T (i + 1) = (nxR T p1).1.2 := by show (nxR T (posN T i)).1.2 = _; rw [hpos]
      generalize nxR T p1 = N at hp hcm hps hpr n1 n2 n3
      obtain ⟨⟨b, p2⟩, x⟩ := N
      obtain ⟨rfl, rfl, rfl, x4, e4, f4, g4, o4⟩ := hp
      have x4 : RX t4 M T p2 := x4
      have hcm : x = cmN T i := hcm
      have n1 : p1 ≤ p2 := n1
      have n2 : p2 ≤ T.1 := n2
      cases b with
      | false =>
        have hpr : (false, i, p2) = prT T := hpr
        refine j_if_ne X (tgt := 19) dX10_isText_14 (by decide) (fun q9 => absurd (rfl) q9) (fun _ => ?_)
        refine j_iconst X (v := (nI 0)) dX10_isText_17 (by decide) ?_
        exact j_iret X dX10_isText_18 rfl rfl ⟨by rw [← hpr]; rfl, rfl, rfl, by rw [← hpr]; exact x4, fun k h1 h2 => (e4 k h1).trans (e3 k h1 h2), fun c h1 h2 => (f4 c h1 h2).trans (f3 c h1 h2), fun z9 => absurd (show false = true by rw [← hpr] at z9; exact z9) (by decide)⟩
      | true =>
        have k8 : x.1 < 8 := (n3 rfl).2
        have n3 := (n3 rfl).1
        have n3 : p1 + 5 ≤ p2 := n3
        rw [if_neg (show ¬ ((true, p2), x).1.1 = false from fun z9 => absurd (show true = false from z9) (by decide))] at hpr
        have hpr : (if T.1 ≤ p2 then (true, i + 1, p2) else prR T n (i + 1) p2) = prT T := hpr
        refine j_if_ne X (tgt := 19) dX10_isText_14 (by decide) (fun _ => ?_) (fun q9 => absurd q9 ((show ¬ nI (true : Bool).toNat = 0 by decide)))
        refine j_aload_n X (i := 0) dX10_isText_19 rfl rfl ?_
        refine j_dup X dX10_isText_20 rfl ?_
        refine jFd.get X fd_X10_188 M0 rfl dX10_isText_21 ?_
        rw [(e4 20 (by decide)).trans h20]
        refine j_iconst X (v := (nI 1)) dX10_isText_24 (by decide) ?_
        refine j_iadd X dX10_isText_25 ?_
        rw [nI_add]
        refine jFd.put X fd_X10_188 M0 rfl rfl rfl rfl dX10_isText_26 ?_
        refine j_aload_n X (i := 0) dX10_isText_29 rfl rfl ?_
        refine j_bipush X (v := (nI 59)) dX10_isText_30 (by decide) ?_
        have x5 : RX (jU t4 M 20 (nI (i + 1))) M T p2 := x4.go (by rw [jU_eq]; rfl) (by rw [jU_eq]; exact x4.2.1) (jU_ne _ _ _ (by omega)) n2
        have e5 : ∀ k, k ≠ 18 → k ≠ 20 → jU t4 M 20 (nI (i + 1)) M k = t M k := fun k h1 h2 => by rw [jU_eq]; exact (if_neg h2).trans ((e4 k h1).trans (e3 k h1 h2))
        have f5 : ∀ c, c ≠ M → c ≠ M + 7 → jU t4 M 20 (nI (i + 1)) c = t c := fun c h1 h2 => (jU_ne _ _ _ h1).trans ((f4 c h1 h2).trans (f3 c h1 h2))
        have h5 : jU t4 M 20 (nI (i + 1)) M 20 = nI (i + 1) := by rw [jU_eq]; rfl
        have o5 : ∀ j, j < i + 1 → oA (jU t4 M 20 (nI (i + 1)) (M + 7)) (4 * j) (cmN T j) ∧ (cmN T j).1 < 8 := fun j hj => by
          rw [jU_ne _ _ _ (show M + 7 ≠ M by omega)]
          by_cases hji : j = i
          · subst hji
            rw [← hcm]
            exact ⟨o4 rfl, k8⟩
          · exact ⟨(hoA j (by omega)).1.cong (fun k h1 h2 => g4 k (by omega)), (hoA j (by omega)).2⟩
        clear x4 e4 f4 g4 o4 x3 e3 f3 h20 hoA
        generalize jU t4 M 20 (nI (i + 1)) = t5 at x5 e5 f5 h5 o5 ⊢
        refine j_callV_p X (m_skips hok hst hM x5 (c0 := 59) (by decide) (ci := 59) rfl) i_X10_skips tw_7_214 tw_7_216 tp_54 M0 rfl dX10_isText_32 (fun v2 z2 sk2 t6 hp => ?_) 
        by_cases hc : chT T p2 = 59
        · have hlt : p2 < T.1 := chT_pos (by rw [hc]; decide)
          rw [sgR_y hc] at hp
          obtain ⟨rfl, rfl, rfl, x6, e6, f6, o6⟩ := hp
          rw [if_neg (by omega)] at hpr
          refine j_if_ne X (tgt := 10) dX10_isText_35 (by decide) (fun _ => ?_) (fun q9 => absurd q9 ((show ¬ nI (true : Bool).toNat = 0 by decide)))
          refine ih (i + 1) p2 (p2 + 1) t6 hpr ?_ hps (by omega) (by omega) (by omega) x6 (fun k h1 h2 => (e6 k h1).trans (e5 k h1 h2)) (fun c h1 h2 => (f6 c h1 h2).trans (f5 c h1 h2)) ((e6 20 (by decide)).trans h5) (fun j hj => by rw [o6]; exact o5 j hj)
          unfold nxR
          rw [if_pos (by omega), if_pos hc]
        · rw [sgR_n hc] at hp
          obtain ⟨rfl, rfl, rfl, x6, e6, f6, o6⟩ := hp
          have x6 : RX t6 M T p2 := x6
          refine j_if_ne X (tgt := 10) dX10_isText_35 (by decide) (fun q9 => absurd (rfl) q9) (fun _ => ?_)
          refine j_aload_n X (i := 0) dX10_isText_38 rfl rfl ?_
          refine jFd.get X fd_X10_182 M0 rfl dX10_isText_39 ?_
          refine j_aload_n X (i := 0) dX10_isText_42 rfl rfl ?_
          refine jFd.get X fd_X10_179 M0 rfl dX10_isText_43 ?_
          rw [x6.2.1, x6.1.1]
          have E : ∀ k, k ≠ 18 → k ≠ 20 → t6 M k = t M k := fun k h1 h2 => (e6 k h1).trans (e5 k h1 h2)
          have F : ∀ c, c ≠ M → c ≠ M + 7 → t6 c = t c := fun c h1 h2 => (f6 c h1 h2).trans (f5 c h1 h2)
          by_cases hend : p2 = T.1
          · rw [if_pos (by omega)] at hpr
            refine j_icmp_ne X (tgt := 53) dX10_isText_46 (by decide) (fun q9 => absurd ((congrArg nI hend)) q9) (fun _ => ?_)
            refine j_iconst X (v := (nI 1)) dX10_isText_49 (by decide) ?_
            refine j_goto X (tgt := 54) dX10_isText_50 (by decide) ?_
            exact j_iret X dX10_isText_54 rfl rfl ⟨by rw [← hpr]; rfl, rfl, rfl, by rw [← hpr]; exact x6, E, F, fun _ => by rw [← hpr]; exact ⟨(e6 20 (by decide)).trans h5, fun j hj => by rw [o6]; exact o5 j hj⟩⟩
          · rw [if_neg (by omega)] at hpr
            refine j_icmp_ne X (tgt := 53) dX10_isText_46 (by decide) (fun _ => ?_) (fun q9 => absurd q9 ((fun z9 => hend ((nI_eq (by omega) (by omega)).mp z9))))
            refine j_iconst X (v := (nI 0)) dX10_isText_53 (by decide) ?_
            have hpr : (false, i + 1, p2) = prT T := by
              rw [← hpr]
              obtain ⟨n4, rfl⟩ : ∃ n4, n = n4 + 1 := ⟨n - 1, by omega⟩
              have hN : nxR T p2 = ((false, p2), (0, (0, 0, 0))) := by
                unfold nxR
                rw [if_pos (by omega), if_neg hc]
              unfold prR
              rw [hN]
              rfl
            exact j_iret X dX10_isText_54 rfl rfl ⟨by rw [← hpr]; rfl, rfl, rfl, by rw [← hpr]; exact x6, E, F, fun z9 => absurd (show false = true by rw [← hpr] at z9; exact z9) (by decide)⟩
  refine j_aload_n X (i := 0) dX10_isText_0 rfl rfl ?_
  refine j_iconst X (v := (nI 0)) dX10_isText_1 (by decide) ?_
  refine jFd.put X fd_X10_182 M0 rfl rfl rfl rfl dX10_isText_2 ?_
  refine j_aload_n X (i := 0) dX10_isText_5 rfl rfl ?_
  refine j_iconst X (v := (nI 0)) dX10_isText_6 (by decide) ?_
  refine jFd.put X fd_X10_188 M0 rfl rfl rfl rfl dX10_isText_7 ?_
  have eM : (jU (jU t M 18 (nI 0)) M 20 (nI 0)) M = upd (upd (t M) 18 (nI 0)) 20 (nI 0) := by rw [jU_eq, jU_eq]
  have ec : ∀ c, c ≠ M → (jU (jU t M 18 (nI 0)) M 20 (nI 0)) c = t c := fun c hc => by rw [jU_ne _ _ _ hc, jU_ne _ _ _ hc]
  refine key 60 0 0 0 _ rfl rfl rfl (by omega) (Nat.zero_le _) (Nat.zero_le _) ⟨⟨by rw [eM]; exact hT.1, fun i hi => by rw [ec _ (by omega)]; exact hT.2 i hi⟩, by rw [eM]; rfl, Nat.zero_le _, hT1, hT2⟩ (fun k h1 h2 => by rw [eM]; exact (if_neg h2).trans (if_neg h1)) (fun c h1 _ => ec c h1) (by rw [eM]; rfl) (fun j hj => absurd hj (Nat.not_lt_zero j))

/-- a command of a text -/
def opA (w : Bool) (G : GS) (x : Nat × A3) : AN := match x.1 with
  | 0 => a_addPlate w G (iN x.2.1)
  | 1 => a_addStar w G (iN x.2.1) (iN x.2.2.1) (iN x.2.2.2)
  | 2 => a_setShift w G (iN x.2.1) (iN x.2.2.1) (iN x.2.2.2)
  | 3 => a_addSheet w G
  | 4 => a_print w G (iN x.2.1) (iN x.2.2.1)
  | 5 => a_putInRack w G (iN x.2.1)
  | 6 => a_takeOut w G (iN x.2.1)
  | _ => a_passHours w G (iN x.2.1)
theorem a_ch_0 {a b c : Int} {w : Bool} {G : GS} {r : CR} (ha : a < 0) (hb : b < 0) (hc : c < 0) (h : (a_ch a b c w G r).1 ≠ 0) : (a_ch a b c w G r).2.1 = nI 0 := by
  have h : cod a b c r.1 ≠ 0 := h
  show iN (ansI r.1) = nI 0
  by_cases q : r.1 < 0
  · rw [ansI_no q]; rfl
  · exact absurd (cod_yes (by omega) ha hb hc) h
theorem opA_0 {w : Bool} {G : GS} {x : Nat × A3} (h : (opA w G x).1 ≠ 0) : (opA w G x).2.1 = nI 0 := by
  obtain ⟨k, a⟩ := x
  match k with
  | 0 => exact a_ch_0 (by decide) (by decide) (by decide) h
  | 1 => exact a_ch_0 (by decide) (by decide) (by decide) h
  | 2 => exact a_ch_0 (by decide) (by decide) (by decide) h
  | 3 => exact a_ch_0 (by decide) (by decide) (by decide) h
  | 4 => exact a_ch_0 (by decide) (by decide) (by decide) h
  | 5 => exact a_ch_0 (by decide) (by decide) (by decide) h
  | 6 => exact a_ch_0 (by decide) (by decide) (by decide) h
  | k + 7 => exact a_ch_0 (by decide) (by decide) (by decide) h
theorem cod_lt (a b c m : Int) : cod a b c m < 4 := by
  unfold cod
  split
  · decide
  · split
    · decide
    · split <;> decide
theorem opA_lt {w : Bool} {G : GS} {x : Nat × A3} : (opA w G x).1 < 4 := by
  obtain ⟨k, a⟩ := x
  match k with
  | 0 => exact cod_lt _ _ _ _
  | 1 => exact cod_lt _ _ _ _
  | 2 => exact cod_lt _ _ _ _
  | 3 => exact cod_lt _ _ _ _
  | 4 => exact cod_lt _ _ _ _
  | 5 => exact cod_lt _ _ _ _
  | 6 => exact cod_lt _ _ _ _
  | k + 7 => exact cod_lt _ _ _ _
theorem ok_op {w : Bool} {G : GS} (h : okG G) (x : Nat × A3) : okG (opA w G x).2.2 := by
  obtain ⟨k, a⟩ := x
  match k with
  | 0 => exact ok_chX h (ok_newPlate h.1 _)
  | 1 => exact ok_chX h (ok_newStar h.1 _ _ _)
  | 2 => exact ok_chX h (ok_shift h.1 _ _ _)
  | 3 => exact ok_chX h (ok_newSheet h.1)
  | 4 => exact ok_chX h (ok_print h.1 _ _ _)
  | 5 => exact ok_chX h (ok_rack h.1 _ _)
  | 6 => exact ok_chX h (ok_unrack h.1 _)
  | k + 7 => exact ok_chX h (ok_hours h.1 _)
/-- the commands one after another, up to one that fails -/
def runN (T : TXV) : Nat → Nat → GS → Option Nat × GS
  | 0, _, G => (none, G)
  | n + 1, i, G => if (opA true G (cmN T i)).1 = 0 then runN T n (i + 1) (opA true G (cmN T i)).2.2 else (some i, (opA true G (cmN T i)).2.2)
theorem ok_run {T : TXV} : ∀ (n i : Nat) (G : GS), okG G → okG (runN T n i G).2
  | 0, _, _, h => h
  | n + 1, i, G, h => by
    unfold runN
    split
    · exact ok_run n (i + 1) _ (ok_op h _)
    · exact ok_op h _
theorem run_lt {T : TXV} : ∀ (n i : Nat) (G : GS) (k : Nat), (runN T n i G).1 = some k → i ≤ k ∧ k < i + n
  | 0, i, G, k, h => by cases h
  | n + 1, i, G, k, h => by
    unfold runN at h
    split at h
    · have := run_lt n (i + 1) _ k h; omega
    · cases h; omega
def setE (G : GS) (e : Option Nat) : GS := (gV G, gS G, gH G, gR G, gT G, gO G, e, gF G)
def exR (n : Nat) (V : SV) (r : Option Nat × GS) : AN := match r.1 with
  | none => (0, nI n, (gV r.2, gS r.2, pushH (gH r.2) V, r.2.2.2.2))
  | some i => (2, nI 0, (V, gS r.2, gH r.2, gR r.2, gT r.2, gO r.2, gE r.2, some i))
def a_execute (G : GS) : AN := if (prT (gT G)).1 = false then (1, nI 0, setE (setT G (0, (gT G).2)) (some (prT (gT G)).2.2)) else exR (prT (gT G)).2.1 (gV G) (runN (gT G) (prT (gT G)).2.1 0 (setT G (0, (gT G).2)))
theorem ok_setT0 {G : GS} (h : okG G) : okG (setT G (0, (gT G).2)) := ⟨h.1, h.2.1, h.2.2.1, h.2.2.2.1, Nat.zero_le _, h.2.2.2.2.2⟩
theorem ok_execute {G : GS} (h : okG G) : okG (a_execute G).2.2 := by
  have h5 : (gT G).1 ≤ 60 := h.2.2.2.2.1
  obtain ⟨p1, p2, -⟩ := prT_st h5
  have h0 := ok_setT0 h
  have hr := ok_run (T := gT G) (prT (gT G)).2.1 0 _ h0
  have hl := run_lt (T := gT G) (prT (gT G)).2.1 0 (setT G (0, (gT G).2))
  unfold a_execute
  split
  · exact ⟨h0.1, h0.2.1, h0.2.2.1, h0.2.2.2.1, h0.2.2.2.2.1, h0.2.2.2.2.2.1, h0.2.2.2.2.2.2.1, h0.2.2.2.2.2.2.2.1, fun e he => (by cases he; omega), h0.2.2.2.2.2.2.2.2.2⟩
  · generalize runN (gT G) (prT (gT G)).2.1 0 (setT G (0, (gT G).2)) = r at hr hl ⊢
    obtain ⟨o, G2⟩ := r
    obtain ⟨a1, a2, a3, a4, a5, a6, a7, a8, a9, a10⟩ := hr
    cases o with
    | none => exact ⟨a1, a2, (ok_push a3 a4 h.1).1, (ok_push a3 a4 h.1).2, a5, a6, a7, a8, a9, a10⟩
    | some i => exact ⟨h.1, a2, a3, a4, a5, a6, a7, a8, a9, fun e he => (by cases he; have := (hl _ rfl).2; omega)⟩
/-- what a method of the model leaves, whatever the count of its orders -/
def mX (M : Nat) (r : AN) (z : Option Nat) (sk : jS) (t : jT) : Option Value → Option Nat → jS → jT → Prop := fun v2 z2 sk2 t2 => v2 = some (.int r.2.1) ∧ z = z2 ∧ sk = sk2 ∧ t2 M 7 = nI r.1 ∧ (∃ n, RmG t2 M (false, n) r.2.2) ∧ ∀ c, (c < M ∨ M + 8 ≤ c) → t2 c = t c
theorem mX_of {M : Nat} {n : Int32} {r : AN} {z : Option Nat} {sk : jS} {t : jT} {v : Option Value} {z2 : Option Nat} {sk2 : jS} {t2 : jT} (h : mP M (false, n) r z sk t v z2 sk2 t2) : mX M r z sk t v z2 sk2 t2 :=
  ⟨h.1, h.2.1, h.2.2.1, h.2.2.2.1, ⟨n, h.2.2.2.2.1⟩, fun c hc => h.2.2.2.2.2 c (by omega)⟩
theorem m_carries {l : Launch} {g : jG} (hok : jOk g) (hst : l.stackTraces = false) {z : Option Nat} {sk : jS} {t : jT} {M : Nat} (hM : isMod g sk M) {w : WB} {G : GS} (hG : RmG t M w G) (hK : okG G) {j : Nat} (hj : j ≤ 20) {x : Nat × A3} (hk : x.1 < 8) (ho : oA (t (M + 7)) (4 * j) x) : jMet l g mX10_carries 6 0 0 [.ref (jb g + M), .int (nI (4 * j))] z sk t (mP M w (opA w.1 G x) z sk t) := by
  refine j_body (lv := [some (.ref (jb g + M)), some (.int (nI (4 * j))), none, none, none]) i_X10_carries hok hst (fun p e s m args below meth c X => ?_)
  obtain ⟨M0, M1, M2, M3, M4, M5, M6, M7⟩ := id hM
  obtain ⟨k, a, b, c9⟩ := x
  obtain ⟨o1, o2, o3, o4⟩ := ho
  have o1 : t (M + 7) (4 * j) = nI k := o1
  refine j_aload_n X (i := 0) dX10_carries_0 rfl rfl ?_
  refine jFd.get X fd_X10_36 M0 rfl dX10_carries_1 ?_
  refine j_iload_n X (i := 1) dX10_carries_4 rfl rfl ?_
  refine j_iconst X (v := (nI 1)) dX10_carries_5 (by decide) ?_
  refine j_iadd X dX10_carries_6 ?_
  rw [nI_add]
  refine j_iald X M7 rfl (by omega) (by decide) dX10_carries_7 ?_
  refine j_istore_n X (i := 2) dX10_carries_8 rfl (by decide) rfl ?_
  refine j_aload_n X (i := 0) dX10_carries_9 rfl rfl ?_
  refine jFd.get X fd_X10_36 M0 rfl dX10_carries_10 ?_
  refine j_iload_n X (i := 1) dX10_carries_13 rfl rfl ?_
  refine j_iconst X (v := (nI 2)) dX10_carries_14 (by decide) ?_
  refine j_iadd X dX10_carries_15 ?_
  rw [nI_add]
  refine j_iald X M7 rfl (by omega) (by decide) dX10_carries_16 ?_
  refine j_istore_n X (i := 3) dX10_carries_17 rfl (by decide) rfl ?_
  refine j_aload_n X (i := 0) dX10_carries_18 rfl rfl ?_
  refine jFd.get X fd_X10_36 M0 rfl dX10_carries_19 ?_
  refine j_iload_n X (i := 1) dX10_carries_22 rfl rfl ?_
  refine j_iconst X (v := (nI 3)) dX10_carries_23 (by decide) ?_
  refine j_iadd X dX10_carries_24 ?_
  rw [nI_add]
  refine j_iald X M7 rfl (by omega) (by decide) dX10_carries_25 ?_
  refine j_istore X (i := 4) dX10_carries_26 (by decide) rfl ?_
  refine j_aload_n X (i := 0) dX10_carries_28 rfl rfl ?_
  refine jFd.get X fd_X10_36 M0 rfl dX10_carries_29 ?_
  refine j_iload_n X (i := 1) dX10_carries_32 rfl rfl ?_
  refine j_iald X M7 rfl (by omega) (by decide) dX10_carries_33 ?_
  rw [o1]
  rcases (show k = 0 ∨ k = 1 ∨ k = 2 ∨ k = 3 ∨ k = 4 ∨ k = 5 ∨ k = 6 ∨ k = 7 by have hk : k < 8 := hk; omega) with rfl | rfl | rfl | rfl | rfl | rfl | rfl | rfl
  · refine j_tableIn X (off := 42) (tgt := 76) dX10_carries_34 (by decide) (by decide) rfl (by decide) ?_
    rw [show t (M + 7) (4 * j + 1) = iN a from o2 (show (0 : Nat) ≠ 3 by decide)]
    refine j_aload_n X (i := 0) dX10_carries_76 rfl rfl ?_
    refine j_iload_n X (i := 2) dX10_carries_77 rfl rfl ?_
    refine j_callV_p X (m_addPlate hok hst hM hG hK _) i_X10_addPlate tw_8_16 tw_6_129 tw_6_130 M0 rfl dX10_carries_78 (fun v2 z2 sk2 t2 hp => ?_) 
    obtain ⟨rfl, rfl, rfl, h7, hg, hf⟩ := hp
    exact j_iret X dX10_carries_81 rfl rfl ⟨rfl, rfl, rfl, h7, hg, hf⟩
  · refine j_tableIn X (off := 48) (tgt := 82) dX10_carries_34 (by decide) (by decide) rfl (by decide) ?_
    rw [show t (M + 7) (4 * j + 1) = iN a from o2 (show (1 : Nat) ≠ 3 by decide)]
    rw [show t (M + 7) (4 * j + 2) = iN b from o3 (Or.inl rfl)]
    rw [show t (M + 7) (4 * j + 3) = iN c9 from o4 (Or.inl rfl)]
    refine j_aload_n X (i := 0) dX10_carries_82 rfl rfl ?_
    refine j_iload_n X (i := 2) dX10_carries_83 rfl rfl ?_
    refine j_iload_n X (i := 3) dX10_carries_84 rfl rfl ?_
    refine j_iload X (i := 4) dX10_carries_85 rfl ?_
    refine j_callV_p X (m_addStar hok hst hM hG hK _ _ _) i_X10_addStar tw_8_17 tw_6_147 tw_6_148 M0 rfl dX10_carries_87 (fun v2 z2 sk2 t2 hp => ?_) 
    obtain ⟨rfl, rfl, rfl, h7, hg, hf⟩ := hp
    exact j_iret X dX10_carries_90 rfl rfl ⟨rfl, rfl, rfl, h7, hg, hf⟩
  · refine j_tableIn X (off := 57) (tgt := 91) dX10_carries_34 (by decide) (by decide) rfl (by decide) ?_
    rw [show t (M + 7) (4 * j + 1) = iN a from o2 (show (2 : Nat) ≠ 3 by decide)]
    rw [show t (M + 7) (4 * j + 2) = iN b from o3 (Or.inr (Or.inl rfl))]
    rw [show t (M + 7) (4 * j + 3) = iN c9 from o4 (Or.inr rfl)]
    refine j_aload_n X (i := 0) dX10_carries_91 rfl rfl ?_
    refine j_iload_n X (i := 2) dX10_carries_92 rfl rfl ?_
    refine j_iload_n X (i := 3) dX10_carries_93 rfl rfl ?_
    refine j_iload X (i := 4) dX10_carries_94 rfl ?_
    refine j_callV_p X (m_setShift hok hst hM hG hK _ _ _) i_X10_setShift tw_8_18 tw_6_184 tw_6_185 M0 rfl dX10_carries_96 (fun v2 z2 sk2 t2 hp => ?_) 
    obtain ⟨rfl, rfl, rfl, h7, hg, hf⟩ := hp
    exact j_iret X dX10_carries_99 rfl rfl ⟨rfl, rfl, rfl, h7, hg, hf⟩
  · refine j_tableIn X (off := 66) (tgt := 100) dX10_carries_34 (by decide) (by decide) rfl (by decide) ?_
    refine j_aload_n X (i := 0) dX10_carries_100 rfl rfl ?_
    refine j_callV_p X (m_addSheet hok hst hM hG hK ) i_X10_addSheet tw_8_19 tw_7_30 tw_7_31 M0 rfl dX10_carries_101 (fun v2 z2 sk2 t2 hp => ?_) 
    obtain ⟨rfl, rfl, rfl, h7, hg, hf⟩ := hp
    exact j_iret X dX10_carries_104 rfl rfl ⟨rfl, rfl, rfl, h7, hg, hf⟩
  · refine j_tableIn X (off := 71) (tgt := 105) dX10_carries_34 (by decide) (by decide) rfl (by decide) ?_
    rw [show t (M + 7) (4 * j + 1) = iN a from o2 (show (4 : Nat) ≠ 3 by decide)]
    rw [show t (M + 7) (4 * j + 2) = iN b from o3 (Or.inr (Or.inr rfl))]
    refine j_aload_n X (i := 0) dX10_carries_105 rfl rfl ?_
    refine j_iload_n X (i := 2) dX10_carries_106 rfl rfl ?_
    refine j_iload_n X (i := 3) dX10_carries_107 rfl rfl ?_
    refine j_callV_p X (m_print hok hst hM hG hK _ _) i_X10_print tw_8_20 tw_7_38 tw_7_39 M0 rfl dX10_carries_108 (fun v2 z2 sk2 t2 hp => ?_) 
    obtain ⟨rfl, rfl, rfl, h7, hg, hf⟩ := hp
    exact j_iret X dX10_carries_111 rfl rfl ⟨rfl, rfl, rfl, h7, hg, hf⟩
  · refine j_tableIn X (off := 78) (tgt := 112) dX10_carries_34 (by decide) (by decide) rfl (by decide) ?_
    rw [show t (M + 7) (4 * j + 1) = iN a from o2 (show (5 : Nat) ≠ 3 by decide)]
    refine j_aload_n X (i := 0) dX10_carries_112 rfl rfl ?_
    refine j_iload_n X (i := 2) dX10_carries_113 rfl rfl ?_
    refine j_callV_p X (m_putInRack hok hst hM hG hK _) i_X10_putInRack tw_8_21 tw_7_119 tw_7_120 M0 rfl dX10_carries_114 (fun v2 z2 sk2 t2 hp => ?_) 
    obtain ⟨rfl, rfl, rfl, h7, hg, hf⟩ := hp
    exact j_iret X dX10_carries_117 rfl rfl ⟨rfl, rfl, rfl, h7, hg, hf⟩
  · refine j_tableIn X (off := 84) (tgt := 118) dX10_carries_34 (by decide) (by decide) rfl (by decide) ?_
    rw [show t (M + 7) (4 * j + 1) = iN a from o2 (show (6 : Nat) ≠ 3 by decide)]
    refine j_aload_n X (i := 0) dX10_carries_118 rfl rfl ?_
    refine j_iload_n X (i := 2) dX10_carries_119 rfl rfl ?_
    refine j_callV_p X (m_takeOut hok hst hM hG hK _) i_X10_takeOut tw_8_22 tw_7_123 tw_7_124 M0 rfl dX10_carries_120 (fun v2 z2 sk2 t2 hp => ?_) 
    obtain ⟨rfl, rfl, rfl, h7, hg, hf⟩ := hp
    exact j_iret X dX10_carries_123 rfl rfl ⟨rfl, rfl, rfl, h7, hg, hf⟩
  · refine j_tableOut X (tgt := 124) dX10_carries_34 (Or.inr (by decide)) (by decide) ?_
    rw [show t (M + 7) (4 * j + 1) = iN a from o2 (show (7 : Nat) ≠ 3 by decide)]
    refine j_aload_n X (i := 0) dX10_carries_124 rfl rfl ?_
    refine j_iload_n X (i := 2) dX10_carries_125 rfl rfl ?_
    refine j_callV_p X (m_passHours hok hst hM hG hK _) i_X10_passHours tw_8_23 tw_7_143 tw_7_144 M0 rfl dX10_carries_126 (fun v2 z2 sk2 t2 hp => ?_) 
    obtain ⟨rfl, rfl, rfl, h7, hg, hf⟩ := hp
    exact j_iret X dX10_carries_129 rfl rfl ⟨rfl, rfl, rfl, h7, hg, hf⟩

theorem m_execute {l : Launch} {g : jG} (hok : jOk g) (hst : l.stackTraces = false) {z : Option Nat} {sk : jS} {t : jT} {M : Nat} (hM : isMod g sk M) {n0 : Int32} {G : GS} (hG : RmG t M (false, n0) G) (hK : okG G) : jMet l g mX10_execute 9 0 0 [.ref (jb g + M)] z sk t (mX M (a_execute G) z sk t) := by
  refine j_body (lv := [some (.ref (jb g + M)), none, none, none]) i_X10_execute hok hst (fun p e s m args below meth c X => ?_)
  obtain ⟨M0, M1, M2, M3, M4, M5, M6, M7⟩ := id hM
  obtain ⟨r1, r2, r3, r4, r5, r6, r7, r8, r9, r10, r11⟩ := id hG
  obtain ⟨k1, k2, k3, k4, k5, k6, k7, k8⟩ := id hK.1
  have hT1 : (gT G).1 ≤ 60 := hK.2.2.2.2.1
  have hT2 : ∀ i, (gT G).2 i < 65536 := hK.2.2.2.2.2.1
  obtain ⟨p1, p2, p3⟩ := prT_st hT1
  refine j_aload_n X (i := 0) dX10_execute_0 rfl rfl ?_
  refine j_callV_p X (m_isText hok hst hM r7 hT1 hT2) i_X10_isText tw_7_206 tw_7_208 tp_52 M0 rfl dX10_execute_1 (fun v2 z2 sk2 t1 hp => ?_) 
  obtain ⟨rfl, rfl, rfl, x1, e1, f1, o1⟩ := hp
  cases hb : (prT (gT G)).1 with
  | false =>
    have hr : a_execute G = (1, nI 0, setE (setT G (0, (gT G).2)) (some (prT (gT G)).2.2)) := if_pos hb
    refine j_istore_n X (i := 1) dX10_execute_4 rfl (by decide) rfl ?_
    refine j_iload_n X (i := 1) dX10_execute_5 rfl rfl ?_
    refine j_if_ne X (tgt := 17) dX10_execute_6 (by decide) (fun q9 => absurd (rfl) q9) (fun _ => ?_)
    refine j_aload_n X (i := 0) dX10_execute_9 rfl rfl ?_
    refine j_aload_n X (i := 0) dX10_execute_10 rfl rfl ?_
    refine jFd.get X fd_X10_182 M0 rfl dX10_execute_11 ?_
    rw [x1.2.1]
    refine jFd.put X fd_X10_25 M0 rfl rfl rfl rfl dX10_execute_14 ?_
    refine j_aload_n X (i := 0) dX10_execute_17 rfl rfl ?_
    refine j_iconst X (v := (nI 0)) dX10_execute_18 (by decide) ?_
    refine jFd.put X fd_X10_179 M0 rfl rfl rfl rfl dX10_execute_19 ?_
    refine j_aload_n X (i := 0) dX10_execute_22 rfl rfl ?_
    refine j_iload_n X (i := 1) dX10_execute_23 rfl rfl ?_
    refine j_if_eq X (tgt := 31) dX10_execute_24 (by decide) (fun _ => ?_) (fun q9 => absurd (rfl) q9)
    refine j_iconst X (v := (nI 1)) dX10_execute_31 (by decide) ?_
    refine j_callV X (m_fails hok hst hM (n := 1) (by decide)) i_X10_fails tw_6_135 tw_6_137 tp_25 M0 rfl dX10_execute_32 ?_ 
    refine j_if_eq X (tgt := 40) dX10_execute_35 (by decide) (fun q9 => absurd q9 (by decide)) (fun _ => ?_)
    refine j_iconst X (v := (nI 0)) dX10_execute_38 (by decide) ?_
    have eM : jU (jU (jU t1 M 12 (nI (prT (gT G)).2.2)) M 11 (nI 0)) M 7 (nI 1) M = upd (upd (upd (t1 M) 12 (nI (prT (gT G)).2.2)) 11 (nI 0)) 7 (nI 1) := by rw [jU_eq, jU_eq, jU_eq]
    have ee : ∀ q, q ≠ 7 → q ≠ 11 → q ≠ 12 → q ≠ 18 → q ≠ 20 → jU (jU (jU t1 M 12 (nI (prT (gT G)).2.2)) M 11 (nI 0)) M 7 (nI 1) M q = t M q := fun q a1 a2 a3 a4 a5 => by rw [eM]; unfold upd; rw [if_neg a1, if_neg a2, if_neg a3]; exact e1 q a4 a5
    have o : ∀ c, c ≠ M → c ≠ M + 7 → jU (jU (jU t1 M 12 (nI (prT (gT G)).2.2)) M 11 (nI 0)) M 7 (nI 1) c = t c := fun c h1 h2 => by rw [jU_ne _ _ _ h1, jU_ne _ _ _ h1, jU_ne _ _ _ h1]; exact f1 c h1 h2
    rw [hr]
    exact j_iret X dX10_execute_39 rfl rfl ⟨rfl, rfl, rfl, by rw [eM]; rfl, ⟨jU (jU (jU t1 M 12 (nI (prT (gT G)).2.2)) M 11 (nI 0)) M 7 (nI 1) M 20, ⟨by rw [o _ (by omega) (by omega)]; exact r1, r2.cong (ee 4 (by decide) (by decide) (by decide) (by decide) (by decide)) (o _ (by omega) (by omega)), (ee 5 (by decide) (by decide) (by decide) (by decide) (by decide)).trans r3, by rw [o _ (by omega) (by omega)]; exact r4, ⟨(ee 6 (by decide) (by decide) (by decide) (by decide) (by decide)).trans r5.1, rfl⟩, r6.cong (ee 8 (by decide) (by decide) (by decide) (by decide) (by decide)) (ee 9 (by decide) (by decide) (by decide) (by decide) (by decide)), ⟨by rw [eM]; rfl, fun i hi => absurd hi (Nat.not_lt_zero i)⟩, by rw [eM]; rfl, (ee 13 (by decide) (by decide) (by decide) (by decide) (by decide)).trans r9, ⟨(ee 15 (by decide) (by decide) (by decide) (by decide) (by decide)).trans r10.1, by rw [o _ (by omega) (by omega)]; exact r10.2⟩, r11.cong (ee 16 (by decide) (by decide) (by decide) (by decide) (by decide)) (ee 17 (by decide) (by decide) (by decide) (by decide) (by decide))⟩⟩, fun c hc => o c (by omega) (by omega)⟩
  | true =>
    obtain ⟨o20, oO⟩ := o1 hb
    obtain ⟨n, hn⟩ : ∃ n, n = (prT (gT G)).2.1 := ⟨_, rfl⟩
    rw [← hn] at o20 oO p2
    obtain ⟨T, hT⟩ : ∃ T, T = gT G := ⟨_, rfl⟩
    rw [← hT] at oO
    have hr : a_execute G = exR n (gV G) (runN T n 0 (setT G (0, (gT G).2))) := by rw [hn, hT]; exact if_neg (by rw [hb]; decide)
    rw [hr]
    refine j_istore_n X (i := 1) dX10_execute_4 rfl (by decide) rfl ?_
    refine j_iload_n X (i := 1) dX10_execute_5 rfl rfl ?_
    refine j_if_ne X (tgt := 17) dX10_execute_6 (by decide) (fun _ => ?_) (fun q9 => absurd q9 ((show ¬ nI (true : Bool).toNat = 0 by decide)))
    refine j_aload_n X (i := 0) dX10_execute_17 rfl rfl ?_
    refine j_iconst X (v := (nI 0)) dX10_execute_18 (by decide) ?_
    refine jFd.put X fd_X10_179 M0 rfl rfl rfl rfl dX10_execute_19 ?_
    refine j_aload_n X (i := 0) dX10_execute_22 rfl rfl ?_
    refine j_iload_n X (i := 1) dX10_execute_23 rfl rfl ?_
    refine j_if_eq X (tgt := 31) dX10_execute_24 (by decide) (fun q9 => absurd q9 ((show ¬ nI (true : Bool).toNat = 0 by decide))) (fun _ => ?_)
    refine j_iconst X (v := (nI 0)) dX10_execute_27 (by decide) ?_
    refine j_goto X (tgt := 32) dX10_execute_28 (by decide) ?_
    refine j_callV X (m_fails hok hst hM (n := 0) (by decide)) i_X10_fails tw_6_135 tw_6_137 tp_25 M0 rfl dX10_execute_32 ?_ 
    refine j_if_eq X (tgt := 40) dX10_execute_35 (by decide) (fun _ => ?_) (fun q9 => absurd (rfl) q9)
    refine j_aload_n X (i := 0) dX10_execute_40 rfl rfl ?_
    refine jFd.get X fd_X10_7 M0 rfl dX10_execute_41 ?_
    refine j_iconst X (v := (nI 0)) dX10_execute_44 (by decide) ?_
    refine j_aload_n X (i := 0) dX10_execute_45 rfl rfl ?_
    refine jFd.get X fd_X10_19 M0 rfl dX10_execute_46 ?_
    refine j_iconst X (v := (nI 0)) dX10_execute_49 (by decide) ?_
    refine j_callS X (m_copies hok hst (o0 := 0) (o1 := 0) M1 M4 (by omega) (by decide) (by decide) (by decide) (by decide)) i_X10_copies tw_6_143 tw_6_144 dX10_execute_50 ?_ 
    refine j_aload_n X (i := 0) dX10_execute_53 rfl rfl ?_
    refine j_iconst X (v := (nI 1)) dX10_execute_54 (by decide) ?_
    refine jFd.put X fd_X10_48 M0 rfl rfl rfl rfl dX10_execute_55 ?_
    obtain ⟨t5, ht5⟩ : ∃ t5, t5 = jU (jUf (jU (jU t1 M 11 (nI 0)) M 7 (nI 0)) (M + 4) (cpM (jU (jU t1 M 11 (nI 0)) M 7 (nI 0)) (M + 1) 0 (M + 4) 0 267)) M 6 (nI 1) := ⟨_, rfl⟩
    rw [← ht5]
    have eM : t5 M = upd (upd (upd (t1 M) 11 (nI 0)) 7 (nI 0)) 6 (nI 1) := by rw [ht5, jU_eq, jUf_ne _ _ (by omega), jU_eq, jU_eq]
    have ee : ∀ q, q ≠ 6 → q ≠ 7 → q ≠ 11 → q ≠ 18 → q ≠ 20 → t5 M q = t M q := fun q a1 a2 a3 a4 a5 => by rw [eM]; unfold upd; rw [if_neg a1, if_neg a2, if_neg a3]; exact e1 q a4 a5
    have o7 : t5 (M + 7) = t1 (M + 7) := by rw [ht5, jU_ne _ _ _ (by omega), jUf_ne _ _ (by omega), jU_ne _ _ _ (by omega), jU_ne _ _ _ (by omega)]
    have o : ∀ c, c ≠ M → c ≠ M + 4 → c ≠ M + 7 → t5 c = t c := fun c h1 h2 h3 => by rw [ht5, jU_ne _ _ _ h1, jUf_ne _ _ h2, jU_ne _ _ _ h1, jU_ne _ _ _ h1]; exact f1 c h1 h3
    have o4 : RmV (t5 (M + 4)) (gV G) := r1.cong k1 k2 (fun q hq => by
      rw [ht5, jU_ne _ _ _ (by omega), jUf_eq]
      unfold cpM
      rw [if_pos (by omega), jU_ne _ _ _ (by omega), jU_ne _ _ _ (by omega), Nat.zero_add, Nat.sub_zero, f1 _ (by omega) (by omega)])
    have v20 : t5 M 20 = nI n := by rw [eM]; exact o20
    have v6 : t5 M 6 = nI 1 := by rw [eM]; rfl
    have v7 : t5 M 7 = nI 0 := by rw [eM]; rfl
    have v11 : t5 M 11 = nI 0 := by rw [eM]; rfl
    clear ht5 eM
    have hG5 : RmG t5 M (true, nI n) (setT G (0, (gT G).2)) := ⟨by rw [o _ (by omega) (by omega) (by omega)]; exact r1, r2.cong (ee 4 (by decide) (by decide) (by decide) (by decide) (by decide)) (o _ (by omega) (by omega) (by omega)), (ee 5 (by decide) (by decide) (by decide) (by decide) (by decide)).trans r3, by rw [o _ (by omega) (by omega) (by omega)]; exact r4, ⟨v6, v20⟩, r6.cong (ee 8 (by decide) (by decide) (by decide) (by decide) (by decide)) (ee 9 (by decide) (by decide) (by decide) (by decide) (by decide)), ⟨v11, fun i hi => absurd hi (Nat.not_lt_zero i)⟩, (ee 12 (by decide) (by decide) (by decide) (by decide) (by decide)).trans r8, (ee 13 (by decide) (by decide) (by decide) (by decide) (by decide)).trans r9, ⟨(ee 15 (by decide) (by decide) (by decide) (by decide) (by decide)).trans r10.1, by rw [o _ (by omega) (by omega) (by omega)]; exact r10.2⟩, r11.cong (ee 16 (by decide) (by decide) (by decide) (by decide) (by decide)) (ee 17 (by decide) (by decide) (by decide) (by decide) (by decide))⟩
    have key : ∀ (k i : Nat) (H : GS) (t3 : jT) (x : Int32), i + k = n → okG H → RmG t3 M (true, nI n) H → t3 M 7 = nI 0 → RmV (t3 (M + 4)) (gV G) → t3 (M + 7) = t1 (M + 7) → (∀ c, (c < M ∨ M + 8 ≤ c) → t3 c = t c) → runN T k i H = runN T n 0 (setT G (0, (gT G).2)) → J p l e (jR 9 0 0) s m args below meth c (jQm below args s g 0 0 (mX M (exR n (gV G) (runN T n 0 (setT G (0, (gT G).2)))) z sk t)) 4 g 0 0 z sk t3 62 [some (.ref (jb g + M)), some (.int (nI (true : Bool).toNat)), some (.int (nI i)), some (.int x)] [] := by
      intro k
      induction k with
      | zero =>
        intro i H t3 x hi hH hG3 h7 h4 ho hf hrun
        obtain ⟨s1, s2, s3, s4, s5, s6, s7, s8, s9, s10, s11⟩ := id hG3
        have s20 : t3 M 20 = nI n := s5.2
        rw [← hrun]
        refine j_iload_n X (i := 2) dX10_execute_62 rfl rfl ?_
        refine j_aload_n X (i := 0) dX10_execute_63 rfl rfl ?_
        refine jFd.get X fd_X10_188 M0 rfl dX10_execute_64 ?_
        rw [s20]
        refine j_icmp_ge X (tgt := 98) dX10_execute_67 (by decide) (fun _ => ?_) (fun q9 => absurd (nI_le (by omega) (by omega)) q9)
        refine j_aload_n X (i := 0) dX10_execute_98 rfl rfl ?_
        refine j_iconst X (v := (nI 0)) dX10_execute_99 (by decide) ?_
        refine jFd.put X fd_X10_48 M0 rfl rfl rfl rfl dX10_execute_100 ?_
        refine j_aload_n X (i := 0) dX10_execute_103 rfl rfl ?_
        refine jFd.get X fd_X10_39 M0 rfl dX10_execute_104 ?_
        have e9 : ∀ q, q ≠ 6 → jU t3 M 6 (nI 0) M q = t3 M q := fun q hq => by rw [jU_eq]; exact if_neg hq
        have v9 : jU t3 M 6 (nI 0) M 6 = nI 0 := by rw [jU_eq]; rfl
        have o9 : ∀ c, c ≠ M → jU t3 M 6 (nI 0) c = t3 c := fun c hc => jU_ne _ _ _ hc
        rw [e9 7 (by decide), h7]
        generalize jU t3 M 6 (nI 0) = t6 at e9 v9 o9 ⊢
        have hG6 : RmG t6 M (false, nI n) H := ⟨by rw [o9 _ (by omega)]; exact s1, s2.cong (e9 4 (by decide)) (o9 _ (by omega)), (e9 5 (by decide)).trans s3, by rw [o9 _ (by omega)]; exact s4, ⟨v9, (e9 20 (by decide)).trans s20⟩, s6.cong (e9 8 (by decide)) (e9 9 (by decide)), ⟨(e9 11 (by decide)).trans s7.1, by rw [o9 _ (by omega)]; exact s7.2⟩, (e9 12 (by decide)).trans s8, (e9 13 (by decide)).trans s9, ⟨(e9 15 (by decide)).trans s10.1, by rw [o9 _ (by omega)]; exact s10.2⟩, s11.cong (e9 16 (by decide)) (e9 17 (by decide))⟩
        have h46 : RmV (t6 (M + 4)) (gV G) := by rw [o9 _ (by omega)]; exact h4
        refine j_if_le X (tgt := 143) dX10_execute_107 (by decide) (fun _ => ?_) (fun q9 => absurd (by decide) q9)
        refine j_aload_n X (i := 0) dX10_execute_143 rfl rfl ?_
        refine j_aload_n X (i := 0) dX10_execute_144 rfl rfl ?_
        refine jFd.get X fd_X10_19 M0 rfl dX10_execute_145 ?_
        refine j_callV_p X (m_keeps hok hst hM v9 hG6.2.2.1 hG6.2.2.2.1 hH.hh M4 (by omega) (by omega) h46 ⟨k1, k2⟩) i_X10_keeps tw_6_139 tw_6_141 tp_26 M0 rfl dX10_execute_148 (fun v2 z2 sk2 t8 hp => ?_) 
        obtain ⟨rfl, rfl, rfl, y1, y2, y3, y4, y5⟩ := hp
        refine j_aload_n X (i := 0) dX10_execute_151 rfl rfl ?_
        refine jFd.get X fd_X10_188 M0 rfl dX10_execute_152 ?_
        rw [(y2 20 (by decide) (by decide)).trans hG6.2.2.2.2.1.2]
        exact j_iret X dX10_execute_155 rfl rfl ⟨rfl, rfl, rfl, y4, ⟨nI n, hG6.chg (V := gV H) (hh := pushH (gH H) (gV G)) (by rw [y1 _ (by omega) (by omega)]; exact hG6.1) y2 y3 y5 (fun c c1 _ c3 => y1 c c1 c3)⟩, fun c hc => (y1 c (by omega) (by omega)).trans ((o9 c (by omega)).trans (hf c hc))⟩
      | succ k ih =>
        intro i H t3 x hi hH hG3 h7 h4 ho hf hrun
        have s20 : t3 M 20 = nI n := hG3.2.2.2.2.1.2
        have hin : i < n := by omega
        refine j_iload_n X (i := 2) dX10_execute_62 rfl rfl ?_
        refine j_aload_n X (i := 0) dX10_execute_63 rfl rfl ?_
        refine jFd.get X fd_X10_188 M0 rfl dX10_execute_64 ?_
        rw [s20]
        refine j_icmp_ge X (tgt := 98) dX10_execute_67 (by decide) (fun q9 => absurd q9 (nI_ge hin (by omega))) (fun _ => ?_)
        refine j_aload_n X (i := 0) dX10_execute_70 rfl rfl ?_
        refine jFd.get X fd_X10_39 M0 rfl dX10_execute_71 ?_
        rw [h7]
        refine j_if_ne X (tgt := 98) dX10_execute_74 (by decide) (fun q9 => absurd (rfl) q9) (fun _ => ?_)
        refine j_aload_n X (i := 0) dX10_execute_77 rfl rfl ?_
        refine j_iconst X (v := (nI 4)) dX10_execute_78 (by decide) ?_
        refine j_iload_n X (i := 2) dX10_execute_79 rfl rfl ?_
        refine j_imul X dX10_execute_80 ?_
        rw [pk_mul]
        refine j_callV_p X (m_carries hok hst hM hG3 hH (j := i) (by omega) (oO i hin).2 (by rw [ho]; exact (oO i hin).1)) i_X10_carries tw_8_12 tw_8_14 tp_61 M0 rfl dX10_execute_81 (fun v2 z2 sk2 t4 hp => ?_) 
        have hp : mP M (true, nI n) (opA true H (cmN T i)) _ _ _ _ _ _ _ := hp
        have hA := ok_op (w := true) hH (cmN T i)
        have hA0 := opA_0 (w := true) (G := H) (x := cmN T i)
        have hAl := opA_lt (w := true) (G := H) (x := cmN T i)
        rw [show runN T (k + 1) i H = (if (opA true H (cmN T i)).1 = 0 then runN T k (i + 1) (opA true H (cmN T i)).2.2 else (some i, (opA true H (cmN T i)).2.2)) from rfl] at hrun
        generalize opA true H (cmN T i) = A at hp hA hA0 hAl hrun
        obtain ⟨cd, v, H2⟩ := A
        obtain ⟨rfl, rfl, rfl, g7, hG4, hf4⟩ := hp
        have g7 : t4 M 7 = nI cd := g7
        have hG4 : RmG t4 M (true, nI n) H2 := hG4
        have hAl : cd < 4 := hAl
        have h44 : RmV (t4 (M + 4)) (gV G) := by rw [hf4 _ (by omega)]; exact h4
        have F4 : ∀ c, (c < M ∨ M + 8 ≤ c) → t4 c = t c := fun c hc => (hf4 c (by omega)).trans (hf c hc)
        refine j_istore_n X (i := 3) dX10_execute_84 rfl (by decide) rfl ?_
        refine j_aload_n X (i := 0) dX10_execute_85 rfl rfl ?_
        refine jFd.get X fd_X10_39 M0 rfl dX10_execute_86 ?_
        rw [g7]
        by_cases hc : cd = 0
        · subst hc
          have hrun : runN T k (i + 1) H2 = _ := hrun
          refine j_if_ne X (tgt := 62) dX10_execute_89 (by decide) (fun q9 => absurd (rfl) q9) (fun _ => ?_)
          refine j_iinc X (i := 2) (v := (nI (i + 1))) dX10_execute_92 rfl (nI_1 i) (by decide) rfl ?_
          refine j_goto X (tgt := 62) dX10_execute_95 (by decide) ?_
          exact ih (i + 1) H2 t4 _ (by omega) hA hG4 g7 h44 ((hf4 _ (by omega)).trans ho) F4 hrun
        · have hv : v = nI 0 := hA0 hc
          subst hv
          have hrun2 : (if cd = 0 then runN T k (i + 1) H2 else (some i, H2)) = runN T n 0 (setT G (0, (gT G).2)) := hrun
          rw [if_neg hc] at hrun2
          have hne : ¬ nI cd = 0 := fun z9 => hc ((nI_eq (a := cd) (b := 0) (by omega) (by decide)).mp z9)
          rw [← hrun2]
          refine j_if_ne X (tgt := 62) dX10_execute_89 (by decide) (fun _ => ?_) (fun q9 => absurd q9 (hne))
          refine j_iload_n X (i := 2) dX10_execute_62 rfl rfl ?_
          refine j_aload_n X (i := 0) dX10_execute_63 rfl rfl ?_
          refine jFd.get X fd_X10_188 M0 rfl dX10_execute_64 ?_
          rw [show t4 M 20 = nI n from hG4.2.2.2.2.1.2]
          refine j_icmp_ge X (tgt := 98) dX10_execute_67 (by decide) (fun q9 => absurd q9 (nI_ge hin (by omega))) (fun _ => ?_)
          refine j_aload_n X (i := 0) dX10_execute_70 rfl rfl ?_
          refine jFd.get X fd_X10_39 M0 rfl dX10_execute_71 ?_
          rw [g7]
          refine j_if_ne X (tgt := 98) dX10_execute_74 (by decide) (fun _ => ?_) (fun q9 => absurd q9 (hne))
          refine j_aload_n X (i := 0) dX10_execute_98 rfl rfl ?_
          refine j_iconst X (v := (nI 0)) dX10_execute_99 (by decide) ?_
          refine jFd.put X fd_X10_48 M0 rfl rfl rfl rfl dX10_execute_100 ?_
          refine j_aload_n X (i := 0) dX10_execute_103 rfl rfl ?_
          refine jFd.get X fd_X10_39 M0 rfl dX10_execute_104 ?_
          have e9 : ∀ q, q ≠ 6 → jU t4 M 6 (nI 0) M q = t4 M q := fun q hq => by rw [jU_eq]; exact if_neg hq
          have v9 : jU t4 M 6 (nI 0) M 6 = nI 0 := by rw [jU_eq]; rfl
          have o9 : ∀ c, c ≠ M → jU t4 M 6 (nI 0) c = t4 c := fun c hc => jU_ne _ _ _ hc
          rw [e9 7 (by decide), g7]
          generalize jU t4 M 6 (nI 0) = t6 at e9 v9 o9 ⊢
          refine j_if_le X (tgt := 143) dX10_execute_107 (by decide) (fun q9 => absurd q9 ((show ¬ nI cd ≤ nI 0 from nI_ge (by omega) (by omega)))) (fun _ => ?_)
          refine j_aload_n X (i := 0) dX10_execute_110 rfl rfl ?_
          refine jFd.get X fd_X10_19 M0 rfl dX10_execute_111 ?_
          refine j_iconst X (v := (nI 0)) dX10_execute_114 (by decide) ?_
          refine j_aload_n X (i := 0) dX10_execute_115 rfl rfl ?_
          refine jFd.get X fd_X10_7 M0 rfl dX10_execute_116 ?_
          refine j_iconst X (v := (nI 0)) dX10_execute_119 (by decide) ?_
          refine j_callS X (m_copies hok hst (o0 := 0) (o1 := 0) M4 M1 (by omega) (by decide) (by decide) (by decide) (by decide)) i_X10_copies tw_6_143 tw_6_144 dX10_execute_120 ?_ 
          refine j_aload_n X (i := 0) dX10_execute_123 rfl rfl ?_
          refine j_iload_n X (i := 2) dX10_execute_124 rfl rfl ?_
          refine jFd.put X fd_X10_29 M0 rfl rfl rfl rfl dX10_execute_125 ?_
          refine j_aload_n X (i := 0) dX10_execute_128 rfl rfl ?_
          refine j_iconst X (v := (nI 2)) dX10_execute_129 (by decide) ?_
          refine jFd.put X fd_X10_39 M0 rfl rfl rfl rfl dX10_execute_130 ?_
          refine j_iload_n X (i := 3) dX10_execute_133 rfl rfl ?_
          refine j_if_le X (tgt := 141) dX10_execute_134 (by decide) (fun _ => ?_) (fun q9 => absurd ((show nI 0 ≤ 0 by decide)) q9)
          refine j_iload_n X (i := 3) dX10_execute_141 rfl rfl ?_
          obtain ⟨t8, ht8⟩ : ∃ t8, t8 = jU (jU (jUf t6 (M + 1) (cpM t6 (M + 4) 0 (M + 1) 0 267)) M 13 (nI i)) M 7 (nI 2) := ⟨_, rfl⟩
          rw [← ht8]
          have eM : t8 M = upd (upd (t6 M) 13 (nI i)) 7 (nI 2) := by rw [ht8, jU_eq, jU_eq, jUf_ne _ _ (by omega)]
          have e8 : ∀ q, q ≠ 6 → q ≠ 7 → q ≠ 13 → t8 M q = t4 M q := fun q a1 a2 a3 => by rw [eM]; unfold upd; rw [if_neg a2, if_neg a3]; exact e9 q a1
          have o8 : ∀ c, c ≠ M → c ≠ M + 1 → t8 c = t4 c := fun c h1 h2 => by rw [ht8, jU_ne _ _ _ h1, jU_ne _ _ _ h1, jUf_ne _ _ h2]; exact o9 c h1
          have V8 : RmV (t8 (M + 1)) (gV G) := h44.cong k1 k2 (fun q hq => by
            rw [ht8, jU_ne _ _ _ (by omega), jU_ne _ _ _ (by omega), jUf_eq]
            unfold cpM
            rw [if_pos (by omega), o9 _ (by omega), Nat.zero_add, Nat.sub_zero])
          have v6 : t8 M 6 = nI 0 := by rw [eM]; exact v9
          have v7 : t8 M 7 = nI 2 := by rw [eM]; rfl
          have v13 : t8 M 13 = nI i := by rw [eM]; rfl
          clear ht8 eM
          obtain ⟨s1, s2, s3, s4, s5, s6, s7, s8, s9, s10, s11⟩ := id hG4
          exact j_iret X dX10_execute_142 rfl rfl ⟨rfl, rfl, rfl, v7, ⟨nI n, ⟨V8, s2.cong (e8 4 (by decide) (by decide) (by decide)) (o8 _ (by omega) (by omega)), (e8 5 (by decide) (by decide) (by decide)).trans s3, by rw [o8 _ (by omega) (by omega)]; exact s4, ⟨v6, (e8 20 (by decide) (by decide) (by decide)).trans s5.2⟩, s6.cong (e8 8 (by decide) (by decide) (by decide)) (e8 9 (by decide) (by decide) (by decide)), ⟨(e8 11 (by decide) (by decide) (by decide)).trans s7.1, by rw [o8 _ (by omega) (by omega)]; exact s7.2⟩, (e8 12 (by decide) (by decide) (by decide)).trans s8, v13, ⟨(e8 15 (by decide) (by decide) (by decide)).trans s10.1, by rw [o8 _ (by omega) (by omega)]; exact s10.2⟩, s11.cong (e8 16 (by decide) (by decide) (by decide)) (e8 17 (by decide) (by decide) (by decide))⟩⟩, fun c hc => (o8 c (by omega) (by omega)).trans (F4 c hc)⟩
    refine j_iconst X (v := (nI 0)) dX10_execute_58 (by decide) ?_
    refine j_istore_n X (i := 2) dX10_execute_59 rfl (by decide) rfl ?_
    refine j_iconst X (v := (nI 0)) dX10_execute_60 (by decide) ?_
    refine j_istore_n X (i := 3) dX10_execute_61 rfl (by decide) rfl ?_
    exact key n 0 _ t5 _ (Nat.zero_add n) (ok_setT0 hK) hG5 v7 o4 o7 (fun c hc => o c (by omega) (by omega) (by omega)) rfl

