theorem prR_wf {T : TXV} {c e : Nat} : ∀ n i p, prR T n i p = (true, c, e) → posN T i = p → ∀ j, i ≤ j → j < c → (nxR T (posN T j)).1.1 = true
  | 0, i, p, h, _, j, h1, h2 => by cases h
  | n + 1, i, p, h, hp, j, h1, h2 => by
    unfold prR at h
    by_cases q : (nxR T p).1.1 = false
    · rw [if_pos q] at h; cases h
    · rw [if_neg q] at h
      by_cases hj : j = i
      · rw [hj, hp]; exact b_t q
      · by_cases q2 : T.1 ≤ (nxR T p).1.2
        · rw [if_pos q2] at h
          cases h
          omega
        · rw [if_neg q2] at h
          exact prR_wf n (i + 1) _ h (by show (nxR T (posN T i)).1.2 = _; rw [hp]) j (by omega) h2
/-- what a command does to the shop: its answer, perhaps a fault -/
def opC (G : GS) (x : Nat × A3) : CR := match x.1 with
  | 0 => toC G (vNewPlate (gV G) (iN x.2.1))
  | 1 => toC G (vNewStar (gV G) (iN x.2.1) (iN x.2.2.1) (iN x.2.2.2))
  | 2 => toC G (vShift (gV G) (iN x.2.1) (iN x.2.2.1) (iN x.2.2.2))
  | 3 => toC G (vNewSheet (gV G))
  | 4 => vPrint (gV G) (gR G) (iN x.2.1) (iN x.2.2.1)
  | 5 => vRack (gV G) (gR G) (iN x.2.1)
  | 6 => toC G (vUnrack (gV G) (iN x.2.1))
  | _ => toC G (vHours (gV G) (iN x.2.1))
theorem ch_all {a b c : Int} {ns : List String} {G : GS} {r : CR} (h : flt a b c ns (gV G) r) (ha : a < 0) (hb : b < 0) (hc : c < 0) : -5 ≤ r.1 ∧ r.1 < 2147483648 ∧ (r.1 < 0 → (a_ch a b c true G r).1 ≠ 0) ∧ (0 ≤ r.1 → (a_ch a b c true G r).1 = 0) ∧ (a_ch a b c true G r).2.2 = (r.2.1, gS G, gH G, r.2.2, G.2.2.2.2) := by
  obtain ⟨h1, h2, h3⟩ := h
  refine ⟨h1, h2, fun q => ?_, fun q => cod_yes q ha hb hc, ?_⟩
  · have := (h3 q).2.1
    show cod a b c r.1 ≠ 0
    omega
  · show chX true G r = _
    unfold chX
    by_cases q : r.1 < 0
    · rw [if_pos q, (h3 q).1]
    · rw [if_neg q]
      rfl
theorem opC_spec {G : GS} (hk : okV (gV G)) (x : Nat × A3) : -5 ≤ (opC G x).1 ∧ (opC G x).1 < 2147483648 ∧ ((opC G x).1 < 0 → (opA true G x).1 ≠ 0) ∧ (0 ≤ (opC G x).1 → (opA true G x).1 = 0) ∧ (opA true G x).2.2 = ((opC G x).2.1, gS G, gH G, (opC G x).2.2, G.2.2.2.2) := by
  obtain ⟨k, y⟩ := x
  match k with
  | 0 => exact ch_all (flt_addPlate hk) (by decide) (by decide) (by decide)
  | 1 => exact ch_all (flt_addStar hk) (by decide) (by decide) (by decide)
  | 2 => exact ch_all (flt_setShift hk) (by decide) (by decide) (by decide)
  | 3 => exact ch_all (flt_addSheet hk) (by decide) (by decide) (by decide)
  | 4 => exact ch_all (flt_print hk) (by decide) (by decide) (by decide)
  | 5 => exact ch_all (flt_putInRack hk) (by decide) (by decide) (by decide)
  | 6 => exact ch_all (flt_takeOut hk) (by decide) (by decide) (by decide)
  | k + 7 => exact ch_all (flt_passHours hk) (by decide) (by decide) (by decide)
theorem chX_setT {w : Bool} {G : GS} {x : TXV} {r : CR} : chX w (setT G x) r = setT (chX w G r) x := by
  unfold chX
  split <;> rfl
theorem a_ch_setT {a b c : Int} {w : Bool} {G : GS} {x : TXV} {r : CR} : a_ch a b c w (setT G x) r = ((a_ch a b c w G r).1, (a_ch a b c w G r).2.1, setT (a_ch a b c w G r).2.2 x) := by
  show (cod a b c r.1, iN (ansI r.1), chX w (setT G x) r) = _
  rw [chX_setT]
  rfl
theorem opA_setT {w : Bool} {G : GS} {x : TXV} (y : Nat × A3) : opA w (setT G x) y = ((opA w G y).1, (opA w G y).2.1, setT (opA w G y).2.2 x) := by
  obtain ⟨k, y⟩ := y
  match k with
  | 0 => exact a_ch_setT
  | 1 => exact a_ch_setT
  | 2 => exact a_ch_setT
  | 3 => exact a_ch_setT
  | 4 => exact a_ch_setT
  | 5 => exact a_ch_setT
  | 6 => exact a_ch_setT
  | k + 7 => exact a_ch_setT
theorem run_setT {T x : TXV} : ∀ (n i : Nat) (G : GS), runN T n i (setT G x) = ((runN T n i G).1, setT (runN T n i G).2 x)
  | 0, _, _ => rfl
  | n + 1, i, G => by
    unfold runN
    rw [opA_setT]
    by_cases q : (opA true G (cmN T i)).1 = 0
    · rw [if_pos (show ((opA true G (cmN T i)).1, (opA true G (cmN T i)).2.1, setT (opA true G (cmN T i)).2.2 x).1 = 0 from q), if_pos q]
      exact run_setT n (i + 1) _
    · rw [if_neg (show ¬ ((opA true G (cmN T i)).1, (opA true G (cmN T i)).2.1, setT (opA true G (cmN T i)).2.2 x).1 = 0 from q), if_neg q]
theorem chX_H {G : GS} {r : CR} : gH (chX true G r) = gH G ∧ gT (chX true G r) = gT G := by
  unfold chX
  split <;> exact ⟨rfl, rfl⟩
theorem opA_H {G : GS} (y : Nat × A3) : gH (opA true G y).2.2 = gH G ∧ gT (opA true G y).2.2 = gT G := by
  obtain ⟨k, y⟩ := y
  match k with
  | 0 => exact chX_H
  | 1 => exact chX_H
  | 2 => exact chX_H
  | 3 => exact chX_H
  | 4 => exact chX_H
  | 5 => exact chX_H
  | 6 => exact chX_H
  | k + 7 => exact chX_H
theorem run_H {T : TXV} : ∀ (n i : Nat) (G : GS), gH (runN T n i G).2 = gH G ∧ gT (runN T n i G).2 = gT G
  | 0, _, _ => ⟨rfl, rfl⟩
  | n + 1, i, G => by
    have h := opA_H (G := G) (cmN T i)
    unfold runN
    split
    · have ih := run_H (T := T) n (i + 1) (opA true G (cmN T i)).2.2
      exact ⟨ih.1.trans h.1, ih.2.trans h.2⟩
    · exact h
def cntV (T : TXV) : Int32 := if (prT T).1 = true then nI (prT T).2.1 else -1
theorem f_count {l : Launch} {g : jG} (hok : jOk g) (hst : l.stackTraces = false) {z : Option Nat} {sk : jS} {t : jT} {kw : Nat → Nat} (hI : sk 450 = some (jInp g kw) ∧ sk 451 = some (kA .char 60)) {K w9 : Nat} {sa : Nat → Nat} (hK9 : oKw g K kw sa w9) {T : TXV} (h1 : t 450 1 = nI T.1) (h2 : ∀ i, i < T.1 → t 451 i = nI (T.2 i)) (h60 : T.1 ≤ 60) (hc : ∀ i, T.2 i < 65536) : jMet l g mX3_countCommands 8 0 0 [.ref (jb g + 450)] z sk t (fun v2 z2 sk2 t2 => v2 = some (.int (cntV T)) ∧ z = z2 ∧ sk = sk2 ∧ t2 450 3 = nI (prT T).2.2 ∧ (∀ q, (q < 2 ∨ 7 < q) → t2 450 q = t 450 q) ∧ ∀ c, c ≠ 450 → t2 c = t c) := by
  refine j_body (lv := [some (.ref (jb g + 450)), none]) i_X3_countCommands hok hst (fun p e s m args below meth c X => ?_)
  have key : ∀ (n i p1 : Nat) (t1 : jT), i + n = 60 → prR T n i p1 = prT T → IS t1 T (true, p1) → T.1 < p1 + 5 * n → (∀ q, (q < 2 ∨ 7 < q) → t1 450 q = t 450 q) → (∀ c, c ≠ 450 → t1 c = t c) → J p l e (jR 8 0 0) s m args below meth c (jQm below args s g 0 0 (fun v2 z2 sk2 t2 => v2 = some (.int (cntV T)) ∧ z = z2 ∧ sk = sk2 ∧ t2 450 3 = nI (prT T).2.2 ∧ (∀ q, (q < 2 ∨ 7 < q) → t2 450 q = t 450 q) ∧ ∀ c, c ≠ 450 → t2 c = t c)) 2 g 0 0 z sk t1 6 [some (.ref (jb g + 450)), some (.int (nI (i + 1)))] [] := by
    intro n
    induction n with
    | zero =>
      intro i p1 t1 _ _ hs1 hf
      have : p1 ≤ T.1 := hs1.2.2.2.2.1
      omega
    | succ n ih =>
      intro i p1 t1 hi hpr hs1 hf x1 w1
      have hp1 : p1 ≤ T.1 := hs1.2.2.2.2.1
      obtain ⟨n1, n2, n3⟩ := nxR_st T hp1
      unfold prR at hpr
      refine j_iload_n X (i := 1) dX3_countCommands_6 rfl rfl ?_
      refine j_bipush X (v := (nI 60)) dX3_countCommands_7 (by decide) ?_
      refine j_icmp_gt X (tgt := 44) dX3_countCommands_9 (by decide) (fun q9 => absurd q9 ((show ¬ nI 60 < nI (i + 1) from nI_nlt (by omega) (by decide)))) (fun _ => ?_)
      refine j_aload_n X (i := 0) dX3_countCommands_12 rfl rfl ?_
      refine j_callV_p X (f_next hok hst hI hK9 hs1) i_X3_readNext tw_5_132 tw_5_133 tw_5_134 hI.1 rfl dX3_countCommands_13 (fun v2 z2 sk2 t3 hp => ?_) 
      unfold nP at hp
      generalize nxR T p1 = N at hp hpr n1 n2 n3
      obtain ⟨⟨b, p2⟩, x⟩ := N
      obtain ⟨rfl, rfl, rfl, y3, x3, w3, k3⟩ := hp
      have y3 : IS t3 T (b, p2) := y3
      have X3 : ∀ q, (q < 2 ∨ 7 < q) → t3 450 q = t 450 q := fun q hq => (x3 q hq).trans (x1 q hq)
      have W3 : ∀ c, c ≠ 450 → t3 c = t c := fun c hc => (w3 c hc).trans (w1 c hc)
      have n1 : p1 ≤ p2 := n1
      have n2 : p2 ≤ T.1 := n2
      refine j_aload_n X (i := 0) dX3_countCommands_16 rfl rfl ?_
      refine jFd.get X fd_X3_19 hI.1 rfl dX3_countCommands_17 ?_
      rw [y3.2.2.1]
      cases b with
      | false =>
        have hpr : (false, i, p2) = prT T := hpr
        refine j_if_ne X (tgt := 25) dX3_countCommands_20 (by decide) (fun q9 => absurd (rfl) q9) (fun _ => ?_)
        refine j_iconst X (v := -1) dX3_countCommands_23 (by decide) ?_
        exact j_iret X dX3_countCommands_24 rfl rfl ⟨by unfold cntV; rw [← hpr]; rfl, rfl, rfl, by rw [← hpr]; exact y3.2.2.2.1, X3, W3⟩
      | true =>
        have n3 := (n3 rfl).1
        have n3 : p1 + 5 ≤ p2 := n3
        rw [if_neg (show ¬ ((true, p2), x).1.1 = false from fun z9 => absurd (show true = false from z9) (by decide))] at hpr
        have hpr : (if T.1 ≤ p2 then (true, i + 1, p2) else prR T n (i + 1) p2) = prT T := hpr
        refine j_if_ne X (tgt := 25) dX3_countCommands_20 (by decide) (fun _ => ?_) (fun q9 => absurd q9 ((show ¬ nI (true : Bool).toNat = 0 by decide)))
        refine j_aload_n X (i := 0) dX3_countCommands_25 rfl rfl ?_
        refine jFd.get X fd_X3_23 hI.1 rfl dX3_countCommands_26 ?_
        refine j_aload_n X (i := 0) dX3_countCommands_29 rfl rfl ?_
        refine jFd.get X fd_X3_15 hI.1 rfl dX3_countCommands_30 ?_
        rw [show t3 450 3 = nI p2 from y3.2.2.2.1, y3.1]
        by_cases hend : T.1 ≤ p2
        · rw [if_pos hend] at hpr
          refine j_icmp_lt X (tgt := 38) dX3_countCommands_33 (by decide) (fun q9 => absurd q9 ((show ¬ nI p2 < nI T.1 from nI_nlt hend (by omega)))) (fun _ => ?_)
          refine j_iload_n X (i := 1) dX3_countCommands_36 rfl rfl ?_
          exact j_iret X dX3_countCommands_37 rfl rfl ⟨by unfold cntV; rw [← hpr]; rfl, rfl, rfl, by rw [← hpr]; exact y3.2.2.2.1, X3, W3⟩
        · rw [if_neg hend] at hpr
          refine j_icmp_lt X (tgt := 38) dX3_countCommands_33 (by decide) (fun _ => ?_) (fun q9 => absurd ((show nI p2 < nI T.1 from nI_lt (by omega) (by omega))) q9)
          refine j_iinc X (i := 1) (v := (nI (i + 1 + 1))) dX3_countCommands_38 rfl (nI_1 _) (by decide) rfl ?_
          refine j_goto X (tgt := 6) dX3_countCommands_41 (by decide) ?_
          exact ih (i + 1) p2 t3 (by omega) hpr y3 (by omega) X3 W3
  refine j_aload_n X (i := 0) dX3_countCommands_0 rfl rfl ?_
  refine j_callV X (f_rewind hok hst hI) i_X3_rewind tw_5_128 tw_5_129 tw_5_130 hI.1 rfl dX3_countCommands_1 ?_ 
  have e9 : ∀ q, q ≠ 2 → q ≠ 3 → jU (jU t 450 2 (nI 1)) 450 3 (nI 0) 450 q = t 450 q := fun q a b => by rw [jU_eq, jU_eq]; unfold upd; rw [if_neg b, if_neg a]
  have f : ∀ c, c ≠ 450 → jU (jU t 450 2 (nI 1)) 450 3 (nI 0) c = t c := fun c hc => by rw [jU_ne _ _ _ hc, jU_ne _ _ _ hc]
  refine j_iconst X (v := (nI 1)) dX3_countCommands_4 (by decide) ?_
  refine j_istore_n X (i := 1) dX3_countCommands_5 rfl (by decide) rfl ?_
  exact key 60 0 0 _ rfl rfl ⟨(e9 1 (by decide) (by decide)).trans h1, fun i hi => by rw [f 451 (by decide)]; exact h2 i hi, by rw [jU_eq, jU_eq]; rfl, by rw [jU_eq]; rfl, Nat.zero_le _, h60, hc⟩ (by omega) (fun q hq => e9 q (by omega) (by omega)) f

theorem f_runCommand {l : Launch} {g : jG} (hok : jOk g) (hst : l.stackTraces = false) {z : Option Nat} {sk : jS} {t : jT} {kw : Nat → Nat} (hP : isPr g kw sk) {K w9 : Nat} {sa : Nat → Nat} (hK9 : oKw g K kw sa w9) {G : GS} (hG : RcG t G) (hK : okG G) {x : Nat × A3} (h8 : x.1 < 8) (hk : t 450 4 = nI x.1) (hA : iA t x) : jMet l g mX9_runCommand 5 0 0 [.ref (jb g + 0)] z sk t (fun v2 z2 sk2 t2 => v2 = some (.int (iN (opC G x).1)) ∧ z = z2 ∧ sk = sk2 ∧ RcV t2 1 (opC G x).2.1 ∧ RcR t2 449 (opC G x).2.2 ∧ ∀ c, (c < 1 ∨ 41 ≤ c) → c ≠ 449 → t2 c = t c) := by
  refine j_body (lv := [some (.ref (jb g + 0))]) i_X9_runCommand hok hst (fun p e s m args below meth c X => ?_)
  obtain ⟨P0, P1, P2, P3, P4, P5, P6, P7, P8⟩ := id hP
  obtain ⟨B0, B1, B2, B3, B4, B5⟩ := id P1
  obtain ⟨r1, r2, r3, r4, r5, r6, r7, r8, r9⟩ := id hG
  obtain ⟨v1, v2_, v3, v4, v5, v6⟩ := id r1
  obtain ⟨k1, k2, k3, k4, k5, k6, k7, k8⟩ := id hK.1
  obtain ⟨k, a, b, c9⟩ := x
  obtain ⟨o1, o2, o3⟩ := hA
  have hk : t 450 4 = nI k := hk
  have h8 : k < 8 := h8
  refine j_gets X hK9.2.2.1 tw_6_10 dX9_runCommand_0 ?_
  refine j_aload_n X (i := 0) dX9_runCommand_3 rfl rfl ?_
  refine jFd.get X fd_X9_43 P0 rfl dX9_runCommand_4 ?_
  refine jFd.get X fd_X9_393 P6.1 rfl dX9_runCommand_7 ?_
  rw [hk]
  obtain ⟨hk1, hk2, hk3, hk4⟩ := hK9.2.2.2.2.2 k h8
  rw [show (nI k).toInt.toNat = k by rw [nI_toInt (by omega)]; rfl]
  refine j_callUO X (st_ordinal hok hst hk2) hk1 i_Jx29ce0_ordinal_8abf5 rfl tw_6_11 tw_5_210 tw_5_213 tw_5_212 dX9_runCommand_10 (fun v2 z2 sk2 t2 hp => ?_)
  obtain ⟨rfl, hz9, hs9, ht9⟩ := hp
  have hz9 := hz9.symm
  have hs9 := hs9.symm
  have ht9 := ht9.symm
  subst hz9
  subst hs9
  subst ht9
  refine j_ti X hK9.2.2.2.1 rfl h8 (by decide) rfl dX9_runCommand_13 ?_
  rcases (show k = 0 ∨ k = 1 ∨ k = 2 ∨ k = 3 ∨ k = 4 ∨ k = 5 ∨ k = 6 ∨ k = 7 by omega) with rfl | rfl | rfl | rfl | rfl | rfl | rfl | rfl
  · refine j_tableIn X (off := 46) (tgt := 60) dX9_runCommand_14 (by decide) (by decide) rfl (by decide) ?_
    refine j_aload_n X (i := 0) dX9_runCommand_60 rfl rfl ?_
    refine jFd.get X fd_X9_12 P0 rfl dX9_runCommand_61 ?_
    refine j_aload_n X (i := 0) dX9_runCommand_64 rfl rfl ?_
    refine jFd.get X fd_X9_43 P0 rfl dX9_runCommand_65 ?_
    refine jFd.get X fd_X9_402 P6.1 rfl dX9_runCommand_68 ?_
    rw [show t 450 5 = iN a from o1 (show (0 : Nat) ≠ 3 by decide)]
    refine j_callV_p X (s_newPlate hok hst P1 r1 hK.1 (iN a)) i_X8_newPlate tw_2_198 tw_2_199 tw_2_200 B0 rfl dX9_runCommand_71 (fun v2 z2 sk2 t3 hp => ?_) 
    obtain ⟨rfl, rfl, rfl, g3, g4⟩ := hp
    exact j_iret X dX9_runCommand_74 rfl rfl ⟨rfl, rfl, rfl, g3, r5.cong (g4 _ (by omega)), fun c hc _ => g4 c (by omega)⟩
  · refine j_tableIn X (off := 61) (tgt := 75) dX9_runCommand_14 (by decide) (by decide) rfl (by decide) ?_
    refine j_aload_n X (i := 0) dX9_runCommand_75 rfl rfl ?_
    refine jFd.get X fd_X9_12 P0 rfl dX9_runCommand_76 ?_
    refine j_aload_n X (i := 0) dX9_runCommand_79 rfl rfl ?_
    refine jFd.get X fd_X9_43 P0 rfl dX9_runCommand_80 ?_
    refine jFd.get X fd_X9_402 P6.1 rfl dX9_runCommand_83 ?_
    rw [show t 450 5 = iN a from o1 (show (1 : Nat) ≠ 3 by decide)]
    refine j_aload_n X (i := 0) dX9_runCommand_86 rfl rfl ?_
    refine jFd.get X fd_X9_43 P0 rfl dX9_runCommand_87 ?_
    refine jFd.get X fd_X9_405 P6.1 rfl dX9_runCommand_90 ?_
    rw [show t 450 6 = iN b from o2 (show (1 : Nat) = 1 ∨ (1 : Nat) = 2 ∨ (1 : Nat) = 4 by decide)]
    refine j_aload_n X (i := 0) dX9_runCommand_93 rfl rfl ?_
    refine jFd.get X fd_X9_43 P0 rfl dX9_runCommand_94 ?_
    refine jFd.get X fd_X9_408 P6.1 rfl dX9_runCommand_97 ?_
    rw [show t 450 7 = iN c9 from o3 (show (1 : Nat) = 1 ∨ (1 : Nat) = 2 by decide)]
    refine j_callV_p X (s_newStar hok hst P1 r1 hK.1 (iN a) (iN b) (iN c9)) i_X8_newStar tw_3_140 tw_3_141 tw_3_142 B0 rfl dX9_runCommand_100 (fun v2 z2 sk2 t3 hp => ?_) 
    obtain ⟨rfl, rfl, rfl, g3, g4⟩ := hp
    exact j_iret X dX9_runCommand_103 rfl rfl ⟨rfl, rfl, rfl, g3, r5.cong (g4 _ (by omega)), fun c hc _ => g4 c (by omega)⟩
  · refine j_tableIn X (off := 90) (tgt := 104) dX9_runCommand_14 (by decide) (by decide) rfl (by decide) ?_
    refine j_aload_n X (i := 0) dX9_runCommand_104 rfl rfl ?_
    refine jFd.get X fd_X9_12 P0 rfl dX9_runCommand_105 ?_
    refine j_aload_n X (i := 0) dX9_runCommand_108 rfl rfl ?_
    refine jFd.get X fd_X9_43 P0 rfl dX9_runCommand_109 ?_
    refine jFd.get X fd_X9_402 P6.1 rfl dX9_runCommand_112 ?_
    rw [show t 450 5 = iN a from o1 (show (2 : Nat) ≠ 3 by decide)]
    refine j_aload_n X (i := 0) dX9_runCommand_115 rfl rfl ?_
    refine jFd.get X fd_X9_43 P0 rfl dX9_runCommand_116 ?_
    refine jFd.get X fd_X9_405 P6.1 rfl dX9_runCommand_119 ?_
    rw [show t 450 6 = iN b from o2 (show (2 : Nat) = 1 ∨ (2 : Nat) = 2 ∨ (2 : Nat) = 4 by decide)]
    refine j_aload_n X (i := 0) dX9_runCommand_122 rfl rfl ?_
    refine jFd.get X fd_X9_43 P0 rfl dX9_runCommand_123 ?_
    refine jFd.get X fd_X9_408 P6.1 rfl dX9_runCommand_126 ?_
    rw [show t 450 7 = iN c9 from o3 (show (2 : Nat) = 1 ∨ (2 : Nat) = 2 by decide)]
    refine j_callV_p X (s_shiftPlate hok hst P1 r1 hK.1 (iN a) (iN b) (iN c9)) i_X8_shiftPlate tw_3_177 tw_3_178 tw_3_179 B0 rfl dX9_runCommand_129 (fun v2 z2 sk2 t3 hp => ?_) 
    obtain ⟨rfl, rfl, rfl, g3, g4⟩ := hp
    exact j_iret X dX9_runCommand_132 rfl rfl ⟨rfl, rfl, rfl, g3, r5.cong (g4 _ (by omega)), fun c hc _ => g4 c (by omega)⟩
  · refine j_tableIn X (off := 119) (tgt := 133) dX9_runCommand_14 (by decide) (by decide) rfl (by decide) ?_
    refine j_aload_n X (i := 0) dX9_runCommand_133 rfl rfl ?_
    refine jFd.get X fd_X9_12 P0 rfl dX9_runCommand_134 ?_
    refine j_callV_p X (s_newSheet hok hst P1 r1 hK.1) i_X8_newSheet tw_4_52 tw_4_53 tw_4_54 B0 rfl dX9_runCommand_137 (fun v2 z2 sk2 t3 hp => ?_) 
    obtain ⟨rfl, rfl, rfl, g3, g4⟩ := hp
    exact j_iret X dX9_runCommand_140 rfl rfl ⟨rfl, rfl, rfl, g3, r5.cong (g4 _ (by omega)), fun c hc _ => g4 c (by omega)⟩
  · refine j_tableIn X (off := 127) (tgt := 141) dX9_runCommand_14 (by decide) (by decide) rfl (by decide) ?_
    refine j_aload_n X (i := 0) dX9_runCommand_141 rfl rfl ?_
    refine jFd.get X fd_X9_12 P0 rfl dX9_runCommand_142 ?_
    refine j_aload_n X (i := 0) dX9_runCommand_145 rfl rfl ?_
    refine jFd.get X fd_X9_43 P0 rfl dX9_runCommand_146 ?_
    refine jFd.get X fd_X9_402 P6.1 rfl dX9_runCommand_149 ?_
    rw [show t 450 5 = iN a from o1 (show (4 : Nat) ≠ 3 by decide)]
    refine j_aload_n X (i := 0) dX9_runCommand_152 rfl rfl ?_
    refine jFd.get X fd_X9_43 P0 rfl dX9_runCommand_153 ?_
    refine jFd.get X fd_X9_405 P6.1 rfl dX9_runCommand_156 ?_
    rw [show t 450 6 = iN b from o2 (show (4 : Nat) = 1 ∨ (4 : Nat) = 2 ∨ (4 : Nat) = 4 by decide)]
    refine j_aload_n X (i := 0) dX9_runCommand_159 rfl rfl ?_
    refine jFd.get X fd_X9_36 P0 rfl dX9_runCommand_160 ?_
    refine j_callV_p X (s_printPlate hok hst P1 r1 hK.1 P5 (by omega) r5 (iN a) (iN b)) i_X8_printPlate tw_4_64 tw_4_65 tw_4_66 B0 rfl dX9_runCommand_163 (fun v2 z2 sk2 t3 hp => ?_) 
    obtain ⟨rfl, rfl, rfl, g3, g5, g4⟩ := hp
    exact j_iret X dX9_runCommand_166 rfl rfl ⟨rfl, rfl, rfl, g3, g5, fun c hc h1 => g4 c (by omega) h1⟩
  · refine j_tableIn X (off := 153) (tgt := 167) dX9_runCommand_14 (by decide) (by decide) rfl (by decide) ?_
    refine j_aload_n X (i := 0) dX9_runCommand_167 rfl rfl ?_
    refine jFd.get X fd_X9_12 P0 rfl dX9_runCommand_168 ?_
    refine j_aload_n X (i := 0) dX9_runCommand_171 rfl rfl ?_
    refine jFd.get X fd_X9_43 P0 rfl dX9_runCommand_172 ?_
    refine jFd.get X fd_X9_402 P6.1 rfl dX9_runCommand_175 ?_
    rw [show t 450 5 = iN a from o1 (show (5 : Nat) ≠ 3 by decide)]
    refine j_aload_n X (i := 0) dX9_runCommand_178 rfl rfl ?_
    refine jFd.get X fd_X9_36 P0 rfl dX9_runCommand_179 ?_
    refine j_callV_p X (s_rackSheet hok hst P1 r1 hK.1 P5 (by omega) r5 (iN a)) i_X8_rackSheet tw_4_182 tw_4_183 tw_4_184 B0 rfl dX9_runCommand_182 (fun v2 z2 sk2 t3 hp => ?_) 
    obtain ⟨rfl, rfl, rfl, g3, g5, g4⟩ := hp
    exact j_iret X dX9_runCommand_185 rfl rfl ⟨rfl, rfl, rfl, g3, g5, fun c hc h1 => g4 c (by omega) h1⟩
  · refine j_tableIn X (off := 172) (tgt := 186) dX9_runCommand_14 (by decide) (by decide) rfl (by decide) ?_
    refine j_aload_n X (i := 0) dX9_runCommand_186 rfl rfl ?_
    refine jFd.get X fd_X9_12 P0 rfl dX9_runCommand_187 ?_
    refine j_aload_n X (i := 0) dX9_runCommand_190 rfl rfl ?_
    refine jFd.get X fd_X9_43 P0 rfl dX9_runCommand_191 ?_
    refine jFd.get X fd_X9_402 P6.1 rfl dX9_runCommand_194 ?_
    rw [show t 450 5 = iN a from o1 (show (6 : Nat) ≠ 3 by decide)]
    refine j_callV_p X (s_unrackSheet hok hst P1 r1 hK.1 (iN a)) i_X8_unrackSheet tw_4_197 tw_4_198 tw_4_199 B0 rfl dX9_runCommand_197 (fun v2 z2 sk2 t3 hp => ?_) 
    obtain ⟨rfl, rfl, rfl, g3, g4⟩ := hp
    exact j_iret X dX9_runCommand_200 rfl rfl ⟨rfl, rfl, rfl, g3, r5.cong (g4 _ (by omega)), fun c hc _ => g4 c (by omega)⟩
  · refine j_tableIn X (off := 187) (tgt := 201) dX9_runCommand_14 (by decide) (by decide) rfl (by decide) ?_
    refine j_aload_n X (i := 0) dX9_runCommand_201 rfl rfl ?_
    refine jFd.get X fd_X9_12 P0 rfl dX9_runCommand_202 ?_
    refine j_aload_n X (i := 0) dX9_runCommand_205 rfl rfl ?_
    refine jFd.get X fd_X9_43 P0 rfl dX9_runCommand_206 ?_
    refine jFd.get X fd_X9_402 P6.1 rfl dX9_runCommand_209 ?_
    rw [show t 450 5 = iN a from o1 (show (7 : Nat) ≠ 3 by decide)]
    refine j_callV_p X (s_letHoursPass hok hst P1 r1 hK.1 (iN a)) i_X8_letHoursPass tw_5_8 tw_5_9 tw_5_10 B0 rfl dX9_runCommand_212 (fun v2 z2 sk2 t3 hp => ?_) 
    obtain ⟨rfl, rfl, rfl, g3, g4⟩ := hp
    exact j_iret X dX9_runCommand_215 rfl rfl ⟨rfl, rfl, rfl, g3, r5.cong (g4 _ (by omega)), fun c hc _ => g4 c (by omega)⟩

