def rnV : Option Nat → Int32
  | none => -1
  | some i => nI i
theorem RcG.same {t u : jT} {G : GS} (h : RcG t G) (e : ∀ c, c ≠ 450 → u c = t c) (h1 : u 450 1 = t 450 1) : RcG u G := h.inp (x := gT G) (fun c h0 _ => e c h0) (h1.trans h.2.2.2.2.2.1.1) (fun i hi => by rw [e 451 (by decide)]; exact h.2.2.2.2.2.1.2 i hi)
theorem f_runCommands {l : Launch} {g : jG} (hok : jOk g) (hst : l.stackTraces = false) {z : Option Nat} {sk : jS} {t : jT} {kw : Nat → Nat} (hP : isPr g kw sk) {K w9 : Nat} {sa : Nat → Nat} (hK9 : oKw g K kw sa w9) {G : GS} (hG : RcG t G) (hK : okG G) {n : Nat} (hwf : (prT (gT G)).1 = true) (hn : n = (prT (gT G)).2.1) : jMet l g mX9_runCommands 8 0 0 [.ref (jb g + 0), .int (nI n)] z sk t (fun v2 z2 sk2 t2 => v2 = some (.int (rnV (runN (gT G) n 0 G).1)) ∧ z = z2 ∧ sk = sk2 ∧ RcG t2 (runN (gT G) n 0 G).2 ∧ ∀ c, (c < 1 ∨ 41 ≤ c) → c ≠ 449 → c ≠ 450 → t2 c = t c) := by
  refine j_body (lv := [some (.ref (jb g + 0)), some (.int (nI n)), none]) i_X9_runCommands hok hst (fun p e s m args below meth c X => ?_)
  obtain ⟨P0, P1, P2, P3, P4, P5, P6, P7, P8⟩ := id hP
  obtain ⟨B0, B1, B2, B3, B4, B5⟩ := id P1
  obtain ⟨r1, r2, r3, r4, r5, r6, r7, r8, r9⟩ := id hG
  obtain ⟨v1, v2_, v3, v4, v5, v6⟩ := id r1
  obtain ⟨k1, k2, k3, k4, k5, k6, k7, k8⟩ := id hK.1
  have h60 : (gT G).1 ≤ 60 := hK.2.2.2.2.1
  have hcc : ∀ i, (gT G).2 i < 65536 := hK.2.2.2.2.2.1
  obtain ⟨q1, q2, q3⟩ := prT_st h60
  have hpr : prR (gT G) 60 0 0 = (true, n, (prT (gT G)).2.2) := by rw [hn, ← hwf]; rfl
  have wf := prR_wf 60 0 0 hpr rfl
  have hn12 : n ≤ 12 := by omega
  generalize hT : gT G = T at *
  have key : ∀ (k i : Nat) (H : GS) (t1 : jT), i + k = n → okG H → gT H = T → RcG t1 H → IS t1 T (true, posN T i) → (∀ c, (c < 1 ∨ 41 ≤ c) → c ≠ 449 → c ≠ 450 → t1 c = t c) → runN T k i H = runN T n 0 G → J p l e (jR 8 0 0) s m args below meth c (jQm below args s g 0 0 (fun v2 z2 sk2 t2 => v2 = some (.int (rnV (runN T n 0 G).1)) ∧ z = z2 ∧ sk = sk2 ∧ RcG t2 (runN T n 0 G).2 ∧ ∀ c, (c < 1 ∨ 41 ≤ c) → c ≠ 449 → c ≠ 450 → t2 c = t c)) 3 g 0 0 z sk t1 9 [some (.ref (jb g + 0)), some (.int (nI n)), some (.int (nI i))] [] := by
    intro k
    induction k with
    | zero =>
      intro i H t1 hi hH hTH hG1 hs1 f1 hr
      refine j_iload_n X (i := 2) dX9_runCommands_9 rfl rfl ?_
      refine j_iload_n X (i := 1) dX9_runCommands_10 rfl rfl ?_
      refine j_icmp_ge X (tgt := 36) dX9_runCommands_11 (by decide) (fun _ => ?_) (fun q9 => absurd (nI_le (by omega) (by omega)) q9)
      refine j_iconst X (v := -1) dX9_runCommands_36 (by decide) ?_
      rw [← hr]
      exact j_iret X dX9_runCommands_37 rfl rfl ⟨rfl, rfl, rfl, hG1, f1⟩
    | succ k ih =>
      intro i H t1 hi hH hTH hG1 hs1 f1 hr
      have hin : i < n := by omega
      have hw := wf i (Nat.zero_le _) hin
      have hst9 := (nxR_st T (show posN T i ≤ T.1 from hs1.2.2.2.2.1)).2.2 hw
      refine j_iload_n X (i := 2) dX9_runCommands_9 rfl rfl ?_
      refine j_iload_n X (i := 1) dX9_runCommands_10 rfl rfl ?_
      refine j_icmp_ge X (tgt := 36) dX9_runCommands_11 (by decide) (fun q9 => absurd q9 (nI_ge hin (by omega))) (fun _ => ?_)
      refine j_aload_n X (i := 0) dX9_runCommands_14 rfl rfl ?_
      refine jFd.get X fd_X9_43 P0 rfl dX9_runCommands_15 ?_
      refine j_callV_p X (f_next hok hst P6 hK9 hs1) i_X3_readNext tw_6_5 tw_5_133 tw_5_134 P6.1 rfl dX9_runCommands_18 (fun v2 z2 sk2 t3 hp => ?_) 
      obtain ⟨rfl, rfl, rfl, y3, x3, w3, k3⟩ := hp
      obtain ⟨k4, kA⟩ := k3 hw
      have hG3 : RcG t3 H := hG1.same w3 (x3 1 (by decide))
      have hx : (nxR T (posN T i)).2 = cmN T i := rfl
      have hq : nxR T (posN T i) = ((true, posN T (i + 1)), cmN T i) := by
        rw [← hw]
        rfl
      rw [hq] at y3
      rw [hx] at k4 kA hst9
      refine j_aload_n X (i := 0) dX9_runCommands_21 rfl rfl ?_
      refine j_callV_p X (f_runCommand hok hst hP hK9 hG3 hH hst9.2 k4 kA) i_X9_runCommand tw_6_6 tw_6_8 tp_24 P0 rfl dX9_runCommands_22 (fun v2 z2 sk2 t4 hp => ?_) 
      obtain ⟨rfl, rfl, rfl, g1, g2, g3⟩ := hp
      obtain ⟨s1, s2, s3, s4, s5⟩ := opC_spec hH.1 (cmN T i)
      have hG4 : RcG t4 (opA true H (cmN T i)).2.2 := by
        rw [s5]
        exact hG3.op g1 (hG3.2.2.2.1.cong (g3 _ (by omega) (by omega))) g2 (fun c hc _ h1 => g3 c (by omega) h1)
      have hA := opA_H (G := H) (cmN T i)
      have hH4 := ok_op (w := true) hH (cmN T i)
      have f4 : ∀ c, (c < 1 ∨ 41 ≤ c) → c ≠ 449 → c ≠ 450 → t4 c = t c := fun c a b c9 => (g3 c a b).trans ((w3 c c9).trans (f1 c a b c9))
      have hs4 : IS t4 T (true, posN T (i + 1)) := y3.go (by rw [g3 450 (by omega) (by omega)]) (by rw [g3 450 (by omega) (by omega)]; exact y3.2.2.1) (by rw [g3 450 (by omega) (by omega)]; exact y3.2.2.2.1) (g3 451 (by omega) (by omega)) y3.2.2.2.2.1
      have hz := iN_le (a := 0) (b := (opC H (cmN T i)).1) (by decide) (by decide) (by omega) (by omega)
      have hun : runN T (k + 1) i H = (if (opA true H (cmN T i)).1 = 0 then runN T k (i + 1) (opA true H (cmN T i)).2.2 else (some i, (opA true H (cmN T i)).2.2)) := rfl
      rw [hun] at hr
      by_cases h0 : 0 ≤ (opC H (cmN T i)).1
      · rw [if_pos (s4 h0)] at hr
        refine j_if_ge X (tgt := 30) dX9_runCommands_25 (by decide) (fun _ => ?_) (fun q9 => absurd ((hz.mpr h0)) q9)
        refine j_iinc X (i := 2) (v := (nI (i + 1))) dX9_runCommands_30 rfl (nI_1 i) (by decide) rfl ?_
        refine j_goto X (tgt := 9) dX9_runCommands_33 (by decide) ?_
        exact ih (i + 1) _ t4 (by omega) hH4 (hA.2.trans hTH) hG4 hs4 f4 hr
      · rw [if_neg (s3 (by omega))] at hr
        refine j_if_ge X (tgt := 30) dX9_runCommands_25 (by decide) (fun q9 => absurd q9 ((fun z9 => h0 (hz.mp z9)))) (fun _ => ?_)
        refine j_iload_n X (i := 2) dX9_runCommands_28 rfl rfl ?_
        rw [← hr]
        exact j_iret X dX9_runCommands_29 rfl rfl ⟨rfl, rfl, rfl, hG4, f4⟩
  have e9 : ∀ q, q ≠ 2 → q ≠ 3 → jU (jU t 450 2 (nI 1)) 450 3 (nI 0) 450 q = t 450 q := fun q a b => by rw [jU_eq, jU_eq]; unfold upd; rw [if_neg b, if_neg a]
  have f9 : ∀ c, c ≠ 450 → jU (jU t 450 2 (nI 1)) 450 3 (nI 0) c = t c := fun c hc => by rw [jU_ne _ _ _ hc, jU_ne _ _ _ hc]
  refine j_aload_n X (i := 0) dX9_runCommands_0 rfl rfl ?_
  refine jFd.get X fd_X9_43 P0 rfl dX9_runCommands_1 ?_
  refine j_callV X (f_rewind hok hst P6) i_X3_rewind tw_6_4 tw_5_129 tw_5_130 P6.1 rfl dX9_runCommands_4 ?_ 
  refine j_iconst X (v := (nI 0)) dX9_runCommands_7 (by decide) ?_
  refine j_istore_n X (i := 2) dX9_runCommands_8 rfl (by decide) rfl ?_
  exact key n 0 G _ (Nat.zero_add n) hK hT (hG.same f9 (e9 1 (by decide) (by decide))) ⟨(e9 1 (by decide) (by decide)).trans r6.1, fun i hi => by rw [f9 451 (by decide)]; exact r6.2 i hi, by rw [jU_eq, jU_eq]; rfl, by rw [jU_eq]; rfl, Nat.zero_le _, h60, hcc⟩ (fun c _ _ h => f9 c h) rfl

theorem f_execute {l : Launch} {g : jG} (hok : jOk g) (hst : l.stackTraces = false) {z : Option Nat} {sk : jS} {t : jT} {kw : Nat → Nat} (hP : isPr g kw sk) {K w9 : Nat} {sa : Nat → Nat} (hK9 : oKw g K kw sa w9) {G : GS} (hG : RcG t G) (hK : okG G) : jMetX l g mX9_execute 9 1 6 [.ref (jb g + 0)] z sk t (fP (a_execute G) z sk t) (fX ["java/lang/IllegalArgumentException", "java/lang/UnsupportedOperationException"] (a_execute G) sk t) := by
  refine j_bodyX (lv := [some (.ref (jb g + 0)), none, none]) i_X9_execute hok hst (fun p e s m args below meth c X => ?_)
  obtain ⟨P0, P1, P2, P3, P4, P5, P6, P7, P8⟩ := id hP
  obtain ⟨B0, B1, B2, B3, B4, B5⟩ := id P1
  obtain ⟨r1, r2, r3, r4, r5, r6, r7, r8, r9⟩ := id hG
  obtain ⟨v1, v2_, v3, v4, v5, v6⟩ := id r1
  obtain ⟨k1, k2, k3, k4, k5, k6, k7, k8⟩ := id hK.1
  have h60 : (gT G).1 ≤ 60 := hK.2.2.2.2.1
  have hcc : ∀ i, (gT G).2 i < 65536 := hK.2.2.2.2.2.1
  obtain ⟨q1, q2, q3⟩ := prT_st h60
  refine j_aload_n X (i := 0) dX9_execute_0 rfl rfl ?_
  refine jFd.get X fd_X9_43 P0 rfl dX9_execute_1 ?_
  refine j_callV_p X (f_count hok hst P6 hK9 r6.1 r6.2 h60 hcc) i_X3_countCommands tw_5_124 tw_5_125 tw_5_126 P6.1 rfl dX9_execute_4 (fun v2 z2 sk2 t1 hp => ?_) 
  obtain ⟨rfl, rfl, rfl, i1, i2, i3⟩ := hp
  have hG1 : RcG t1 G := hG.same i3 (i2 1 (by decide))
  have f1 : ∀ c, 454 ≤ c → t1 c = t c := fun c hc => i3 c (by omega)
  cases hb : (prT (gT G)).1 with
  | false =>
    have hr : a_execute G = (1, nI 0, setE (setT G (0, (gT G).2)) (some (prT (gT G)).2.2)) := if_pos hb
    have hv : cntV (gT G) = -1 := by unfold cntV; rw [hb]; rfl
    rw [hv]
    refine j_istore_n X (i := 1) dX9_execute_7 rfl (by decide) rfl ?_
    refine j_iload_n X (i := 1) dX9_execute_8 rfl rfl ?_
    refine j_iconst X (v := -1) dX9_execute_9 (by decide) ?_
    refine j_icmp_ne X (tgt := 42) dX9_execute_10 (by decide) (fun q9 => absurd (rfl) q9) (fun _ => ?_)
    refine j_aload_n X (i := 0) dX9_execute_13 rfl rfl ?_
    refine j_aload_n X (i := 0) dX9_execute_14 rfl rfl ?_
    refine jFd.get X fd_X9_43 P0 rfl dX9_execute_15 ?_
    refine jFd.get X fd_X9_298 P6.1 rfl dX9_execute_18 ?_
    rw [i1]
    refine jFd.put X fd_X9_59 P0 rfl rfl rfl rfl dX9_execute_21 ?_
    refine j_aload_n X (i := 0) dX9_execute_24 rfl rfl ?_
    refine jFd.get X fd_X9_43 P0 rfl dX9_execute_25 ?_
    refine j_callV X (f_inClear hok hst P6) i_X3_clear tw_5_235 tw_5_236 tw_5_237 P6.1 rfl dX9_execute_28 ?_ 
    have e0 : ∀ k, k ≠ 9 → jU (jU t1 0 9 (nI (prT (gT G)).2.2)) 450 1 (nI 0) 0 k = t1 0 k := fun k hk => by rw [jU_ne _ _ _ (by decide), jU_eq]; exact if_neg hk
    have e1 : ∀ c, c ≠ 0 → c ≠ 450 → jU (jU t1 0 9 (nI (prT (gT G)).2.2)) 450 1 (nI 0) c = t1 c := fun c a b => by rw [jU_ne _ _ _ b, jU_ne _ _ _ a]
    have e9 : jU (jU t1 0 9 (nI (prT (gT G)).2.2)) 450 1 (nI 0) 0 9 = nI (prT (gT G)).2.2 := by rw [jU_ne _ _ _ (by decide), jU_eq]; rfl
    have e45 : jU (jU t1 0 9 (nI (prT (gT G)).2.2)) 450 1 (nI 0) 450 1 = nI 0 := by rw [jU_eq]; rfl
    generalize jU (jU t1 0 9 (nI (prT (gT G)).2.2)) 450 1 (nI 0) = t3 at e0 e1 e9 e45 ⊢
    obtain ⟨u1, u2, u3, u4, u5, u6, u7, u8, u9⟩ := hG1
    have u2' : RcSv t3 (gS G) := by
      cases hS : gS G with
      | none => rw [hS] at u2; exact (e0 11 (by decide)).trans u2
      | some S => rw [hS] at u2; exact ⟨(e0 11 (by decide)).trans u2.1, u2.2.cong (fun c a b => e1 c (by omega) (by omega))⟩
    exact j_throwSW X thr_IA hok.x304 dX9_execute_31 dX9_execute_34 dX9_execute_35 dX9_execute_38 dX9_execute_41 (fX_mk (n := 0) hr rfl rfl rfl ⟨u1.cong (fun c a b => e1 c (by omega) (by omega)), u2', u3.cong (fun c a b => e1 c (by omega) (by omega)), u4.cong (e1 _ (by decide) (by decide)), u5.cong (e1 _ (by decide) (by decide)), ⟨e45, fun i hi => absurd hi (Nat.not_lt_zero i)⟩, ⟨(e0 8 (by decide)).trans u7.1, fun i hi => by rw [e1 452 (by decide) (by decide)]; exact u7.2 i hi⟩, e9, (e0 10 (by decide)).trans u9⟩ (fun c hc => (e1 c (by omega) (by omega)).trans (f1 c hc)))
  | true =>
    obtain ⟨n, hn⟩ : ∃ n, n = (prT (gT G)).2.1 := ⟨_, rfl⟩
    have hv : cntV (gT G) = nI n := by unfold cntV; rw [if_pos hb, hn]
    have hrs := run_setT (T := gT G) (x := (0, (gT G).2)) n 0 G
    have hr : a_execute G = exR n (gV G) (runN (gT G) n 0 (setT G (0, (gT G).2))) := by rw [hn]; exact if_neg (by rw [hb]; decide)
    rw [hrs] at hr
    have hH := run_H (T := gT G) n 0 G
    have hli := run_lt (T := gT G) n 0 G
    rw [hv]
    refine j_istore_n X (i := 1) dX9_execute_7 rfl (by decide) rfl ?_
    refine j_iload_n X (i := 1) dX9_execute_8 rfl rfl ?_
    refine j_iconst X (v := -1) dX9_execute_9 (by decide) ?_
    refine j_icmp_ne X (tgt := 42) dX9_execute_10 (by decide) (fun _ => ?_) (fun q9 => absurd q9 ((show ¬ nI n = -1 from fun z9 => by have h2 := (iN_eq (a := (n : Int)) (b := -1) (by omega) (by omega) (by decide) (by decide)).mp (by rw [iN_nI]; exact z9); omega)))
    obtain ⟨o1, hO⟩ := hG1.2.2.1
    have hs := slH_lt o1 (gH G).1
    refine j_aload_n X (i := 0) dX9_execute_42 rfl rfl ?_
    refine jFd.get X fd_X9_22 P0 rfl dX9_execute_43 ?_
    refine j_aload_n X (i := 0) dX9_execute_46 rfl rfl ?_
    refine jFd.get X fd_X9_12 P0 rfl dX9_execute_47 ?_
    refine j_callV_p X (s_prepare hok hst P3 hO P1 hG1.1) i_X2_prepare tw_2_189 tw_2_190 tw_2_191 P3.1 rfl dX9_execute_50 (fun v2 z2 sk2 t3 hp => ?_) 
    obtain ⟨rfl, rfl, rfl, g1, g2⟩ := hp
    obtain ⟨hG3, hH3⟩ := hG1.prep hO g1 g2
    have f3 : ∀ c, 454 ≤ c → t3 c = t c := fun c hc => (g2 c (by omega)).trans (f1 c hc)
    refine j_aload_n X (i := 0) dX9_execute_53 rfl rfl ?_
    refine j_iload_n X (i := 1) dX9_execute_54 rfl rfl ?_
    refine j_callV_p X (f_runCommands hok hst hP hK9 hG3 hK hb hn) i_X9_runCommands tw_6_0 tw_6_2 tp_23 P0 rfl dX9_execute_55 (fun v2 z2 sk2 t4 hp => ?_) 
    generalize runN (gT G) n 0 G = r at hp hr hH hli
    obtain ⟨o, G2⟩ := r
    obtain ⟨rfl, rfl, rfl, g3, g4⟩ := hp
    have g3 : RcG t4 G2 := g3
    have hH4 : RcHp t4 (gH G) (gV G) := hH3.cong (fun c a b => g4 c (by omega) (by omega) (by omega))
    have f4 : ∀ c, 454 ≤ c → t4 c = t c := fun c hc => (g4 c (by omega) (by omega) (by omega)).trans (f3 c hc)
    refine j_istore_n X (i := 2) dX9_execute_58 rfl (by decide) rfl ?_
    refine j_aload_n X (i := 0) dX9_execute_59 rfl rfl ?_
    refine jFd.get X fd_X9_43 P0 rfl dX9_execute_60 ?_
    refine j_callV X (f_inClear hok hst P6) i_X3_clear tw_5_235 tw_5_236 tw_5_237 P6.1 rfl dX9_execute_63 ?_ 
    have e5 : ∀ c, c ≠ 450 → jU t4 450 1 (nI 0) c = t4 c := fun c hc => jU_ne _ _ _ hc
    have e45 : jU t4 450 1 (nI 0) 450 1 = nI 0 := by rw [jU_eq]; rfl
    have hG5 : RcG (jU t4 450 1 (nI 0)) (setT G2 (0, (gT G).2)) := g3.inp (fun c a _ => e5 c a) e45 (fun i hi => absurd hi (Nat.not_lt_zero i))
    have hH5 : RcHp (jU t4 450 1 (nI 0)) (gH G) (gV G) := hH4.cong (fun c a b => e5 c (by omega))
    have f5 : ∀ c, 454 ≤ c → jU t4 450 1 (nI 0) c = t c := fun c hc => (e5 c (by omega)).trans (f4 c hc)
    generalize jU t4 450 1 (nI 0) = t5 at hG5 hH5 f5 ⊢
    have hgh : gH G2 = gH G := hH.1
    cases o with
    | none =>
      refine j_iload_n X (i := 2) dX9_execute_66 rfl rfl ?_
      refine j_iconst X (v := -1) dX9_execute_67 (by decide) ?_
      refine j_icmp_eq X (tgt := 101) dX9_execute_68 (by decide) (fun _ => ?_) (fun q9 => absurd (rfl) q9)
      refine j_aload_n X (i := 0) dX9_execute_101 rfl rfl ?_
      refine jFd.get X fd_X9_22 P0 rfl dX9_execute_102 ?_
      refine j_callV_p X (s_hkeep hok hst P3 hH5) i_X2_keep tw_3_108 tw_3_109 tw_3_110 P3.1 rfl dX9_execute_105 (fun v2 z2 sk2 t6 hp => ?_) 
      obtain ⟨rfl, rfl, rfl, g6, g7⟩ := hp
      refine j_iload_n X (i := 1) dX9_execute_108 rfl rfl ?_
      have hr : a_execute G = (0, nI n, (gV (setT G2 (0, (gT G).2)), gS (setT G2 (0, (gT G).2)), pushH (gH G2) (gV G), (setT G2 (0, (gT G).2)).2.2.2)) := hr
      rw [hgh] at hr
      exact j_iret_x X dX9_execute_109 rfl rfl (fP_mk hr (hG5.hist g6 (fun c hc => g7 c (by omega))) (fun c hc => (g7 c (by omega)).trans (f5 c hc)))
    | some i =>
      have hi := hli i rfl
      have hvi : rnV (some i, G2).1 = nI i := rfl
      rw [hvi]
      refine j_iload_n X (i := 2) dX9_execute_66 rfl rfl ?_
      refine j_iconst X (v := -1) dX9_execute_67 (by decide) ?_
      refine j_icmp_eq X (tgt := 101) dX9_execute_68 (by decide) (fun q9 => absurd q9 ((show ¬ nI i = -1 from fun z9 => by have h2 := (iN_eq (a := (i : Int)) (b := -1) (by omega) (by omega) (by decide) (by decide)).mp (by rw [iN_nI]; exact z9); omega))) (fun _ => ?_)
      obtain ⟨o2, hO2, hV2⟩ := hH5
      obtain ⟨a1, a2, a3, a4, a5⟩ := id hO2
      have hs2 := slH_lt o2 (gH G).1
      refine j_aload_n X (i := 0) dX9_execute_71 rfl rfl ?_
      refine jFd.get X fd_X9_12 P0 rfl dX9_execute_72 ?_
      refine j_aload_n X (i := 0) dX9_execute_75 rfl rfl ?_
      refine jFd.get X fd_X9_22 P0 rfl dX9_execute_76 ?_
      refine j_callV X (s_prepared hok hst P3 a1 a2 a3 a4) i_X2_prepared tw_6_12 tw_2_194 tw_2_195 P3.1 rfl dX9_execute_79 ?_ 
      refine j_callV_p X (s_copyShop hok hst P1 (P3.2.2 _ (Nat.mod_lt _ (by decide))) hV2 (by omega)) i_X8_copyFrom tw_2_163 tw_2_164 tw_2_165 B0 rfl dX9_execute_82 (fun v2 z2 sk2 t6 hp => ?_) 
      obtain ⟨rfl, rfl, rfl, g6, g7⟩ := hp
      refine j_aload_n X (i := 0) dX9_execute_85 rfl rfl ?_
      refine j_iload_n X (i := 2) dX9_execute_86 rfl rfl ?_
      refine jFd.put X fd_X9_62 P0 rfl rfl rfl rfl dX9_execute_87 ?_
      have e0 : ∀ k, k ≠ 10 → jU t6 0 10 (nI i) 0 k = t5 0 k := fun k hk => by rw [jU_eq, g7 0 (by omega)]; exact if_neg hk
      have e1 : ∀ c, c ≠ 0 → (c < 1 ∨ 41 ≤ c) → jU t6 0 10 (nI i) c = t5 c := fun c a b => by rw [jU_ne _ _ _ a]; exact g7 c (by omega)
      have e10 : jU t6 0 10 (nI i) 0 10 = nI i := by rw [jU_eq]; rfl
      have g8 : RcV (jU t6 0 10 (nI i)) 1 (gV G) := g6.cong fun c a b => jU_ne _ _ _ (by omega)
      generalize jU t6 0 10 (nI i) = t7 at e0 e1 e10 g8 ⊢
      obtain ⟨u1, u2, u3, u4, u5, u6, u7, u8, u9⟩ := hG5
      have u2' : RcSv t7 (gS G2) := by
        have u2 : RcSv t5 (gS G2) := u2
        cases hS : gS G2 with
        | none => rw [hS] at u2; exact (e0 11 (by decide)).trans u2
        | some S => rw [hS] at u2; exact ⟨(e0 11 (by decide)).trans u2.1, u2.2.cong (fun c a b => e1 c (by omega) (by omega))⟩
      exact j_throwSW X thr_UO hok.x318 dX9_execute_90 dX9_execute_93 dX9_execute_94 dX9_execute_97 dX9_execute_100 (fX_mk (n := 1) hr rfl rfl rfl ⟨g8, u2', u3.cong (fun c a b => e1 c (by omega) (by omega)), u4.cong (e1 _ (by decide) (by decide)), u5.cong (e1 _ (by decide) (by decide)), ⟨by rw [e1 450 (by decide) (by decide)]; exact u6.1, fun i hi => absurd hi (Nat.not_lt_zero i)⟩, ⟨(e0 8 (by decide)).trans u7.1, fun i hi => by rw [e1 452 (by decide) (by decide)]; exact u7.2 i hi⟩, (e0 9 (by decide)).trans u8, e10⟩ (fun c hc => (e1 c (by omega) (by omega)).trans (f5 c hc)))

