theorem f_args {l : Launch} {g : jG} (hok : jOk g) (hst : l.stackTraces = false) {z : Option Nat} {sk : jS} {t : jT} {kw : Nat → Nat} (hI : sk 450 = some (jInp g kw) ∧ sk 451 = some (kA .char 60)) {K w9 : Nat} {sa : Nat → Nat} (hK : oKw g K kw sa w9) {T : TXV} {s0 : RS} (hs : IS t T s0) {kk : Nat} (h8 : kk < 8) (hk : t 450 4 = nI kk) : jMet l g mX3_readArguments 4 0 0 [.ref (jb g + 450)] z sk t (aP T kk s0 z sk t) := by
  refine j_body (lv := [some (.ref (jb g + 450))]) i_X3_readArguments hok hst (fun p e s m args below meth c X => ?_)
  refine j_gets X hK.2.2.1 tw_5_207 dX3_readArguments_0 ?_
  refine j_aload_n X (i := 0) dX3_readArguments_3 rfl rfl ?_
  refine jFd.get X fd_X3_32 hI.1 rfl dX3_readArguments_4 ?_
  rw [hk]
  obtain ⟨hk1, hk2, hk3, hk4⟩ := hK.2.2.2.2.2 kk h8
  rw [show (nI kk).toInt.toNat = kk by rw [nI_toInt (by omega)]; rfl]
  refine j_callUO X (st_ordinal hok hst hk2) hk1 i_Jx29ce0_ordinal_8abf5 rfl tw_5_209 tw_5_210 tw_5_213 tw_5_212 dX3_readArguments_7 (fun v2 z2 sk2 t2 hp => ?_)
  obtain ⟨rfl, hz9, hs9, ht9⟩ := hp
  have hz9 := hz9.symm
  have hs9 := hs9.symm
  have ht9 := ht9.symm
  subst hz9
  subst hs9
  subst ht9
  refine j_ti X hK.2.2.2.1 rfl h8 (by decide) rfl dX3_readArguments_10 ?_
  rcases (show kk = 0 ∨ kk = 1 ∨ kk = 2 ∨ kk = 3 ∨ kk = 4 ∨ kk = 5 ∨ kk = 6 ∨ kk = 7 by omega) with rfl | rfl | rfl | rfl | rfl | rfl | rfl | rfl
  · refine j_tableIn X (off := 45) (tgt := 56) dX3_readArguments_11 (by decide) (by decide) rfl (by decide) ?_
    have y0 := hs
    have x0 : ∀ q, (q < 2 ∨ q = 4 ∨ 7 < q) → t 450 q = t 450 q := fun _ _ => rfl
    have w0 : ∀ c, c ≠ 450 → t c = t c := fun _ _ => rfl
    refine j_aload_n X (i := 0) dX3_readArguments_56 rfl rfl ?_
    refine j_aload_n X (i := 0) dX3_readArguments_57 rfl rfl ?_
    refine j_callV_p X (f_ink hok hst hI y0) i_X3_readInk tw_5_215 tw_5_217 tp_18 hI.1 rfl dX3_readArguments_58 (fun v2 z2 sk2 t3 hp => ?_) 
    obtain ⟨rfl, rfl, rfl, y1, e1, f1⟩ := hp
    refine jFd.put X fd_X3_35 hI.1 rfl rfl rfl rfl dX3_readArguments_61 ?_
    have y1 := y1.put (k := 5) (by decide) (iN (ikR T s0).2)
    have j1 : ∀ q, q ≠ 5 → (jU t3 450 5 (iN (ikR T s0).2)) 450 q = t3 450 q := fun q hq => by rw [jU_eq]; exact if_neg hq
    have v5_1 : (jU t3 450 5 (iN (ikR T s0).2)) 450 5 = iN (ikR T s0).2 := by rw [jU_eq]; rfl
    have x1 : ∀ q, (q < 2 ∨ q = 4 ∨ 7 < q) → (jU t3 450 5 (iN (ikR T s0).2)) 450 q = t 450 q := fun q hq => (j1 q (by omega)).trans ((e1 q (by omega) (by omega)).trans (x0 q hq))
    have w1 : ∀ c, c ≠ 450 → (jU t3 450 5 (iN (ikR T s0).2)) c = t c := fun c hc => (jU_ne _ _ _ hc).trans ((f1 c hc).trans (w0 c hc))
    generalize (jU t3 450 5 (iN (ikR T s0).2)) = u1 at y1 x1 w1 v5_1 ⊢
    clear j1 e1 f1
    refine j_goto X (tgt := 180) dX3_readArguments_64 (by decide) ?_
    exact j_vret X dX3_readArguments_180 rfl ⟨rfl, rfl, rfl, y1, x1, w1, ⟨fun _ => v5_1, fun q9 => absurd (show (0 : Nat) = 1 ∨ (0 : Nat) = 2 ∨ (0 : Nat) = 4 from q9) (by decide), fun q9 => absurd (show (0 : Nat) = 1 ∨ (0 : Nat) = 2 from q9) (by decide)⟩⟩
  · refine j_tableIn X (off := 56) (tgt := 67) dX3_readArguments_11 (by decide) (by decide) rfl (by decide) ?_
    have y0 := hs
    have x0 : ∀ q, (q < 2 ∨ q = 4 ∨ 7 < q) → t 450 q = t 450 q := fun _ _ => rfl
    have w0 : ∀ c, c ≠ 450 → t c = t c := fun _ _ => rfl
    refine j_aload_n X (i := 0) dX3_readArguments_67 rfl rfl ?_
    refine j_aload_n X (i := 0) dX3_readArguments_68 rfl rfl ?_
    refine j_callV_p X (f_digit hok hst hI y0) i_X3_readDigit tw_5_219 tw_5_221 tp_19 hI.1 rfl dX3_readArguments_69 (fun v2 z2 sk2 t3 hp => ?_) 
    obtain ⟨rfl, rfl, rfl, y1, e1, f1⟩ := hp
    refine jFd.put X fd_X3_35 hI.1 rfl rfl rfl rfl dX3_readArguments_72 ?_
    have y1 := y1.put (k := 5) (by decide) (iN (dgR T s0).2)
    have j1 : ∀ q, q ≠ 5 → (jU t3 450 5 (iN (dgR T s0).2)) 450 q = t3 450 q := fun q hq => by rw [jU_eq]; exact if_neg hq
    have v5_1 : (jU t3 450 5 (iN (dgR T s0).2)) 450 5 = iN (dgR T s0).2 := by rw [jU_eq]; rfl
    have x1 : ∀ q, (q < 2 ∨ q = 4 ∨ 7 < q) → (jU t3 450 5 (iN (dgR T s0).2)) 450 q = t 450 q := fun q hq => (j1 q (by omega)).trans ((e1 q (by omega) (by omega)).trans (x0 q hq))
    have w1 : ∀ c, c ≠ 450 → (jU t3 450 5 (iN (dgR T s0).2)) c = t c := fun c hc => (jU_ne _ _ _ hc).trans ((f1 c hc).trans (w0 c hc))
    generalize (jU t3 450 5 (iN (dgR T s0).2)) = u1 at y1 x1 w1 v5_1 ⊢
    clear j1 e1 f1
    refine j_aload_n X (i := 0) dX3_readArguments_75 rfl rfl ?_
    refine j_bipush X (v := (nI 32)) dX3_readArguments_76 (by decide) ?_
    refine j_callV_p X (f_sign hok hst hI y1 (c0 := 32) (by decide) (ci := 32) rfl) i_X3_readSign tw_5_136 tw_5_138 tp_13 hI.1 rfl dX3_readArguments_78 (fun v2 z2 sk2 t4 hp => ?_) 
    obtain ⟨rfl, rfl, rfl, y2, e2, f2⟩ := hp
    have v5_2 := (e2 5 (by decide) (by decide)).trans v5_1
    have x2 : ∀ q, (q < 2 ∨ q = 4 ∨ 7 < q) → t4 450 q = t 450 q := fun q hq => (e2 q (by omega) (by omega)).trans (x1 q hq)
    have w2 : ∀ c, c ≠ 450 → t4 c = t c := fun c hc => (f2 c hc).trans (w1 c hc)
    refine j_aload_n X (i := 0) dX3_readArguments_81 rfl rfl ?_
    refine j_aload_n X (i := 0) dX3_readArguments_82 rfl rfl ?_
    refine j_callV_p X (f_number hok hst hI y2) i_X3_readNumber tw_5_227 tw_5_229 tp_21 hI.1 rfl dX3_readArguments_83 (fun v2 z2 sk2 t5 hp => ?_) 
    obtain ⟨rfl, rfl, rfl, y3, e3, f3⟩ := hp
    have v5_3 := (e3 5 (by decide) (by decide)).trans v5_2
    refine jFd.put X fd_X3_38 hI.1 rfl rfl rfl rfl dX3_readArguments_86 ?_
    have y3 := y3.put (k := 6) (by decide) (iN (nbR T (sgR T 32 (dgR T s0).1)).2)
    have j3 : ∀ q, q ≠ 6 → (jU t5 450 6 (iN (nbR T (sgR T 32 (dgR T s0).1)).2)) 450 q = t5 450 q := fun q hq => by rw [jU_eq]; exact if_neg hq
    have v5_3 := (j3 5 (by decide)).trans v5_3
    have v6_3 : (jU t5 450 6 (iN (nbR T (sgR T 32 (dgR T s0).1)).2)) 450 6 = iN (nbR T (sgR T 32 (dgR T s0).1)).2 := by rw [jU_eq]; rfl
    have x3 : ∀ q, (q < 2 ∨ q = 4 ∨ 7 < q) → (jU t5 450 6 (iN (nbR T (sgR T 32 (dgR T s0).1)).2)) 450 q = t 450 q := fun q hq => (j3 q (by omega)).trans ((e3 q (by omega) (by omega)).trans (x2 q hq))
    have w3 : ∀ c, c ≠ 450 → (jU t5 450 6 (iN (nbR T (sgR T 32 (dgR T s0).1)).2)) c = t c := fun c hc => (jU_ne _ _ _ hc).trans ((f3 c hc).trans (w2 c hc))
    generalize (jU t5 450 6 (iN (nbR T (sgR T 32 (dgR T s0).1)).2)) = u3 at y3 x3 w3 v5_3 v6_3 ⊢
    clear j3 e3 f3
    refine j_aload_n X (i := 0) dX3_readArguments_89 rfl rfl ?_
    refine j_bipush X (v := (nI 44)) dX3_readArguments_90 (by decide) ?_
    refine j_callV_p X (f_sign hok hst hI y3 (c0 := 44) (by decide) (ci := 44) rfl) i_X3_readSign tw_5_136 tw_5_138 tp_13 hI.1 rfl dX3_readArguments_92 (fun v2 z2 sk2 t6 hp => ?_) 
    obtain ⟨rfl, rfl, rfl, y4, e4, f4⟩ := hp
    have v5_4 := (e4 5 (by decide) (by decide)).trans v5_3
    have v6_4 := (e4 6 (by decide) (by decide)).trans v6_3
    have x4 : ∀ q, (q < 2 ∨ q = 4 ∨ 7 < q) → t6 450 q = t 450 q := fun q hq => (e4 q (by omega) (by omega)).trans (x3 q hq)
    have w4 : ∀ c, c ≠ 450 → t6 c = t c := fun c hc => (f4 c hc).trans (w3 c hc)
    refine j_aload_n X (i := 0) dX3_readArguments_95 rfl rfl ?_
    refine j_aload_n X (i := 0) dX3_readArguments_96 rfl rfl ?_
    refine j_callV_p X (f_digit hok hst hI y4) i_X3_readDigit tw_5_219 tw_5_221 tp_19 hI.1 rfl dX3_readArguments_97 (fun v2 z2 sk2 t7 hp => ?_) 
    obtain ⟨rfl, rfl, rfl, y5, e5, f5⟩ := hp
    have v5_5 := (e5 5 (by decide) (by decide)).trans v5_4
    have v6_5 := (e5 6 (by decide) (by decide)).trans v6_4
    refine jFd.put X fd_X3_41 hI.1 rfl rfl rfl rfl dX3_readArguments_100 ?_
    have y5 := y5.put (k := 7) (by decide) (iN (dgR T (sgR T 44 (nbR T (sgR T 32 (dgR T s0).1)).1)).2)
    have j5 : ∀ q, q ≠ 7 → (jU t7 450 7 (iN (dgR T (sgR T 44 (nbR T (sgR T 32 (dgR T s0).1)).1)).2)) 450 q = t7 450 q := fun q hq => by rw [jU_eq]; exact if_neg hq
    have v5_5 := (j5 5 (by decide)).trans v5_5
    have v6_5 := (j5 6 (by decide)).trans v6_5
    have v7_5 : (jU t7 450 7 (iN (dgR T (sgR T 44 (nbR T (sgR T 32 (dgR T s0).1)).1)).2)) 450 7 = iN (dgR T (sgR T 44 (nbR T (sgR T 32 (dgR T s0).1)).1)).2 := by rw [jU_eq]; rfl
    have x5 : ∀ q, (q < 2 ∨ q = 4 ∨ 7 < q) → (jU t7 450 7 (iN (dgR T (sgR T 44 (nbR T (sgR T 32 (dgR T s0).1)).1)).2)) 450 q = t 450 q := fun q hq => (j5 q (by omega)).trans ((e5 q (by omega) (by omega)).trans (x4 q hq))
    have w5 : ∀ c, c ≠ 450 → (jU t7 450 7 (iN (dgR T (sgR T 44 (nbR T (sgR T 32 (dgR T s0).1)).1)).2)) c = t c := fun c hc => (jU_ne _ _ _ hc).trans ((f5 c hc).trans (w4 c hc))
    generalize (jU t7 450 7 (iN (dgR T (sgR T 44 (nbR T (sgR T 32 (dgR T s0).1)).1)).2)) = u5 at y5 x5 w5 v5_5 v6_5 v7_5 ⊢
    clear j5 e5 f5
    refine j_goto X (tgt := 180) dX3_readArguments_103 (by decide) ?_
    exact j_vret X dX3_readArguments_180 rfl ⟨rfl, rfl, rfl, y5, x5, w5, ⟨fun _ => v5_5, fun _ => v6_5, fun _ => v7_5⟩⟩
  · refine j_tableIn X (off := 95) (tgt := 106) dX3_readArguments_11 (by decide) (by decide) rfl (by decide) ?_
    have y0 := hs
    have x0 : ∀ q, (q < 2 ∨ q = 4 ∨ 7 < q) → t 450 q = t 450 q := fun _ _ => rfl
    have w0 : ∀ c, c ≠ 450 → t c = t c := fun _ _ => rfl
    refine j_aload_n X (i := 0) dX3_readArguments_106 rfl rfl ?_
    refine j_aload_n X (i := 0) dX3_readArguments_107 rfl rfl ?_
    refine j_callV_p X (f_digit hok hst hI y0) i_X3_readDigit tw_5_219 tw_5_221 tp_19 hI.1 rfl dX3_readArguments_108 (fun v2 z2 sk2 t3 hp => ?_) 
    obtain ⟨rfl, rfl, rfl, y1, e1, f1⟩ := hp
    refine jFd.put X fd_X3_35 hI.1 rfl rfl rfl rfl dX3_readArguments_111 ?_
    have y1 := y1.put (k := 5) (by decide) (iN (dgR T s0).2)
    have j1 : ∀ q, q ≠ 5 → (jU t3 450 5 (iN (dgR T s0).2)) 450 q = t3 450 q := fun q hq => by rw [jU_eq]; exact if_neg hq
    have v5_1 : (jU t3 450 5 (iN (dgR T s0).2)) 450 5 = iN (dgR T s0).2 := by rw [jU_eq]; rfl
    have x1 : ∀ q, (q < 2 ∨ q = 4 ∨ 7 < q) → (jU t3 450 5 (iN (dgR T s0).2)) 450 q = t 450 q := fun q hq => (j1 q (by omega)).trans ((e1 q (by omega) (by omega)).trans (x0 q hq))
    have w1 : ∀ c, c ≠ 450 → (jU t3 450 5 (iN (dgR T s0).2)) c = t c := fun c hc => (jU_ne _ _ _ hc).trans ((f1 c hc).trans (w0 c hc))
    generalize (jU t3 450 5 (iN (dgR T s0).2)) = u1 at y1 x1 w1 v5_1 ⊢
    clear j1 e1 f1
    refine j_aload_n X (i := 0) dX3_readArguments_114 rfl rfl ?_
    refine j_aload_n X (i := 0) dX3_readArguments_115 rfl rfl ?_
    refine j_callV_p X (f_signed hok hst hI y1) i_X3_readSignedDigit tw_5_231 tw_5_233 tp_22 hI.1 rfl dX3_readArguments_116 (fun v2 z2 sk2 t4 hp => ?_) 
    obtain ⟨rfl, rfl, rfl, y2, e2, f2⟩ := hp
    have v5_2 := (e2 5 (by decide) (by decide)).trans v5_1
    refine jFd.put X fd_X3_38 hI.1 rfl rfl rfl rfl dX3_readArguments_119 ?_
    have y2 := y2.put (k := 6) (by decide) (iN (sdR T (dgR T s0).1).2)
    have j2 : ∀ q, q ≠ 6 → (jU t4 450 6 (iN (sdR T (dgR T s0).1).2)) 450 q = t4 450 q := fun q hq => by rw [jU_eq]; exact if_neg hq
    have v5_2 := (j2 5 (by decide)).trans v5_2
    have v6_2 : (jU t4 450 6 (iN (sdR T (dgR T s0).1).2)) 450 6 = iN (sdR T (dgR T s0).1).2 := by rw [jU_eq]; rfl
    have x2 : ∀ q, (q < 2 ∨ q = 4 ∨ 7 < q) → (jU t4 450 6 (iN (sdR T (dgR T s0).1).2)) 450 q = t 450 q := fun q hq => (j2 q (by omega)).trans ((e2 q (by omega) (by omega)).trans (x1 q hq))
    have w2 : ∀ c, c ≠ 450 → (jU t4 450 6 (iN (sdR T (dgR T s0).1).2)) c = t c := fun c hc => (jU_ne _ _ _ hc).trans ((f2 c hc).trans (w1 c hc))
    generalize (jU t4 450 6 (iN (sdR T (dgR T s0).1).2)) = u2 at y2 x2 w2 v5_2 v6_2 ⊢
    clear j2 e2 f2
    refine j_aload_n X (i := 0) dX3_readArguments_122 rfl rfl ?_
    refine j_aload_n X (i := 0) dX3_readArguments_123 rfl rfl ?_
    refine j_callV_p X (f_signed hok hst hI y2) i_X3_readSignedDigit tw_5_231 tw_5_233 tp_22 hI.1 rfl dX3_readArguments_124 (fun v2 z2 sk2 t5 hp => ?_) 
    obtain ⟨rfl, rfl, rfl, y3, e3, f3⟩ := hp
    have v5_3 := (e3 5 (by decide) (by decide)).trans v5_2
    have v6_3 := (e3 6 (by decide) (by decide)).trans v6_2
    refine jFd.put X fd_X3_41 hI.1 rfl rfl rfl rfl dX3_readArguments_127 ?_
    have y3 := y3.put (k := 7) (by decide) (iN (sdR T (sdR T (dgR T s0).1).1).2)
    have j3 : ∀ q, q ≠ 7 → (jU t5 450 7 (iN (sdR T (sdR T (dgR T s0).1).1).2)) 450 q = t5 450 q := fun q hq => by rw [jU_eq]; exact if_neg hq
    have v5_3 := (j3 5 (by decide)).trans v5_3
    have v6_3 := (j3 6 (by decide)).trans v6_3
    have v7_3 : (jU t5 450 7 (iN (sdR T (sdR T (dgR T s0).1).1).2)) 450 7 = iN (sdR T (sdR T (dgR T s0).1).1).2 := by rw [jU_eq]; rfl
    have x3 : ∀ q, (q < 2 ∨ q = 4 ∨ 7 < q) → (jU t5 450 7 (iN (sdR T (sdR T (dgR T s0).1).1).2)) 450 q = t 450 q := fun q hq => (j3 q (by omega)).trans ((e3 q (by omega) (by omega)).trans (x2 q hq))
    have w3 : ∀ c, c ≠ 450 → (jU t5 450 7 (iN (sdR T (sdR T (dgR T s0).1).1).2)) c = t c := fun c hc => (jU_ne _ _ _ hc).trans ((f3 c hc).trans (w2 c hc))
    generalize (jU t5 450 7 (iN (sdR T (sdR T (dgR T s0).1).1).2)) = u3 at y3 x3 w3 v5_3 v6_3 v7_3 ⊢
    clear j3 e3 f3
    refine j_goto X (tgt := 180) dX3_readArguments_130 (by decide) ?_
    exact j_vret X dX3_readArguments_180 rfl ⟨rfl, rfl, rfl, y3, x3, w3, ⟨fun _ => v5_3, fun _ => v6_3, fun _ => v7_3⟩⟩
  · refine j_tableIn X (off := 169) (tgt := 180) dX3_readArguments_11 (by decide) (by decide) rfl (by decide) ?_
    exact j_vret X dX3_readArguments_180 rfl ⟨rfl, rfl, rfl, hs, fun _ _ => rfl, fun _ _ => rfl, fun q9 => absurd rfl q9, fun q9 => absurd (show (3 : Nat) = 1 ∨ (3 : Nat) = 2 ∨ (3 : Nat) = 4 from q9) (by decide), fun q9 => absurd (show (3 : Nat) = 1 ∨ (3 : Nat) = 2 from q9) (by decide)⟩
  · refine j_tableIn X (off := 122) (tgt := 133) dX3_readArguments_11 (by decide) (by decide) rfl (by decide) ?_
    have y0 := hs
    have x0 : ∀ q, (q < 2 ∨ q = 4 ∨ 7 < q) → t 450 q = t 450 q := fun _ _ => rfl
    have w0 : ∀ c, c ≠ 450 → t c = t c := fun _ _ => rfl
    refine j_aload_n X (i := 0) dX3_readArguments_133 rfl rfl ?_
    refine j_aload_n X (i := 0) dX3_readArguments_134 rfl rfl ?_
    refine j_callV_p X (f_digit hok hst hI y0) i_X3_readDigit tw_5_219 tw_5_221 tp_19 hI.1 rfl dX3_readArguments_135 (fun v2 z2 sk2 t3 hp => ?_) 
    obtain ⟨rfl, rfl, rfl, y1, e1, f1⟩ := hp
    refine jFd.put X fd_X3_35 hI.1 rfl rfl rfl rfl dX3_readArguments_138 ?_
    have y1 := y1.put (k := 5) (by decide) (iN (dgR T s0).2)
    have j1 : ∀ q, q ≠ 5 → (jU t3 450 5 (iN (dgR T s0).2)) 450 q = t3 450 q := fun q hq => by rw [jU_eq]; exact if_neg hq
    have v5_1 : (jU t3 450 5 (iN (dgR T s0).2)) 450 5 = iN (dgR T s0).2 := by rw [jU_eq]; rfl
    have x1 : ∀ q, (q < 2 ∨ q = 4 ∨ 7 < q) → (jU t3 450 5 (iN (dgR T s0).2)) 450 q = t 450 q := fun q hq => (j1 q (by omega)).trans ((e1 q (by omega) (by omega)).trans (x0 q hq))
    have w1 : ∀ c, c ≠ 450 → (jU t3 450 5 (iN (dgR T s0).2)) c = t c := fun c hc => (jU_ne _ _ _ hc).trans ((f1 c hc).trans (w0 c hc))
    generalize (jU t3 450 5 (iN (dgR T s0).2)) = u1 at y1 x1 w1 v5_1 ⊢
    clear j1 e1 f1
    refine j_aload_n X (i := 0) dX3_readArguments_141 rfl rfl ?_
    refine j_bipush X (v := (nI 62)) dX3_readArguments_142 (by decide) ?_
    refine j_callV_p X (f_sign hok hst hI y1 (c0 := 62) (by decide) (ci := 62) rfl) i_X3_readSign tw_5_136 tw_5_138 tp_13 hI.1 rfl dX3_readArguments_144 (fun v2 z2 sk2 t4 hp => ?_) 
    obtain ⟨rfl, rfl, rfl, y2, e2, f2⟩ := hp
    have v5_2 := (e2 5 (by decide) (by decide)).trans v5_1
    have x2 : ∀ q, (q < 2 ∨ q = 4 ∨ 7 < q) → t4 450 q = t 450 q := fun q hq => (e2 q (by omega) (by omega)).trans (x1 q hq)
    have w2 : ∀ c, c ≠ 450 → t4 c = t c := fun c hc => (f2 c hc).trans (w1 c hc)
    refine j_aload_n X (i := 0) dX3_readArguments_147 rfl rfl ?_
    refine j_aload_n X (i := 0) dX3_readArguments_148 rfl rfl ?_
    refine j_callV_p X (f_digit hok hst hI y2) i_X3_readDigit tw_5_219 tw_5_221 tp_19 hI.1 rfl dX3_readArguments_149 (fun v2 z2 sk2 t5 hp => ?_) 
    obtain ⟨rfl, rfl, rfl, y3, e3, f3⟩ := hp
    have v5_3 := (e3 5 (by decide) (by decide)).trans v5_2
    refine jFd.put X fd_X3_38 hI.1 rfl rfl rfl rfl dX3_readArguments_152 ?_
    have y3 := y3.put (k := 6) (by decide) (iN (dgR T (sgR T 62 (dgR T s0).1)).2)
    have j3 : ∀ q, q ≠ 6 → (jU t5 450 6 (iN (dgR T (sgR T 62 (dgR T s0).1)).2)) 450 q = t5 450 q := fun q hq => by rw [jU_eq]; exact if_neg hq
    have v5_3 := (j3 5 (by decide)).trans v5_3
    have v6_3 : (jU t5 450 6 (iN (dgR T (sgR T 62 (dgR T s0).1)).2)) 450 6 = iN (dgR T (sgR T 62 (dgR T s0).1)).2 := by rw [jU_eq]; rfl
    have x3 : ∀ q, (q < 2 ∨ q = 4 ∨ 7 < q) → (jU t5 450 6 (iN (dgR T (sgR T 62 (dgR T s0).1)).2)) 450 q = t 450 q := fun q hq => (j3 q (by omega)).trans ((e3 q (by omega) (by omega)).trans (x2 q hq))
    have w3 : ∀ c, c ≠ 450 → (jU t5 450 6 (iN (dgR T (sgR T 62 (dgR T s0).1)).2)) c = t c := fun c hc => (jU_ne _ _ _ hc).trans ((f3 c hc).trans (w2 c hc))
    generalize (jU t5 450 6 (iN (dgR T (sgR T 62 (dgR T s0).1)).2)) = u3 at y3 x3 w3 v5_3 v6_3 ⊢
    clear j3 e3 f3
    refine j_goto X (tgt := 180) dX3_readArguments_155 (by decide) ?_
    exact j_vret X dX3_readArguments_180 rfl ⟨rfl, rfl, rfl, y3, x3, w3, ⟨fun _ => v5_3, fun _ => v6_3, fun q9 => absurd (show (4 : Nat) = 1 ∨ (4 : Nat) = 2 from q9) (by decide)⟩⟩
  · refine j_tableIn X (off := 147) (tgt := 158) dX3_readArguments_11 (by decide) (by decide) rfl (by decide) ?_
    have y0 := hs
    have x0 : ∀ q, (q < 2 ∨ q = 4 ∨ 7 < q) → t 450 q = t 450 q := fun _ _ => rfl
    have w0 : ∀ c, c ≠ 450 → t c = t c := fun _ _ => rfl
    refine j_aload_n X (i := 0) dX3_readArguments_158 rfl rfl ?_
    refine j_aload_n X (i := 0) dX3_readArguments_159 rfl rfl ?_
    refine j_callV_p X (f_digit hok hst hI y0) i_X3_readDigit tw_5_219 tw_5_221 tp_19 hI.1 rfl dX3_readArguments_160 (fun v2 z2 sk2 t3 hp => ?_) 
    obtain ⟨rfl, rfl, rfl, y1, e1, f1⟩ := hp
    refine jFd.put X fd_X3_35 hI.1 rfl rfl rfl rfl dX3_readArguments_163 ?_
    have y1 := y1.put (k := 5) (by decide) (iN (dgR T s0).2)
    have j1 : ∀ q, q ≠ 5 → (jU t3 450 5 (iN (dgR T s0).2)) 450 q = t3 450 q := fun q hq => by rw [jU_eq]; exact if_neg hq
    have v5_1 : (jU t3 450 5 (iN (dgR T s0).2)) 450 5 = iN (dgR T s0).2 := by rw [jU_eq]; rfl
    have x1 : ∀ q, (q < 2 ∨ q = 4 ∨ 7 < q) → (jU t3 450 5 (iN (dgR T s0).2)) 450 q = t 450 q := fun q hq => (j1 q (by omega)).trans ((e1 q (by omega) (by omega)).trans (x0 q hq))
    have w1 : ∀ c, c ≠ 450 → (jU t3 450 5 (iN (dgR T s0).2)) c = t c := fun c hc => (jU_ne _ _ _ hc).trans ((f1 c hc).trans (w0 c hc))
    generalize (jU t3 450 5 (iN (dgR T s0).2)) = u1 at y1 x1 w1 v5_1 ⊢
    clear j1 e1 f1
    refine j_goto X (tgt := 180) dX3_readArguments_166 (by decide) ?_
    exact j_vret X dX3_readArguments_180 rfl ⟨rfl, rfl, rfl, y1, x1, w1, ⟨fun _ => v5_1, fun q9 => absurd (show (5 : Nat) = 1 ∨ (5 : Nat) = 2 ∨ (5 : Nat) = 4 from q9) (by decide), fun q9 => absurd (show (5 : Nat) = 1 ∨ (5 : Nat) = 2 from q9) (by decide)⟩⟩
  · refine j_tableIn X (off := 147) (tgt := 158) dX3_readArguments_11 (by decide) (by decide) rfl (by decide) ?_
    have y0 := hs
    have x0 : ∀ q, (q < 2 ∨ q = 4 ∨ 7 < q) → t 450 q = t 450 q := fun _ _ => rfl
    have w0 : ∀ c, c ≠ 450 → t c = t c := fun _ _ => rfl
    refine j_aload_n X (i := 0) dX3_readArguments_158 rfl rfl ?_
    refine j_aload_n X (i := 0) dX3_readArguments_159 rfl rfl ?_
    refine j_callV_p X (f_digit hok hst hI y0) i_X3_readDigit tw_5_219 tw_5_221 tp_19 hI.1 rfl dX3_readArguments_160 (fun v2 z2 sk2 t3 hp => ?_) 
    obtain ⟨rfl, rfl, rfl, y1, e1, f1⟩ := hp
    refine jFd.put X fd_X3_35 hI.1 rfl rfl rfl rfl dX3_readArguments_163 ?_
    have y1 := y1.put (k := 5) (by decide) (iN (dgR T s0).2)
    have j1 : ∀ q, q ≠ 5 → (jU t3 450 5 (iN (dgR T s0).2)) 450 q = t3 450 q := fun q hq => by rw [jU_eq]; exact if_neg hq
    have v5_1 : (jU t3 450 5 (iN (dgR T s0).2)) 450 5 = iN (dgR T s0).2 := by rw [jU_eq]; rfl
    have x1 : ∀ q, (q < 2 ∨ q = 4 ∨ 7 < q) → (jU t3 450 5 (iN (dgR T s0).2)) 450 q = t 450 q := fun q hq => (j1 q (by omega)).trans ((e1 q (by omega) (by omega)).trans (x0 q hq))
    have w1 : ∀ c, c ≠ 450 → (jU t3 450 5 (iN (dgR T s0).2)) c = t c := fun c hc => (jU_ne _ _ _ hc).trans ((f1 c hc).trans (w0 c hc))
    generalize (jU t3 450 5 (iN (dgR T s0).2)) = u1 at y1 x1 w1 v5_1 ⊢
    clear j1 e1 f1
    refine j_goto X (tgt := 180) dX3_readArguments_166 (by decide) ?_
    exact j_vret X dX3_readArguments_180 rfl ⟨rfl, rfl, rfl, y1, x1, w1, ⟨fun _ => v5_1, fun q9 => absurd (show (6 : Nat) = 1 ∨ (6 : Nat) = 2 ∨ (6 : Nat) = 4 from q9) (by decide), fun q9 => absurd (show (6 : Nat) = 1 ∨ (6 : Nat) = 2 from q9) (by decide)⟩⟩
  · refine j_tableIn X (off := 158) (tgt := 169) dX3_readArguments_11 (by decide) (by decide) rfl (by decide) ?_
    have y0 := hs
    have x0 : ∀ q, (q < 2 ∨ q = 4 ∨ 7 < q) → t 450 q = t 450 q := fun _ _ => rfl
    have w0 : ∀ c, c ≠ 450 → t c = t c := fun _ _ => rfl
    refine j_aload_n X (i := 0) dX3_readArguments_169 rfl rfl ?_
    refine j_aload_n X (i := 0) dX3_readArguments_170 rfl rfl ?_
    refine j_callV_p X (f_number hok hst hI y0) i_X3_readNumber tw_5_227 tw_5_229 tp_21 hI.1 rfl dX3_readArguments_171 (fun v2 z2 sk2 t3 hp => ?_) 
    obtain ⟨rfl, rfl, rfl, y1, e1, f1⟩ := hp
    refine jFd.put X fd_X3_35 hI.1 rfl rfl rfl rfl dX3_readArguments_174 ?_
    have y1 := y1.put (k := 5) (by decide) (iN (nbR T s0).2)
    have j1 : ∀ q, q ≠ 5 → (jU t3 450 5 (iN (nbR T s0).2)) 450 q = t3 450 q := fun q hq => by rw [jU_eq]; exact if_neg hq
    have v5_1 : (jU t3 450 5 (iN (nbR T s0).2)) 450 5 = iN (nbR T s0).2 := by rw [jU_eq]; rfl
    have x1 : ∀ q, (q < 2 ∨ q = 4 ∨ 7 < q) → (jU t3 450 5 (iN (nbR T s0).2)) 450 q = t 450 q := fun q hq => (j1 q (by omega)).trans ((e1 q (by omega) (by omega)).trans (x0 q hq))
    have w1 : ∀ c, c ≠ 450 → (jU t3 450 5 (iN (nbR T s0).2)) c = t c := fun c hc => (jU_ne _ _ _ hc).trans ((f1 c hc).trans (w0 c hc))
    generalize (jU t3 450 5 (iN (nbR T s0).2)) = u1 at y1 x1 w1 v5_1 ⊢
    clear j1 e1 f1
    refine j_goto X (tgt := 180) dX3_readArguments_177 (by decide) ?_
    exact j_vret X dX3_readArguments_180 rfl ⟨rfl, rfl, rfl, y1, x1, w1, ⟨fun _ => v5_1, fun q9 => absurd (show (7 : Nat) = 1 ∨ (7 : Nat) = 2 ∨ (7 : Nat) = 4 from q9) (by decide), fun q9 => absurd (show (7 : Nat) = 1 ∨ (7 : Nat) = 2 from q9) (by decide)⟩⟩

theorem f_next {l : Launch} {g : jG} (hok : jOk g) (hst : l.stackTraces = false) {z : Option Nat} {sk : jS} {t : jT} {kw : Nat → Nat} (hI : sk 450 = some (jInp g kw) ∧ sk 451 = some (kA .char 60)) {K w9 : Nat} {sa : Nat → Nat} (hK : oKw g K kw sa w9) {T : TXV} {p0 : Nat} (hs : IS t T (true, p0)) : jMet l g mX3_readNext 7 0 0 [.ref (jb g + 450)] z sk t (nP T p0 z sk t) := by
  refine j_body (lv := [some (.ref (jb g + 450))]) i_X3_readNext hok hst (fun p e s m args below meth c X => ?_)
  have h60 := hs.2.2.2.2.2.1
  have hpT : p0 ≤ T.1 := hs.2.2.2.2.1
  have back : ∀ (p1 : Nat) (t1 : jT), IS t1 T (true, p1) → (∀ q, (q < 2 ∨ 7 < q) → t1 450 q = t 450 q) → (∀ c, c ≠ 450 → t1 c = t c) → nxR T p0 = cmR T p1 → J p l e (jR 7 0 0) s m args below meth c (jQm below args s g 0 0 (nP T p0 z sk t)) 1 g 0 0 z sk t1 13 [some (.ref (jb g + 450))] [] := fun p1 t1 hs1 x1 w1 hn => by
    refine j_aload_n X (i := 0) dX3_readNext_13 rfl rfl ?_
    refine j_callV_p X (f_keyword hok hst hI hK hs1) i_X3_readKeyword tw_5_144 tw_5_146 tp_15 hI.1 rfl dX3_readNext_14 (fun v2 z2 sk2 t3 hp => ?_) 
    have hkS : kwS T (true, p1) = ((kwR T p1).1.isSome, p1 + (kwR T p1).2) := if_neg (show ¬ true = false by decide)
    have hsp := kwR_sp T (show p1 ≤ T.1 from hs1.2.2.2.2.1)
    unfold kP at hp
    rw [hkS] at hp
    obtain ⟨rfl, rfl, rfl, y3, x3, w3, k3⟩ := hp
    have X3 : ∀ q, (q < 2 ∨ 7 < q) → t3 450 q = t 450 q := fun q hq => (x3 q (by omega) (by omega) (by omega)).trans (x1 q hq)
    have W3 : ∀ c, c ≠ 450 → t3 c = t c := fun c hc => (w3 c hc).trans (w1 c hc)
    unfold nP
    rw [hn]
    cases hkk : (kwR T p1).1 with
    | none =>
      have hc : cmR T p1 = ((false, p1 + (kwR T p1).2), (0, (0, 0, 0))) := by unfold cmR; rw [hkk]
      rw [hkk] at y3
      refine j_aload_n X (i := 0) dX3_readNext_17 rfl rfl ?_
      refine jFd.get X fd_X3_19 hI.1 rfl dX3_readNext_18 ?_
      rw [y3.2.2.1]
      refine j_if_eq X (tgt := 28) dX3_readNext_21 (by decide) (fun _ => ?_) (fun q9 => absurd (rfl) q9)
      rw [hc]
      exact j_vret X dX3_readNext_28 rfl ⟨rfl, rfl, rfl, y3, X3, W3, fun q9 => absurd (show false = true from q9) (by decide)⟩
    | some k =>
      obtain ⟨h8, -, -⟩ := hsp.2.2 k hkk
      have hc : cmR T p1 = ((agR T k (true, p1 + (kwR T p1).2)).1, (k, (agR T k (true, p1 + (kwR T p1).2)).2)) := by unfold cmR; rw [hkk]
      rw [hkk] at y3
      have hk4 := k3 k rfl hkk
      refine j_aload_n X (i := 0) dX3_readNext_17 rfl rfl ?_
      refine jFd.get X fd_X3_19 hI.1 rfl dX3_readNext_18 ?_
      rw [y3.2.2.1]
      refine j_if_eq X (tgt := 28) dX3_readNext_21 (by decide) (fun q9 => absurd q9 ((show ¬ nI (true : Bool).toNat = 0 by decide))) (fun _ => ?_)
      refine j_aload_n X (i := 0) dX3_readNext_24 rfl rfl ?_
      refine j_callV_p X (f_args hok hst hI hK y3 h8 hk4) i_X3_readArguments tw_5_203 tw_5_205 tp_17 hI.1 rfl dX3_readNext_25 (fun v2 z2 sk2 t4 hp => ?_) 
      obtain ⟨rfl, rfl, rfl, y4, x4, w4, k4⟩ := hp
      rw [hc]
      exact j_vret X dX3_readNext_28 rfl ⟨rfl, rfl, rfl, y4, fun q hq => (x4 q (by omega)).trans (X3 q hq), fun c hc => (w4 c hc).trans (W3 c hc), fun _ => ⟨(x4 4 (by omega)).trans hk4, k4⟩⟩
  have a4 : t 450 3 = nI p0 := hs.2.2.2.1
  refine j_aload_n X (i := 0) dX3_readNext_0 rfl rfl ?_
  refine jFd.get X fd_X3_23 hI.1 rfl dX3_readNext_1 ?_
  rw [a4]
  by_cases h0 : 0 < p0
  · refine j_if_le X (tgt := 13) dX3_readNext_4 (by decide) (fun q9 => absurd q9 ((show ¬ nI p0 ≤ nI 0 from nI_ge h0 (by omega)))) (fun _ => ?_)
    refine j_aload_n X (i := 0) dX3_readNext_7 rfl rfl ?_
    refine j_bipush X (v := (nI 59)) dX3_readNext_8 (by decide) ?_
    refine j_callV_p X (f_sign hok hst hI hs (c0 := 59) (by decide) (ci := 59) rfl) i_X3_readSign tw_5_136 tw_5_138 tp_13 hI.1 rfl dX3_readNext_10 (fun v2 z2 sk2 t1 hp => ?_) 
    by_cases hc : chT T p0 = 59
    · rw [sgR_y hc] at hp
      obtain ⟨rfl, rfl, rfl, y1, e1, f1⟩ := hp
      exact back (p0 + 1) t1 y1 (fun q hq => e1 q (by omega) (by omega)) f1 (by unfold nxR; rw [if_pos h0, if_pos hc])
    · rw [sgR_n hc] at hp
      obtain ⟨rfl, rfl, rfl, y1, e1, f1⟩ := hp
      have hn : nxR T p0 = ((false, p0), (0, (0, 0, 0))) := by unfold nxR; rw [if_pos h0, if_neg hc]
      refine j_aload_n X (i := 0) dX3_readNext_13 rfl rfl ?_
      refine j_callV_p X (f_keyword hok hst hI hK y1) i_X3_readKeyword tw_5_144 tw_5_146 tp_15 hI.1 rfl dX3_readNext_14 (fun v2 z2 sk2 t3 hp => ?_) 
      unfold kP at hp
      rw [show kwS T (false, p0) = (false, p0) from if_pos rfl] at hp
      obtain ⟨rfl, rfl, rfl, y3, x3, w3, k3⟩ := hp
      refine j_aload_n X (i := 0) dX3_readNext_17 rfl rfl ?_
      refine jFd.get X fd_X3_19 hI.1 rfl dX3_readNext_18 ?_
      rw [y3.2.2.1]
      refine j_if_eq X (tgt := 28) dX3_readNext_21 (by decide) (fun _ => ?_) (fun q9 => absurd (rfl) q9)
      unfold nP
      rw [hn]
      exact j_vret X dX3_readNext_28 rfl ⟨rfl, rfl, rfl, y3, fun q hq => (x3 q (by omega) (by omega) (by omega)).trans (e1 q (by omega) (by omega)), fun c hc => (w3 c hc).trans (f1 c hc), fun q9 => absurd (show false = true from q9) (by decide)⟩
  · have hp0 : p0 = 0 := by omega
    subst hp0
    refine j_if_le X (tgt := 13) dX3_readNext_4 (by decide) (fun _ => ?_) (fun q9 => absurd ((show nI 0 ≤ 0 by decide)) q9)
    exact back 0 t hs (fun _ _ => rfl) (fun _ _ => rfl) rfl

