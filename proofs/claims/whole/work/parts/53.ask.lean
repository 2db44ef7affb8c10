theorem fP_mk {r : AN} {z : Option Nat} {sk : jS} {t t2 : jT} {v : Int32} {G2 : GS} (hr : r = (0, v, G2)) (hG : RcG t2 G2) (hf : ∀ c, 454 ≤ c → t2 c = t c) : fP r z sk t (some (.int v)) z sk t2 := by
  subst hr
  exact ⟨rfl, rfl, rfl, rfl, hG, hf⟩
theorem fX_mk {r : AN} {ns : List String} {sk sk2 : jS} {t t2 : jT} {z2 : Option Nat} {E : String} {n : Nat} {v : Int32} {G2 : GS} (hr : r = (n + 1, v, G2)) (hE : ns[n]? = some E) (hz : z2 = none) (hs : sk2 = sk) (hG : RcG t2 G2) (hf : ∀ c, 454 ≤ c → t2 c = t c) : fX ns r sk t E z2 sk2 t2 := by
  subst hr
  exact ⟨Nat.succ_pos n, hE, hz, hs, hG, hf⟩
theorem qP_P {G : GS} {b : Bool} {v v2 : Int32} {z : Option Nat} {sk : jS} {t t2 : jT} (hb : b = true) (hv : v = v2) (hG : RcG t2 G) (hf : ∀ c, 454 ≤ c → t2 c = t c) : fP (qP G b v) z sk t (some (.int v2)) z sk t2 := fP_mk (by rw [qP_t hb, hv]) hG hf
theorem qP_X {G : GS} {b : Bool} {v : Int32} {ns : List String} {z2 : Option Nat} {sk sk2 : jS} {t t2 : jT} {E : String} (hG : RcG t G) (hb : b = false) (hp : ns[0]? = some E ∧ z2 = none ∧ sk2 = sk ∧ t2 = t) : fX ns (qP G b v) sk t E z2 sk2 t2 := by
  obtain ⟨h1, h2, h3, rfl⟩ := hp
  exact fX_mk (qP_f hb) h1 h2 h3 hG (fun _ _ => rfl)
theorem qPP_P {G : GS} {b b2 : Bool} {v v2 : Int32} {z : Option Nat} {sk : jS} {t t2 : jT} (hb : b = true) (hb2 : b2 = true) (hv : v = v2) (hG : RcG t2 G) (hf : ∀ c, 454 ≤ c → t2 c = t c) : fP (qPP G b b2 v) z sk t (some (.int v2)) z sk t2 := fP_mk (by rw [qPP_0 hb hb2, hv]) hG hf
theorem qPP_X1 {G : GS} {b b2 : Bool} {v : Int32} {ns : List String} {z2 : Option Nat} {sk sk2 : jS} {t t2 : jT} {E : String} (hG : RcG t G) (hb : b = false) (hp : ns[0]? = some E ∧ z2 = none ∧ sk2 = sk ∧ t2 = t) : fX ns (qPP G b b2 v) sk t E z2 sk2 t2 := by
  obtain ⟨h1, h2, h3, rfl⟩ := hp
  exact fX_mk (qPP_1 hb) h1 h2 h3 hG (fun _ _ => rfl)
theorem qPP_X2 {G : GS} {b b2 : Bool} {v : Int32} {ns : List String} {z2 : Option Nat} {sk sk2 : jS} {t t2 : jT} {E : String} (hG : RcG t G) (hb : b = true) (hb2 : b2 = false) (hp : ns[1]? = some E ∧ z2 = none ∧ sk2 = sk ∧ t2 = t) : fX ns (qPP G b b2 v) sk t E z2 sk2 t2 := by
  obtain ⟨h1, h2, h3, rfl⟩ := hp
  exact fX_mk (qPP_2 hb hb2) h1 h2 h3 hG (fun _ _ => rfl)
theorem pAt_k {V : SV} {k : Nat} (h : (nI k).toInt.toNat = k) : pAt V (nI k) = pl V k := by unfold pAt; rw [h]
theorem sAt_k {V : SV} {k : Nat} (h : (nI k).toInt.toNat = k) : sAt V (nI k) = sh V k := by unfold sAt; rw [h]
theorem i_ltn {n : Nat} (hn : n < 2 ^ 31) (x : Int32) : x < nI n ↔ x.toInt < (n : Int) := by rw [fa_lt, nI_toInt hn]
/-- the fitting has run -/
theorem RcG.fit {t : jT} {G : GS} (h : RcG t G) (S U : Nat → Bool) : RcG (fit3 t 443 (bst S U)) G := h.op (V := gV G) (f := gR G) (h.1.cong fun c _ hc => fit3_ne _ _ (by omega)) (RcF_fit3 _ _ _ _) (h.2.2.2.2.1.cong (fit3_ne _ _ (by omega))) (fun c _ h1 _ => fit3_ne _ _ h1)
theorem RcG.out {t u : jT} {G : GS} (h : RcG t G) (e : ∀ c, (c < 444 ∨ (448 < c ∧ c ≠ 453)) → u c = t c) : RcG u G := by
  obtain ⟨h1, h2, h3, h4, h5, h6, h7, h8, h9⟩ := h
  exact ⟨h1.cong (fun c a b => e c (by omega)), h2.cong (e 0 (by omega)) (fun c a b => e c (by omega)), h3.cong (fun c a b => e c (by omega)), h4.cong (e _ (by omega)), h5.cong (e _ (by omega)), ⟨by rw [e 450 (by omega)]; exact h6.1, fun i hi => by rw [e 451 (by omega)]; exact h6.2 i hi⟩, ⟨by rw [e 0 (by omega)]; exact h7.1, fun i hi => by rw [e 452 (by omega)]; exact h7.2 i hi⟩, by rw [e 0 (by omega)]; exact h8, by rw [e 0 (by omega)]; exact h9⟩
theorem f_plateAt {l : Launch} {g : jG} (hok : jOk g) (hst : l.stackTraces = false) {z : Option Nat} {sk : jS} {t : jT} {kw : Nat → Nat} (hP : isPr g kw sk) {G : GS} (hG : RcG t G) (hK : okG G) (x : Int32) : jMetX l g mX9_plateAt 6 1 6 [.ref (jb g + 0), .int x] z sk t (fun v2 z2 sk2 t2 => isPg G x = true ∧ ∃ k, k < np (gV G) ∧ x = nI k ∧ x.toInt.toNat = k ∧ v2 = some (.ref (jb g + (1 + 4 + 2 * k))) ∧ z = z2 ∧ sk = sk2 ∧ t = t2) (fun E z2 sk2 t2 => isPg G x = false ∧ E = "java/lang/IndexOutOfBoundsException" ∧ z2 = none ∧ sk2 = sk ∧ t2 = t) := by
  refine j_bodyX (lv := [some (.ref (jb g + 0)), some (.int x)]) i_X9_plateAt hok hst (fun p e s m args below meth c X => ?_)
  obtain ⟨P0, P1, P2, P3, P4, P5, P6, P7, P8⟩ := id hP
  obtain ⟨B0, B1, B2, B3, B4, B5⟩ := id P1
  obtain ⟨r1, r2, r3, r4, r5, r6, r7, r8, r9⟩ := id hG
  obtain ⟨v1, v2_, v3, v4, v5, v6⟩ := id r1
  obtain ⟨k1, k2, k3, k4, k5, k6, k7, k8⟩ := id hK.1
  refine j_aload_n X (i := 0) dX9_plateAt_0 rfl rfl ?_
  refine jFd.get X fd_X9_12 P0 rfl dX9_plateAt_1 ?_
  refine j_iload_n X (i := 1) dX9_plateAt_4 rfl rfl ?_
  refine j_callV X (s_isPlate hok hst x B0 v1 (by omega)) i_X8_isPlate tw_3_210 tw_3_145 tw_3_146 B0 rfl dX9_plateAt_5 ?_ 
  cases hq : pIx (np (gV G)) x with
  | false =>
    refine j_if_ne X (tgt := 22) dX9_plateAt_8 (by decide) (fun q9 => absurd (rfl) q9) (fun _ => ?_)
    exact j_throwSW X thr_IO hok.x356 dX9_plateAt_11 dX9_plateAt_14 dX9_plateAt_15 dX9_plateAt_18 dX9_plateAt_21 (⟨hq, rfl, rfl, rfl, rfl⟩)
  | true =>
    obtain ⟨k, hk, rfl, hxn⟩ := pIx_of (show np (gV G) ≤ 100 by omega) hq
    refine j_if_ne X (tgt := 22) dX9_plateAt_8 (by decide) (fun _ => ?_) (fun q9 => absurd q9 (by decide))
    refine j_aload_n X (i := 0) dX9_plateAt_22 rfl rfl ?_
    refine jFd.get X fd_X9_12 P0 rfl dX9_plateAt_23 ?_
    refine jFd.get X fd_X9_358 B0 rfl dX9_plateAt_26 ?_
    refine j_iload_n X (i := 1) dX9_plateAt_29 rfl rfl ?_
    refine j_aald X B1 (by decide) rfl (show k < 6 by omega) (by decide) rfl dX9_plateAt_30 ?_
    exact j_aret_x X dX9_plateAt_31 rfl ⟨hq, k, hk, rfl, hxn, rfl, rfl, rfl, rfl⟩

theorem f_sheetAt {l : Launch} {g : jG} (hok : jOk g) (hst : l.stackTraces = false) {z : Option Nat} {sk : jS} {t : jT} {kw : Nat → Nat} (hP : isPr g kw sk) {G : GS} (hG : RcG t G) (hK : okG G) (x : Int32) : jMetX l g mX9_sheetAt 6 1 6 [.ref (jb g + 0), .int x] z sk t (fun v2 z2 sk2 t2 => isSg G x = true ∧ ∃ k, k < ns (gV G) ∧ x = nI k ∧ x.toInt.toNat = k ∧ v2 = some (.ref (jb g + (1 + 16 + 3 * k))) ∧ z = z2 ∧ sk = sk2 ∧ t = t2) (fun E z2 sk2 t2 => isSg G x = false ∧ E = "java/lang/IndexOutOfBoundsException" ∧ z2 = none ∧ sk2 = sk ∧ t2 = t) := by
  refine j_bodyX (lv := [some (.ref (jb g + 0)), some (.int x)]) i_X9_sheetAt hok hst (fun p e s m args below meth c X => ?_)
  obtain ⟨P0, P1, P2, P3, P4, P5, P6, P7, P8⟩ := id hP
  obtain ⟨B0, B1, B2, B3, B4, B5⟩ := id P1
  obtain ⟨r1, r2, r3, r4, r5, r6, r7, r8, r9⟩ := id hG
  obtain ⟨v1, v2_, v3, v4, v5, v6⟩ := id r1
  obtain ⟨k1, k2, k3, k4, k5, k6, k7, k8⟩ := id hK.1
  refine j_aload_n X (i := 0) dX9_sheetAt_0 rfl rfl ?_
  refine jFd.get X fd_X9_12 P0 rfl dX9_sheetAt_1 ?_
  refine j_iload_n X (i := 1) dX9_sheetAt_4 rfl rfl ?_
  refine j_callV X (s_isSheet hok hst x B0 v2_ (by omega)) i_X8_isSheet tw_4_104 tw_4_69 tw_4_70 B0 rfl dX9_sheetAt_5 ?_ 
  cases hq : pIx (ns (gV G)) x with
  | false =>
    refine j_if_ne X (tgt := 22) dX9_sheetAt_8 (by decide) (fun q9 => absurd (rfl) q9) (fun _ => ?_)
    exact j_throwSW X thr_IO hok.x365 dX9_sheetAt_11 dX9_sheetAt_14 dX9_sheetAt_15 dX9_sheetAt_18 dX9_sheetAt_21 (⟨hq, rfl, rfl, rfl, rfl⟩)
  | true =>
    obtain ⟨k, hk, rfl, hxn⟩ := pIx_of (show ns (gV G) ≤ 100 by omega) hq
    refine j_if_ne X (tgt := 22) dX9_sheetAt_8 (by decide) (fun _ => ?_) (fun q9 => absurd q9 (by decide))
    refine j_aload_n X (i := 0) dX9_sheetAt_22 rfl rfl ?_
    refine jFd.get X fd_X9_12 P0 rfl dX9_sheetAt_23 ?_
    refine jFd.get X fd_X9_199 B0 rfl dX9_sheetAt_26 ?_
    refine j_iload_n X (i := 1) dX9_sheetAt_29 rfl rfl ?_
    refine j_aald X B2 (by decide) rfl (show k < 8 by omega) (by decide) rfl dX9_sheetAt_30 ?_
    exact j_aret_x X dX9_sheetAt_31 rfl ⟨hq, k, hk, rfl, hxn, rfl, rfl, rfl, rfl⟩

theorem f_requirePlace {l : Launch} {g : jG} (hok : jOk g) (hst : l.stackTraces = false) {z : Option Nat} {sk : jS} {t : jT} (x y : Int32) : jMetX l g mX9_requirePlace 6 1 6 [.int x, .int y] z sk t (fun v2 z2 sk2 t2 => isPl x y = true ∧ v2 = none ∧ z = z2 ∧ sk = sk2 ∧ t = t2) (fun E z2 sk2 t2 => isPl x y = false ∧ E = "java/lang/IllegalArgumentException" ∧ z2 = none ∧ sk2 = sk ∧ t2 = t) := by
  refine j_bodyX (lv := [some (.int x), some (.int y)]) i_X9_requirePlace hok hst (fun p e s m args below meth c X => ?_)
  refine j_iload_n X (i := 0) dX9_requirePlace_0 rfl rfl ?_
  refine j_iload_n X (i := 1) dX9_requirePlace_1 rfl rfl ?_
  refine j_callS X (s_isPlace hok hst x y) i_X9_isPlace tw_3_230 tw_2_68 dX9_requirePlace_2 ?_ 
  cases hq : isPl x y with
  | false =>
    refine j_if_ne X (tgt := 19) dX9_requirePlace_5 (by decide) (fun q9 => absurd (rfl) q9) (fun _ => ?_)
    exact j_throwSW X thr_IA hok.x370 dX9_requirePlace_8 dX9_requirePlace_11 dX9_requirePlace_12 dX9_requirePlace_15 dX9_requirePlace_18 (⟨rfl, rfl, rfl, rfl, rfl⟩)
  | true =>
    refine j_if_ne X (tgt := 19) dX9_requirePlace_5 (by decide) (fun _ => ?_) (fun q9 => absurd q9 (by decide))
    exact j_vret_x X dX9_requirePlace_19 rfl ⟨rfl, rfl, rfl, rfl, rfl⟩

theorem f_inkOf {l : Launch} {g : jG} (hok : jOk g) (hst : l.stackTraces = false) {z : Option Nat} {sk : jS} {t : jT} {kw : Nat → Nat} (hP : isPr g kw sk) {G : GS} (hG : RcG t G) (hK : okG G) (q : Int32) : jMetX l g mX9_inkOf 7 1 6 [.ref (jb g + 0), .int q] z sk t (fP (a_inkOf G q) z sk t) (fX ["java/lang/IndexOutOfBoundsException"] (a_inkOf G q) sk t) := by
  refine j_bodyX (lv := [some (.ref (jb g + 0)), some (.int q)]) i_X9_inkOf hok hst (fun p e s m args below meth c X => ?_)
  obtain ⟨P0, P1, P2, P3, P4, P5, P6, P7, P8⟩ := id hP
  obtain ⟨B0, B1, B2, B3, B4, B5⟩ := id P1
  obtain ⟨r1, r2, r3, r4, r5, r6, r7, r8, r9⟩ := id hG
  obtain ⟨v1, v2_, v3, v4, v5, v6⟩ := id r1
  obtain ⟨k1, k2, k3, k4, k5, k6, k7, k8⟩ := id hK.1
  refine j_aload_n X (i := 0) dX9_inkOf_0 rfl rfl ?_
  refine j_iload_n X (i := 1) dX9_inkOf_1 rfl rfl ?_
  refine j_callVX_p X (f_plateAt hok hst hP hG hK q) i_X9_plateAt tw_3_206 tw_3_208 tp_7 P0 rfl dX9_inkOf_2 (fun v2 z2 sk2 t1 hp => ?_) (fun E z2 sk2 t1 hp => jE_out (d := 0) X (qP_X hG hp.1 ⟨congrArg some hp.2.1.symm, hp.2.2⟩))
  obtain ⟨hqk, k, hkk, rfl, hxk, rfl, rfl, rfl, rfl⟩ := hp
  have bk := B4 k (by omega)
  have ck := v5 k (by omega)
  refine jFd.get X fd_X9_101 bk.1 rfl dX9_inkOf_5 ?_
  rw [ck.1]
  exact j_iret_x X dX9_inkOf_8 rfl rfl (qP_P hqk (by rw [pAt_k hxk]) hG (fun _ _ => rfl))

theorem f_shiftX {l : Launch} {g : jG} (hok : jOk g) (hst : l.stackTraces = false) {z : Option Nat} {sk : jS} {t : jT} {kw : Nat → Nat} (hP : isPr g kw sk) {G : GS} (hG : RcG t G) (hK : okG G) (q : Int32) : jMetX l g mX9_shiftX 7 1 6 [.ref (jb g + 0), .int q] z sk t (fP (a_shiftX G q) z sk t) (fX ["java/lang/IndexOutOfBoundsException"] (a_shiftX G q) sk t) := by
  refine j_bodyX (lv := [some (.ref (jb g + 0)), some (.int q)]) i_X9_shiftX hok hst (fun p e s m args below meth c X => ?_)
  obtain ⟨P0, P1, P2, P3, P4, P5, P6, P7, P8⟩ := id hP
  obtain ⟨B0, B1, B2, B3, B4, B5⟩ := id P1
  obtain ⟨r1, r2, r3, r4, r5, r6, r7, r8, r9⟩ := id hG
  obtain ⟨v1, v2_, v3, v4, v5, v6⟩ := id r1
  obtain ⟨k1, k2, k3, k4, k5, k6, k7, k8⟩ := id hK.1
  refine j_aload_n X (i := 0) dX9_shiftX_0 rfl rfl ?_
  refine j_iload_n X (i := 1) dX9_shiftX_1 rfl rfl ?_
  refine j_callVX_p X (f_plateAt hok hst hP hG hK q) i_X9_plateAt tw_3_206 tw_3_208 tp_7 P0 rfl dX9_shiftX_2 (fun v2 z2 sk2 t1 hp => ?_) (fun E z2 sk2 t1 hp => jE_out (d := 0) X (qP_X hG hp.1 ⟨congrArg some hp.2.1.symm, hp.2.2⟩))
  obtain ⟨hqk, k, hkk, rfl, hxk, rfl, rfl, rfl, rfl⟩ := hp
  have bk := B4 k (by omega)
  have ck := v5 k (by omega)
  refine jFd.get X fd_X9_118 bk.1 rfl dX9_shiftX_5 ?_
  rw [ck.2.1]
  exact j_iret_x X dX9_shiftX_8 rfl rfl (qP_P hqk (by rw [pAt_k hxk]) hG (fun _ _ => rfl))

theorem f_shiftY {l : Launch} {g : jG} (hok : jOk g) (hst : l.stackTraces = false) {z : Option Nat} {sk : jS} {t : jT} {kw : Nat → Nat} (hP : isPr g kw sk) {G : GS} (hG : RcG t G) (hK : okG G) (q : Int32) : jMetX l g mX9_shiftY 7 1 6 [.ref (jb g + 0), .int q] z sk t (fP (a_shiftY G q) z sk t) (fX ["java/lang/IndexOutOfBoundsException"] (a_shiftY G q) sk t) := by
  refine j_bodyX (lv := [some (.ref (jb g + 0)), some (.int q)]) i_X9_shiftY hok hst (fun p e s m args below meth c X => ?_)
  obtain ⟨P0, P1, P2, P3, P4, P5, P6, P7, P8⟩ := id hP
  obtain ⟨B0, B1, B2, B3, B4, B5⟩ := id P1
  obtain ⟨r1, r2, r3, r4, r5, r6, r7, r8, r9⟩ := id hG
  obtain ⟨v1, v2_, v3, v4, v5, v6⟩ := id r1
  obtain ⟨k1, k2, k3, k4, k5, k6, k7, k8⟩ := id hK.1
  refine j_aload_n X (i := 0) dX9_shiftY_0 rfl rfl ?_
  refine j_iload_n X (i := 1) dX9_shiftY_1 rfl rfl ?_
  refine j_callVX_p X (f_plateAt hok hst hP hG hK q) i_X9_plateAt tw_3_206 tw_3_208 tp_7 P0 rfl dX9_shiftY_2 (fun v2 z2 sk2 t1 hp => ?_) (fun E z2 sk2 t1 hp => jE_out (d := 0) X (qP_X hG hp.1 ⟨congrArg some hp.2.1.symm, hp.2.2⟩))
  obtain ⟨hqk, k, hkk, rfl, hxk, rfl, rfl, rfl, rfl⟩ := hp
  have bk := B4 k (by omega)
  have ck := v5 k (by omega)
  refine jFd.get X fd_X9_121 bk.1 rfl dX9_shiftY_5 ?_
  rw [ck.2.2.1]
  exact j_iret_x X dX9_shiftY_8 rfl rfl (qP_P hqk (by rw [pAt_k hxk]) hG (fun _ _ => rfl))

theorem f_starCount {l : Launch} {g : jG} (hok : jOk g) (hst : l.stackTraces = false) {z : Option Nat} {sk : jS} {t : jT} {kw : Nat → Nat} (hP : isPr g kw sk) {G : GS} (hG : RcG t G) (hK : okG G) (q : Int32) : jMetX l g mX9_starCount 7 1 6 [.ref (jb g + 0), .int q] z sk t (fP (a_starCount G q) z sk t) (fX ["java/lang/IndexOutOfBoundsException"] (a_starCount G q) sk t) := by
  refine j_bodyX (lv := [some (.ref (jb g + 0)), some (.int q)]) i_X9_starCount hok hst (fun p e s m args below meth c X => ?_)
  obtain ⟨P0, P1, P2, P3, P4, P5, P6, P7, P8⟩ := id hP
  obtain ⟨B0, B1, B2, B3, B4, B5⟩ := id P1
  obtain ⟨r1, r2, r3, r4, r5, r6, r7, r8, r9⟩ := id hG
  obtain ⟨v1, v2_, v3, v4, v5, v6⟩ := id r1
  obtain ⟨k1, k2, k3, k4, k5, k6, k7, k8⟩ := id hK.1
  refine j_aload_n X (i := 0) dX9_starCount_0 rfl rfl ?_
  refine j_iload_n X (i := 1) dX9_starCount_1 rfl rfl ?_
  refine j_callVX_p X (f_plateAt hok hst hP hG hK q) i_X9_plateAt tw_3_206 tw_3_208 tp_7 P0 rfl dX9_starCount_2 (fun v2 z2 sk2 t1 hp => ?_) (fun E z2 sk2 t1 hp => jE_out (d := 0) X (qP_X hG hp.1 ⟨congrArg some hp.2.1.symm, hp.2.2⟩))
  obtain ⟨hqk, k, hkk, rfl, hxk, rfl, rfl, rfl, rfl⟩ := hp
  have bk := B4 k (by omega)
  have ck := v5 k (by omega)
  refine j_callV X (s_countStars hok hst bk.1 bk.2 ck.2.2.2) i_X5_countStars tw_3_219 tw_3_151 tw_3_152 bk.1 rfl dX9_starCount_5 ?_ 
  exact j_iret_x X dX9_starCount_8 rfl rfl (qP_P hqk (by rw [pAt_k hxk]) hG (fun _ _ => rfl))

theorem f_hasStar {l : Launch} {g : jG} (hok : jOk g) (hst : l.stackTraces = false) {z : Option Nat} {sk : jS} {t : jT} {kw : Nat → Nat} (hP : isPr g kw sk) {G : GS} (hG : RcG t G) (hK : okG G) (q x y : Int32) : jMetX l g mX9_hasStar 7 2 12 [.ref (jb g + 0), .int q, .int x, .int y] z sk t (fP (a_hasStar G q x y) z sk t) (fX ["java/lang/IndexOutOfBoundsException", "java/lang/IllegalArgumentException"] (a_hasStar G q x y) sk t) := by
  refine j_bodyX (lv := [some (.ref (jb g + 0)), some (.int q), some (.int x), some (.int y), none]) i_X9_hasStar hok hst (fun p e s m args below meth c X => ?_)
  obtain ⟨P0, P1, P2, P3, P4, P5, P6, P7, P8⟩ := id hP
  obtain ⟨B0, B1, B2, B3, B4, B5⟩ := id P1
  obtain ⟨r1, r2, r3, r4, r5, r6, r7, r8, r9⟩ := id hG
  obtain ⟨v1, v2_, v3, v4, v5, v6⟩ := id r1
  obtain ⟨k1, k2, k3, k4, k5, k6, k7, k8⟩ := id hK.1
  refine j_aload_n X (i := 0) dX9_hasStar_0 rfl rfl ?_
  refine j_iload_n X (i := 1) dX9_hasStar_1 rfl rfl ?_
  refine j_callVX_p X (f_plateAt hok hst hP hG hK q) i_X9_plateAt tw_3_206 tw_3_208 tp_7 P0 rfl dX9_hasStar_2 (fun v2 z2 sk2 t1 hp => ?_) (fun E z2 sk2 t1 hp => jE_out (d := 0) X (qPP_X1 hG hp.1 ⟨congrArg some hp.2.1.symm, hp.2.2⟩))
  obtain ⟨hqk, k, hkk, rfl, hxk, rfl, rfl, rfl, rfl⟩ := hp
  have bk := B4 k (by omega)
  have ck := v5 k (by omega)
  refine j_astore X (i := 4) dX9_hasStar_5 (by decide) rfl ?_
  refine j_iload_n X (i := 2) dX9_hasStar_7 rfl rfl ?_
  refine j_iload_n X (i := 3) dX9_hasStar_8 rfl rfl ?_
  refine j_callSX_p X (f_requirePlace hok hst x y) i_X9_requirePlace tw_3_227 tw_3_228 dX9_hasStar_9 (fun v2 z2 sk2 t2 hp => ?_) (fun E z2 sk2 t2 hp => jE_out (d := 0) X (qPP_X2 hG hqk hp.1 ⟨congrArg some hp.2.1.symm, hp.2.2⟩))
  obtain ⟨hxy, rfl, rfl, rfl, rfl⟩ := hp
  obtain ⟨xa, ya, hxa, hya, rfl, rfl, exa, eya⟩ := isPl_of hxy
  refine j_aload X (i := 4) dX9_hasStar_12 rfl ?_
  refine j_iload_n X (i := 2) dX9_hasStar_14 rfl rfl ?_
  refine j_iload_n X (i := 3) dX9_hasStar_15 rfl rfl ?_
  refine j_callV X (s_isStarAt hok hst bk.1 bk.2 ck.2.2.2 hxa hya) i_X5_isStarAt tw_3_232 tw_2_98 tw_2_99 bk.1 rfl dX9_hasStar_16 ?_ 
  exact j_iret_x X dX9_hasStar_19 rfl (nbB _) (qPP_P hqk hxy (by unfold cAt; rw [pAt_k hxk, exa, eya]) hG (fun _ _ => rfl))

theorem f_matches {l : Launch} {g : jG} (hok : jOk g) (hst : l.stackTraces = false) {z : Option Nat} {sk : jS} {t : jT} {kw : Nat → Nat} (hP : isPr g kw sk) {G : GS} (hG : RcG t G) (hK : okG G) (q o x y : Int32) : jMetX l g mX9_matches 7 3 18 [.ref (jb g + 0), .int q, .int o, .int x, .int y] z sk t (fP (a_matches G q o x y) z sk t) (fX ["java/lang/IndexOutOfBoundsException", "java/lang/IllegalArgumentException"] (a_matches G q o x y) sk t) := by
  refine j_bodyX (lv := [some (.ref (jb g + 0)), some (.int q), some (.int o), some (.int x), some (.int y), none, none]) i_X9_matches hok hst (fun p e s m args below meth c X => ?_)
  obtain ⟨P0, P1, P2, P3, P4, P5, P6, P7, P8⟩ := id hP
  obtain ⟨B0, B1, B2, B3, B4, B5⟩ := id P1
  obtain ⟨r1, r2, r3, r4, r5, r6, r7, r8, r9⟩ := id hG
  obtain ⟨v1, v2_, v3, v4, v5, v6⟩ := id r1
  obtain ⟨k1, k2, k3, k4, k5, k6, k7, k8⟩ := id hK.1
  refine j_aload_n X (i := 0) dX9_matches_0 rfl rfl ?_
  refine j_iload_n X (i := 1) dX9_matches_1 rfl rfl ?_
  refine j_callVX_p X (f_plateAt hok hst hP hG hK q) i_X9_plateAt tw_3_206 tw_3_208 tp_7 P0 rfl dX9_matches_2 (fun v2 z2 sk2 t1 hp => ?_) (fun E z2 sk2 t1 hp => jE_out (d := 0) X (qPP_X1 hG (by rw [hp.1]; rfl) ⟨congrArg some hp.2.1.symm, hp.2.2⟩))
  obtain ⟨hqk, k, hkk, rfl, hxk, rfl, rfl, rfl, rfl⟩ := hp
  have bk := B4 k (by omega)
  have ck := v5 k (by omega)
  refine j_astore X (i := 5) dX9_matches_5 (by decide) rfl ?_
  refine j_aload_n X (i := 0) dX9_matches_7 rfl rfl ?_
  refine j_iload_n X (i := 2) dX9_matches_8 rfl rfl ?_
  refine j_callVX_p X (f_plateAt hok hst hP hG hK o) i_X9_plateAt tw_3_206 tw_3_208 tp_7 P0 rfl dX9_matches_9 (fun v2 z2 sk2 t1 hp => ?_) (fun E z2 sk2 t1 hp => jE_out (d := 0) X (qPP_X1 hG (by rw [show isPg G o = false from hp.1, Bool.and_false]) ⟨congrArg some hp.2.1.symm, hp.2.2⟩))
  obtain ⟨hqj, j, hkj, rfl, hxj, rfl, rfl, rfl, rfl⟩ := hp
  have bj := B4 j (by omega)
  have cj := v5 j (by omega)
  refine j_astore X (i := 6) dX9_matches_12 (by decide) rfl ?_
  refine j_iload_n X (i := 3) dX9_matches_14 rfl rfl ?_
  refine j_iload X (i := 4) dX9_matches_15 rfl ?_
  refine j_callS X (s_isShift hok hst x y) i_X9_isShift tw_4_14 tw_2_106 dX9_matches_17 ?_ 
  have hqo : (isPg G (nI k) && isPg G (nI j)) = true := by rw [hqk, hqj]; rfl
  cases hs : isSh x y with
  | false =>
    refine j_if_ne X (tgt := 33) dX9_matches_20 (by decide) (fun q9 => absurd (rfl) q9) (fun _ => ?_)
    exact j_throwS X thr_IA hok.x129 dX9_matches_23 dX9_matches_26 dX9_matches_27 dX9_matches_29 dX9_matches_32 (qPP_X2 hG hqo hs ⟨rfl, rfl, rfl, rfl⟩)
  | true =>
    obtain ⟨d1, d2, d3, d4⟩ : -3 ≤ x.toInt ∧ x.toInt ≤ 3 ∧ -3 ≤ y.toInt ∧ y.toInt ≤ 3 := of_decide_eq_true hs
    refine j_if_ne X (tgt := 33) dX9_matches_20 (by decide) (fun _ => ?_) (fun q9 => absurd q9 (by decide))
    refine j_aload X (i := 5) dX9_matches_33 rfl ?_
    refine j_aload X (i := 6) dX9_matches_35 rfl ?_
    refine j_iload_n X (i := 3) dX9_matches_37 rfl rfl ?_
    refine j_iload X (i := 4) dX9_matches_38 rfl ?_
    have hM := s_countMatches (z := z) hok hst bk.1 bk.2 ck.2.2.2 bj.1 bj.2 cj.2.2.2 d1 d2 d3 d4
    rw [iN_toInt_self, iN_toInt_self] at hM
    refine j_callV X (hM) i_X5_countMatches tw_4_16 tw_2_64 tw_2_65 bk.1 rfl dX9_matches_40 ?_ 
    exact j_iret_x X dX9_matches_43 rfl rfl (qPP_P hqo hs (by rw [pAt_k hxk, pAt_k hxj]) hG (fun _ _ => rfl))

theorem f_mostMatches {l : Launch} {g : jG} (hok : jOk g) (hst : l.stackTraces = false) {z : Option Nat} {sk : jS} {t : jT} {kw : Nat → Nat} (hP : isPr g kw sk) {G : GS} (hG : RcG t G) (hK : okG G) (q o : Int32) : jMetX l g mX9_mostMatches 7 2 12 [.ref (jb g + 0), .int q, .int o] z sk t (fP (a_most G q o) z sk t) (fX ["java/lang/IndexOutOfBoundsException"] (a_most G q o) sk t) := by
  refine j_bodyX (lv := [some (.ref (jb g + 0)), some (.int q), some (.int o)]) i_X9_mostMatches hok hst (fun p e s m args below meth c X => ?_)
  obtain ⟨P0, P1, P2, P3, P4, P5, P6, P7, P8⟩ := id hP
  obtain ⟨B0, B1, B2, B3, B4, B5⟩ := id P1
  obtain ⟨r1, r2, r3, r4, r5, r6, r7, r8, r9⟩ := id hG
  obtain ⟨v1, v2_, v3, v4, v5, v6⟩ := id r1
  obtain ⟨k1, k2, k3, k4, k5, k6, k7, k8⟩ := id hK.1
  refine j_aload_n X (i := 0) dX9_mostMatches_0 rfl rfl ?_
  refine jFd.get X fd_X9_29 P0 rfl dX9_mostMatches_1 ?_
  refine j_aload_n X (i := 0) dX9_mostMatches_4 rfl rfl ?_
  refine j_iload_n X (i := 1) dX9_mostMatches_5 rfl rfl ?_
  refine j_callVX_p X (f_plateAt hok hst hP hG hK q) i_X9_plateAt tw_3_206 tw_3_208 tp_7 P0 rfl dX9_mostMatches_6 (fun v2 z2 sk2 t1 hp => ?_) (fun E z2 sk2 t1 hp => jE_out (d := 0) X (qP_X hG (by rw [hp.1]; rfl) ⟨congrArg some hp.2.1.symm, hp.2.2⟩))
  obtain ⟨hqk, k, hkk, rfl, hxk, rfl, rfl, rfl, rfl⟩ := hp
  have bk := B4 k (by omega)
  have ck := v5 k (by omega)
  refine j_aload_n X (i := 0) dX9_mostMatches_9 rfl rfl ?_
  refine j_iload_n X (i := 2) dX9_mostMatches_10 rfl rfl ?_
  refine j_callVX_p X (f_plateAt hok hst hP hG hK o) i_X9_plateAt tw_3_206 tw_3_208 tp_7 P0 rfl dX9_mostMatches_11 (fun v2 z2 sk2 t1 hp => ?_) (fun E z2 sk2 t1 hp => jE_out (d := 0) X (qP_X hG (by rw [show isPg G o = false from hp.1, Bool.and_false]) ⟨congrArg some hp.2.1.symm, hp.2.2⟩))
  obtain ⟨hqj, j, hkj, rfl, hxj, rfl, rfl, rfl, rfl⟩ := hp
  have bj := B4 j (by omega)
  have cj := v5 j (by omega)
  have hqo : (isPg G (nI k) && isPg G (nI j)) = true := by rw [hqk, hqj]; rfl
  obtain ⟨fx, fy, f6, f7, fa, fb, fc, fd⟩ := id r4
  refine j_callV X (s_tryAll hok hst bk.1 bk.2 ck.2.2.2 bj.1 bj.2 cj.2.2.2 P4.1 (by omega) (by omega) f6 f7 fa fb fc fd) i_X1_tryAllShifts tw_2_59 tw_2_60 tw_2_61 P4.1 rfl dX9_mostMatches_14 ?_ 
  refine j_aload_n X (i := 0) dX9_mostMatches_17 rfl rfl ?_
  refine jFd.get X fd_X9_29 P0 rfl dX9_mostMatches_18 ?_
  refine jFd.get X fd_X9_142 P4.1 rfl dX9_mostMatches_21 ?_
  rw [fit3_f]
  exact j_iret_x X dX9_mostMatches_24 rfl rfl (qP_P hqo (by unfold bstV; rw [pAt_k hxk, pAt_k hxj]; rfl) (hG.fit _ _) (fun c hc => fit3_ne _ _ (by omega)))

theorem f_bestShiftX {l : Launch} {g : jG} (hok : jOk g) (hst : l.stackTraces = false) {z : Option Nat} {sk : jS} {t : jT} {kw : Nat → Nat} (hP : isPr g kw sk) {G : GS} (hG : RcG t G) (hK : okG G) (q o : Int32) : jMetX l g mX9_bestShiftX 7 2 12 [.ref (jb g + 0), .int q, .int o] z sk t (fP (a_bestX G q o) z sk t) (fX ["java/lang/IndexOutOfBoundsException"] (a_bestX G q o) sk t) := by
  refine j_bodyX (lv := [some (.ref (jb g + 0)), some (.int q), some (.int o)]) i_X9_bestShiftX hok hst (fun p e s m args below meth c X => ?_)
  obtain ⟨P0, P1, P2, P3, P4, P5, P6, P7, P8⟩ := id hP
  obtain ⟨B0, B1, B2, B3, B4, B5⟩ := id P1
  obtain ⟨r1, r2, r3, r4, r5, r6, r7, r8, r9⟩ := id hG
  obtain ⟨v1, v2_, v3, v4, v5, v6⟩ := id r1
  obtain ⟨k1, k2, k3, k4, k5, k6, k7, k8⟩ := id hK.1
  refine j_aload_n X (i := 0) dX9_bestShiftX_0 rfl rfl ?_
  refine jFd.get X fd_X9_29 P0 rfl dX9_bestShiftX_1 ?_
  refine j_aload_n X (i := 0) dX9_bestShiftX_4 rfl rfl ?_
  refine j_iload_n X (i := 1) dX9_bestShiftX_5 rfl rfl ?_
  refine j_callVX_p X (f_plateAt hok hst hP hG hK q) i_X9_plateAt tw_3_206 tw_3_208 tp_7 P0 rfl dX9_bestShiftX_6 (fun v2 z2 sk2 t1 hp => ?_) (fun E z2 sk2 t1 hp => jE_out (d := 0) X (qP_X hG (by rw [hp.1]; rfl) ⟨congrArg some hp.2.1.symm, hp.2.2⟩))
  obtain ⟨hqk, k, hkk, rfl, hxk, rfl, rfl, rfl, rfl⟩ := hp
  have bk := B4 k (by omega)
  have ck := v5 k (by omega)
  refine j_aload_n X (i := 0) dX9_bestShiftX_9 rfl rfl ?_
  refine j_iload_n X (i := 2) dX9_bestShiftX_10 rfl rfl ?_
  refine j_callVX_p X (f_plateAt hok hst hP hG hK o) i_X9_plateAt tw_3_206 tw_3_208 tp_7 P0 rfl dX9_bestShiftX_11 (fun v2 z2 sk2 t1 hp => ?_) (fun E z2 sk2 t1 hp => jE_out (d := 0) X (qP_X hG (by rw [show isPg G o = false from hp.1, Bool.and_false]) ⟨congrArg some hp.2.1.symm, hp.2.2⟩))
  obtain ⟨hqj, j, hkj, rfl, hxj, rfl, rfl, rfl, rfl⟩ := hp
  have bj := B4 j (by omega)
  have cj := v5 j (by omega)
  have hqo : (isPg G (nI k) && isPg G (nI j)) = true := by rw [hqk, hqj]; rfl
  obtain ⟨fx, fy, f6, f7, fa, fb, fc, fd⟩ := id r4
  refine j_callV X (s_tryAll hok hst bk.1 bk.2 ck.2.2.2 bj.1 bj.2 cj.2.2.2 P4.1 (by omega) (by omega) f6 f7 fa fb fc fd) i_X1_tryAllShifts tw_2_59 tw_2_60 tw_2_61 P4.1 rfl dX9_bestShiftX_14 ?_ 
  refine j_aload_n X (i := 0) dX9_bestShiftX_17 rfl rfl ?_
  refine jFd.get X fd_X9_29 P0 rfl dX9_bestShiftX_18 ?_
  refine jFd.get X fd_X9_149 P4.1 rfl dX9_bestShiftX_21 ?_
  rw [fit3_f]
  exact j_iret_x X dX9_bestShiftX_24 rfl rfl (qP_P hqo (by unfold bstV; rw [pAt_k hxk, pAt_k hxj]; rfl) (hG.fit _ _) (fun c hc => fit3_ne _ _ (by omega)))

theorem f_bestShiftY {l : Launch} {g : jG} (hok : jOk g) (hst : l.stackTraces = false) {z : Option Nat} {sk : jS} {t : jT} {kw : Nat → Nat} (hP : isPr g kw sk) {G : GS} (hG : RcG t G) (hK : okG G) (q o : Int32) : jMetX l g mX9_bestShiftY 7 2 12 [.ref (jb g + 0), .int q, .int o] z sk t (fP (a_bestY G q o) z sk t) (fX ["java/lang/IndexOutOfBoundsException"] (a_bestY G q o) sk t) := by
  refine j_bodyX (lv := [some (.ref (jb g + 0)), some (.int q), some (.int o)]) i_X9_bestShiftY hok hst (fun p e s m args below meth c X => ?_)
  obtain ⟨P0, P1, P2, P3, P4, P5, P6, P7, P8⟩ := id hP
  obtain ⟨B0, B1, B2, B3, B4, B5⟩ := id P1
  obtain ⟨r1, r2, r3, r4, r5, r6, r7, r8, r9⟩ := id hG
  obtain ⟨v1, v2_, v3, v4, v5, v6⟩ := id r1
  obtain ⟨k1, k2, k3, k4, k5, k6, k7, k8⟩ := id hK.1
  refine j_aload_n X (i := 0) dX9_bestShiftY_0 rfl rfl ?_
  refine jFd.get X fd_X9_29 P0 rfl dX9_bestShiftY_1 ?_
  refine j_aload_n X (i := 0) dX9_bestShiftY_4 rfl rfl ?_
  refine j_iload_n X (i := 1) dX9_bestShiftY_5 rfl rfl ?_
  refine j_callVX_p X (f_plateAt hok hst hP hG hK q) i_X9_plateAt tw_3_206 tw_3_208 tp_7 P0 rfl dX9_bestShiftY_6 (fun v2 z2 sk2 t1 hp => ?_) (fun E z2 sk2 t1 hp => jE_out (d := 0) X (qP_X hG (by rw [hp.1]; rfl) ⟨congrArg some hp.2.1.symm, hp.2.2⟩))
  obtain ⟨hqk, k, hkk, rfl, hxk, rfl, rfl, rfl, rfl⟩ := hp
  have bk := B4 k (by omega)
  have ck := v5 k (by omega)
  refine j_aload_n X (i := 0) dX9_bestShiftY_9 rfl rfl ?_
  refine j_iload_n X (i := 2) dX9_bestShiftY_10 rfl rfl ?_
  refine j_callVX_p X (f_plateAt hok hst hP hG hK o) i_X9_plateAt tw_3_206 tw_3_208 tp_7 P0 rfl dX9_bestShiftY_11 (fun v2 z2 sk2 t1 hp => ?_) (fun E z2 sk2 t1 hp => jE_out (d := 0) X (qP_X hG (by rw [show isPg G o = false from hp.1, Bool.and_false]) ⟨congrArg some hp.2.1.symm, hp.2.2⟩))
  obtain ⟨hqj, j, hkj, rfl, hxj, rfl, rfl, rfl, rfl⟩ := hp
  have bj := B4 j (by omega)
  have cj := v5 j (by omega)
  have hqo : (isPg G (nI k) && isPg G (nI j)) = true := by rw [hqk, hqj]; rfl
  obtain ⟨fx, fy, f6, f7, fa, fb, fc, fd⟩ := id r4
  refine j_callV X (s_tryAll hok hst bk.1 bk.2 ck.2.2.2 bj.1 bj.2 cj.2.2.2 P4.1 (by omega) (by omega) f6 f7 fa fb fc fd) i_X1_tryAllShifts tw_2_59 tw_2_60 tw_2_61 P4.1 rfl dX9_bestShiftY_14 ?_ 
  refine j_aload_n X (i := 0) dX9_bestShiftY_17 rfl rfl ?_
  refine jFd.get X fd_X9_29 P0 rfl dX9_bestShiftY_18 ?_
  refine jFd.get X fd_X9_152 P4.1 rfl dX9_bestShiftY_21 ?_
  rw [fit3_f]
  exact j_iret_x X dX9_bestShiftY_24 rfl rfl (qP_P hqo (by unfold bstV; rw [pAt_k hxk, pAt_k hxj]; rfl) (hG.fit _ _) (fun c hc => fit3_ne _ _ (by omega)))

theorem f_mostMatchesByPairs {l : Launch} {g : jG} (hok : jOk g) (hst : l.stackTraces = false) {z : Option Nat} {sk : jS} {t : jT} {kw : Nat → Nat} (hP : isPr g kw sk) {G : GS} (hG : RcG t G) (hK : okG G) (q o : Int32) : jMetX l g mX9_mostMatchesByPairs 7 2 12 [.ref (jb g + 0), .int q, .int o] z sk t (fP (a_most G q o) z sk t) (fX ["java/lang/IndexOutOfBoundsException"] (a_most G q o) sk t) := by
  refine j_bodyX (lv := [some (.ref (jb g + 0)), some (.int q), some (.int o)]) i_X9_mostMatchesByPairs hok hst (fun p e s m args below meth c X => ?_)
  obtain ⟨P0, P1, P2, P3, P4, P5, P6, P7, P8⟩ := id hP
  obtain ⟨B0, B1, B2, B3, B4, B5⟩ := id P1
  obtain ⟨r1, r2, r3, r4, r5, r6, r7, r8, r9⟩ := id hG
  obtain ⟨v1, v2_, v3, v4, v5, v6⟩ := id r1
  obtain ⟨k1, k2, k3, k4, k5, k6, k7, k8⟩ := id hK.1
  refine j_aload_n X (i := 0) dX9_mostMatchesByPairs_0 rfl rfl ?_
  refine jFd.get X fd_X9_29 P0 rfl dX9_mostMatchesByPairs_1 ?_
  refine j_aload_n X (i := 0) dX9_mostMatchesByPairs_4 rfl rfl ?_
  refine j_iload_n X (i := 1) dX9_mostMatchesByPairs_5 rfl rfl ?_
  refine j_callVX_p X (f_plateAt hok hst hP hG hK q) i_X9_plateAt tw_3_206 tw_3_208 tp_7 P0 rfl dX9_mostMatchesByPairs_6 (fun v2 z2 sk2 t1 hp => ?_) (fun E z2 sk2 t1 hp => jE_out (d := 0) X (qP_X hG (by rw [hp.1]; rfl) ⟨congrArg some hp.2.1.symm, hp.2.2⟩))
  obtain ⟨hqk, k, hkk, rfl, hxk, rfl, rfl, rfl, rfl⟩ := hp
  have bk := B4 k (by omega)
  have ck := v5 k (by omega)
  refine j_aload_n X (i := 0) dX9_mostMatchesByPairs_9 rfl rfl ?_
  refine j_iload_n X (i := 2) dX9_mostMatchesByPairs_10 rfl rfl ?_
  refine j_callVX_p X (f_plateAt hok hst hP hG hK o) i_X9_plateAt tw_3_206 tw_3_208 tp_7 P0 rfl dX9_mostMatchesByPairs_11 (fun v2 z2 sk2 t1 hp => ?_) (fun E z2 sk2 t1 hp => jE_out (d := 0) X (qP_X hG (by rw [show isPg G o = false from hp.1, Bool.and_false]) ⟨congrArg some hp.2.1.symm, hp.2.2⟩))
  obtain ⟨hqj, j, hkj, rfl, hxj, rfl, rfl, rfl, rfl⟩ := hp
  have bj := B4 j (by omega)
  have cj := v5 j (by omega)
  have hqo : (isPg G (nI k) && isPg G (nI j)) = true := by rw [hqk, hqj]; rfl
  refine j_callV_p X (s_countPairs hok hst bk.1 bk.2 ck.2.2.2 bj.1 bj.2 cj.2.2.2 P4.1 P4.2.1 P4.2.2.1 P4.2.2.2.1 P4.2.2.2.2.1 P4.2.2.2.2.2 (by omega) (by omega) (k3 k (by omega)).2.2.2.2.2 (k3 j (by omega)).2.2.2.2.2) i_X1_countPairs tw_2_88 tw_2_89 tw_2_90 P4.1 rfl dX9_mostMatchesByPairs_14 (fun v2 z2 sk2 t2 hp => ?_) 
  obtain ⟨rfl, rfl, rfl, g1⟩ := hp
  exact j_iret_x X dX9_mostMatchesByPairs_17 rfl rfl (qP_P hqo (by unfold bstV; rw [pAt_k hxk, pAt_k hxj]) (hG.out fun c hc => g1 c (by omega)) (fun c hc => g1 c (by omega)))

theorem f_plateCount {l : Launch} {g : jG} (hok : jOk g) (hst : l.stackTraces = false) {z : Option Nat} {sk : jS} {t : jT} {kw : Nat → Nat} (hP : isPr g kw sk) {G : GS} (hG : RcG t G) (hK : okG G) : jMet l g mX9_plateCount 1 0 0 [.ref (jb g + 0)] z sk t (fP (a_plateCount G) z sk t) := by
  refine j_body (lv := [some (.ref (jb g + 0))]) i_X9_plateCount hok hst (fun p e s m args below meth c X => ?_)
  obtain ⟨P0, P1, P2, P3, P4, P5, P6, P7, P8⟩ := id hP
  obtain ⟨B0, B1, B2, B3, B4, B5⟩ := id P1
  obtain ⟨r1, r2, r3, r4, r5, r6, r7, r8, r9⟩ := id hG
  obtain ⟨v1, v2_, v3, v4, v5, v6⟩ := id r1
  obtain ⟨k1, k2, k3, k4, k5, k6, k7, k8⟩ := id hK.1
  refine j_aload_n X (i := 0) dX9_plateCount_0 rfl rfl ?_
  refine jFd.get X fd_X9_12 P0 rfl dX9_plateCount_1 ?_
  refine jFd.get X fd_X9_94 B0 rfl dX9_plateCount_4 ?_
  rw [v1]
  exact j_iret X dX9_plateCount_7 rfl rfl (fP_mk rfl hG (fun _ _ => rfl))

theorem f_sheetCount {l : Launch} {g : jG} (hok : jOk g) (hst : l.stackTraces = false) {z : Option Nat} {sk : jS} {t : jT} {kw : Nat → Nat} (hP : isPr g kw sk) {G : GS} (hG : RcG t G) (hK : okG G) : jMet l g mX9_sheetCount 1 0 0 [.ref (jb g + 0)] z sk t (fP (a_sheetCount G) z sk t) := by
  refine j_body (lv := [some (.ref (jb g + 0))]) i_X9_sheetCount hok hst (fun p e s m args below meth c X => ?_)
  obtain ⟨P0, P1, P2, P3, P4, P5, P6, P7, P8⟩ := id hP
  obtain ⟨B0, B1, B2, B3, B4, B5⟩ := id P1
  obtain ⟨r1, r2, r3, r4, r5, r6, r7, r8, r9⟩ := id hG
  obtain ⟨v1, v2_, v3, v4, v5, v6⟩ := id r1
  obtain ⟨k1, k2, k3, k4, k5, k6, k7, k8⟩ := id hK.1
  refine j_aload_n X (i := 0) dX9_sheetCount_0 rfl rfl ?_
  refine jFd.get X fd_X9_12 P0 rfl dX9_sheetCount_1 ?_
  refine jFd.get X fd_X9_172 B0 rfl dX9_sheetCount_4 ?_
  rw [v2_]
  exact j_iret X dX9_sheetCount_7 rfl rfl (fP_mk rfl hG (fun _ _ => rfl))

theorem f_hour {l : Launch} {g : jG} (hok : jOk g) (hst : l.stackTraces = false) {z : Option Nat} {sk : jS} {t : jT} {kw : Nat → Nat} (hP : isPr g kw sk) {G : GS} (hG : RcG t G) (hK : okG G) : jMet l g mX9_hour 1 0 0 [.ref (jb g + 0)] z sk t (fP (a_hour G) z sk t) := by
  refine j_body (lv := [some (.ref (jb g + 0))]) i_X9_hour hok hst (fun p e s m args below meth c X => ?_)
  obtain ⟨P0, P1, P2, P3, P4, P5, P6, P7, P8⟩ := id hP
  obtain ⟨B0, B1, B2, B3, B4, B5⟩ := id P1
  obtain ⟨r1, r2, r3, r4, r5, r6, r7, r8, r9⟩ := id hG
  obtain ⟨v1, v2_, v3, v4, v5, v6⟩ := id r1
  obtain ⟨k1, k2, k3, k4, k5, k6, k7, k8⟩ := id hK.1
  refine j_aload_n X (i := 0) dX9_hour_0 rfl rfl ?_
  refine jFd.get X fd_X9_12 P0 rfl dX9_hour_1 ?_
  refine jFd.get X fd_X9_254 B0 rfl dX9_hour_4 ?_
  rw [v3]
  exact j_iret X dX9_hour_7 rfl rfl (fP_mk rfl hG (fun _ _ => rfl))

