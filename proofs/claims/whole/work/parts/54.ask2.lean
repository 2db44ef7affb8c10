theorem f_wouldSmear {l : Launch} {g : jG} (hok : jOk g) (hst : l.stackTraces = false) {z : Option Nat} {sk : jS} {t : jT} {kw : Nat → Nat} (hP : isPr g kw sk) {G : GS} (hG : RcG t G) (hK : okG G) (o : Int32) : jMetX l g mX9_wouldSmear 7 1 6 [.ref (jb g + 0), .int o] z sk t (fP (a_wouldSmear G o) z sk t) (fX ["java/lang/IndexOutOfBoundsException"] (a_wouldSmear G o) sk t) := by
  refine j_bodyX (lv := [some (.ref (jb g + 0)), some (.int o)]) i_X9_wouldSmear hok hst (fun p e s m args below meth c X => ?_)
  obtain ⟨P0, P1, P2, P3, P4, P5, P6, P7, P8⟩ := id hP
  obtain ⟨B0, B1, B2, B3, B4, B5⟩ := id P1
  obtain ⟨r1, r2, r3, r4, r5, r6, r7, r8, r9⟩ := id hG
  obtain ⟨v1, v2_, v3, v4, v5, v6⟩ := id r1
  obtain ⟨k1, k2, k3, k4, k5, k6, k7, k8⟩ := id hK.1
  refine j_aload_n X (i := 0) dX9_wouldSmear_0 rfl rfl ?_
  refine j_iload_n X (i := 1) dX9_wouldSmear_1 rfl rfl ?_
  refine j_callVX_p X (f_sheetAt hok hst hP hG hK o) i_X9_sheetAt tw_4_100 tw_4_102 tp_9 P0 rfl dX9_wouldSmear_2 (fun v2 z2 sk2 t1 hp => ?_) (fun E z2 sk2 t1 hp => jE_out (d := 0) X (qP_X hG hp.1 ⟨congrArg some hp.2.1.symm, hp.2.2⟩))
  obtain ⟨hqk, k, hkk, rfl, hxk, rfl, rfl, rfl, rfl⟩ := hp
  have bk := B5 k (by omega)
  have ck := v6 k (by omega)
  refine j_callV X (s_isWet hok hst bk.1 ck.1 (Nat.lt_of_le_of_lt (k4 k (by omega)).1 (by decide))) i_X7_isWet tw_4_106 tw_2_152 tw_2_153 bk.1 rfl dX9_wouldSmear_5 ?_ 
  exact j_iret_x X dX9_wouldSmear_8 rfl (nbB _) (qP_P hqk (by rw [sAt_k hxk]) hG (fun _ _ => rfl))

theorem f_colour {l : Launch} {g : jG} (hok : jOk g) (hst : l.stackTraces = false) {z : Option Nat} {sk : jS} {t : jT} {kw : Nat → Nat} (hP : isPr g kw sk) {G : GS} (hG : RcG t G) (hK : okG G) (o x y : Int32) : jMetX l g mX9_colour 7 2 12 [.ref (jb g + 0), .int o, .int x, .int y] z sk t (fP (a_colour G o x y) z sk t) (fX ["java/lang/IndexOutOfBoundsException", "java/lang/IllegalArgumentException"] (a_colour G o x y) sk t) := by
  refine j_bodyX (lv := [some (.ref (jb g + 0)), some (.int o), some (.int x), some (.int y), none]) i_X9_colour hok hst (fun p e s m args below meth c X => ?_)
  obtain ⟨P0, P1, P2, P3, P4, P5, P6, P7, P8⟩ := id hP
  obtain ⟨B0, B1, B2, B3, B4, B5⟩ := id P1
  obtain ⟨r1, r2, r3, r4, r5, r6, r7, r8, r9⟩ := id hG
  obtain ⟨v1, v2_, v3, v4, v5, v6⟩ := id r1
  obtain ⟨k1, k2, k3, k4, k5, k6, k7, k8⟩ := id hK.1
  refine j_aload_n X (i := 0) dX9_colour_0 rfl rfl ?_
  refine j_iload_n X (i := 1) dX9_colour_1 rfl rfl ?_
  refine j_callVX_p X (f_sheetAt hok hst hP hG hK o) i_X9_sheetAt tw_4_100 tw_4_102 tp_9 P0 rfl dX9_colour_2 (fun v2 z2 sk2 t1 hp => ?_) (fun E z2 sk2 t1 hp => jE_out (d := 0) X (qPP_X1 hG hp.1 ⟨congrArg some hp.2.1.symm, hp.2.2⟩))
  obtain ⟨hqk, k, hkk, rfl, hxk, rfl, rfl, rfl, rfl⟩ := hp
  have bk := B5 k (by omega)
  have ck := v6 k (by omega)
  refine j_astore X (i := 4) dX9_colour_5 (by decide) rfl ?_
  refine j_iload_n X (i := 2) dX9_colour_7 rfl rfl ?_
  refine j_iload_n X (i := 3) dX9_colour_8 rfl rfl ?_
  refine j_callSX_p X (f_requirePlace hok hst x y) i_X9_requirePlace tw_3_227 tw_3_228 dX9_colour_9 (fun v2 z2 sk2 t2 hp => ?_) (fun E z2 sk2 t2 hp => jE_out (d := 0) X (qPP_X2 hG hqk hp.1 ⟨congrArg some hp.2.1.symm, hp.2.2⟩))
  obtain ⟨hxy, rfl, rfl, rfl, rfl⟩ := hp
  obtain ⟨xa, ya, hxa, hya, rfl, rfl, exa, eya⟩ := isPl_of hxy
  refine j_aload X (i := 4) dX9_colour_12 rfl ?_
  refine j_iload_n X (i := 2) dX9_colour_14 rfl rfl ?_
  refine j_iload_n X (i := 3) dX9_colour_15 rfl rfl ?_
  refine j_callV X (s_colourAt hok hst bk.1 bk.2.1 bk.2.2 ck.2.2.2.1 ck.2.2.2.2 hxa hya) i_X7_colourAt tw_4_114 tw_2_120 tw_2_121 bk.1 rfl dX9_colour_16 ?_ 
  exact j_iret_x X dX9_colour_19 rfl rfl (qPP_P hqk hxy (by unfold cAt; rw [sAt_k hxk, exa, eya]) hG (fun _ _ => rfl))

theorem f_intended {l : Launch} {g : jG} (hok : jOk g) (hst : l.stackTraces = false) {z : Option Nat} {sk : jS} {t : jT} {kw : Nat → Nat} (hP : isPr g kw sk) {G : GS} (hG : RcG t G) (hK : okG G) (o x y : Int32) : jMetX l g mX9_intended 7 2 12 [.ref (jb g + 0), .int o, .int x, .int y] z sk t (fP (a_intended G o x y) z sk t) (fX ["java/lang/IndexOutOfBoundsException", "java/lang/IllegalArgumentException"] (a_intended G o x y) sk t) := by
  refine j_bodyX (lv := [some (.ref (jb g + 0)), some (.int o), some (.int x), some (.int y), none]) i_X9_intended hok hst (fun p e s m args below meth c X => ?_)
  obtain ⟨P0, P1, P2, P3, P4, P5, P6, P7, P8⟩ := id hP
  obtain ⟨B0, B1, B2, B3, B4, B5⟩ := id P1
  obtain ⟨r1, r2, r3, r4, r5, r6, r7, r8, r9⟩ := id hG
  obtain ⟨v1, v2_, v3, v4, v5, v6⟩ := id r1
  obtain ⟨k1, k2, k3, k4, k5, k6, k7, k8⟩ := id hK.1
  refine j_aload_n X (i := 0) dX9_intended_0 rfl rfl ?_
  refine j_iload_n X (i := 1) dX9_intended_1 rfl rfl ?_
  refine j_callVX_p X (f_sheetAt hok hst hP hG hK o) i_X9_sheetAt tw_4_100 tw_4_102 tp_9 P0 rfl dX9_intended_2 (fun v2 z2 sk2 t1 hp => ?_) (fun E z2 sk2 t1 hp => jE_out (d := 0) X (qPP_X1 hG hp.1 ⟨congrArg some hp.2.1.symm, hp.2.2⟩))
  obtain ⟨hqk, k, hkk, rfl, hxk, rfl, rfl, rfl, rfl⟩ := hp
  have bk := B5 k (by omega)
  have ck := v6 k (by omega)
  refine j_astore X (i := 4) dX9_intended_5 (by decide) rfl ?_
  refine j_iload_n X (i := 2) dX9_intended_7 rfl rfl ?_
  refine j_iload_n X (i := 3) dX9_intended_8 rfl rfl ?_
  refine j_callSX_p X (f_requirePlace hok hst x y) i_X9_requirePlace tw_3_227 tw_3_228 dX9_intended_9 (fun v2 z2 sk2 t2 hp => ?_) (fun E z2 sk2 t2 hp => jE_out (d := 0) X (qPP_X2 hG hqk hp.1 ⟨congrArg some hp.2.1.symm, hp.2.2⟩))
  obtain ⟨hxy, rfl, rfl, rfl, rfl⟩ := hp
  obtain ⟨xa, ya, hxa, hya, rfl, rfl, exa, eya⟩ := isPl_of hxy
  refine j_aload X (i := 4) dX9_intended_12 rfl ?_
  refine j_iload_n X (i := 2) dX9_intended_14 rfl rfl ?_
  refine j_iload_n X (i := 3) dX9_intended_15 rfl rfl ?_
  refine j_callV X (s_meantAt hok hst bk.1 bk.2.1 bk.2.2 ck.2.2.2.1 ck.2.2.2.2 hxa hya) i_X7_meantAt tw_4_122 tw_2_127 tw_2_128 bk.1 rfl dX9_intended_16 ?_ 
  exact j_iret_x X dX9_intended_19 rfl rfl (qPP_P hqk hxy (by unfold cAt; rw [sAt_k hxk, exa, eya]) hG (fun _ _ => rfl))

theorem f_placesOf {l : Launch} {g : jG} (hok : jOk g) (hst : l.stackTraces = false) {z : Option Nat} {sk : jS} {t : jT} {kw : Nat → Nat} (hP : isPr g kw sk) {G : GS} (hG : RcG t G) (hK : okG G) (o x : Int32) : jMetX l g mX9_placesOf 7 2 12 [.ref (jb g + 0), .int o, .int x] z sk t (fP (a_placesOf G o x) z sk t) (fX ["java/lang/IndexOutOfBoundsException", "java/lang/IllegalArgumentException"] (a_placesOf G o x) sk t) := by
  refine j_bodyX (lv := [some (.ref (jb g + 0)), some (.int o), some (.int x), none]) i_X9_placesOf hok hst (fun p e s m args below meth c X => ?_)
  obtain ⟨P0, P1, P2, P3, P4, P5, P6, P7, P8⟩ := id hP
  obtain ⟨B0, B1, B2, B3, B4, B5⟩ := id P1
  obtain ⟨r1, r2, r3, r4, r5, r6, r7, r8, r9⟩ := id hG
  obtain ⟨v1, v2_, v3, v4, v5, v6⟩ := id r1
  obtain ⟨k1, k2, k3, k4, k5, k6, k7, k8⟩ := id hK.1
  refine j_aload_n X (i := 0) dX9_placesOf_0 rfl rfl ?_
  refine j_iload_n X (i := 1) dX9_placesOf_1 rfl rfl ?_
  refine j_callVX_p X (f_sheetAt hok hst hP hG hK o) i_X9_sheetAt tw_4_100 tw_4_102 tp_9 P0 rfl dX9_placesOf_2 (fun v2 z2 sk2 t1 hp => ?_) (fun E z2 sk2 t1 hp => jE_out (d := 0) X (qPP_X1 hG hp.1 ⟨congrArg some hp.2.1.symm, hp.2.2⟩))
  obtain ⟨hqk, k, hkk, rfl, hxk, rfl, rfl, rfl, rfl⟩ := hp
  have bk := B5 k (by omega)
  have ck := v6 k (by omega)
  have no : pIx 8 x = false → J p l e (jR 7 2 12) s m args below meth c (jQx below args s g 2 12 (fP (a_placesOf G (nI k) x) z sk t) (fX ["java/lang/IndexOutOfBoundsException", "java/lang/IllegalArgumentException"] (a_placesOf G (nI k) x) sk t)) 4 g (0 + 1) (0 + 6) z sk t 16 [some (.ref (jb g + 0)), some (.int (nI k)), some (.int x), some (.ref (jb g + (1 + 16 + 3 * k)))] [] := fun h => by
    exact j_throwS X thr_IA hok.x182 dX9_placesOf_16 dX9_placesOf_19 dX9_placesOf_20 dX9_placesOf_22 dX9_placesOf_25 (qPP_X2 hG hqk h ⟨rfl, rfl, rfl, rfl⟩)
  refine j_astore_n X (i := 3) dX9_placesOf_5 rfl (by decide) rfl ?_
  refine j_iload_n X (i := 2) dX9_placesOf_6 rfl rfl ?_
  refine j_if_lt X (tgt := 16) dX9_placesOf_7 (by decide) (fun h7 => ?_) (fun h7 => ?_)
  · exact no (decide_eq_false (by rw [i_lt0] at h7; omega))
  rw [i_lt0] at h7
  refine j_iload_n X (i := 2) dX9_placesOf_10 rfl rfl ?_
  refine j_bipush X (v := (nI 8)) dX9_placesOf_11 (by decide) ?_
  refine j_icmp_lt X (tgt := 26) dX9_placesOf_13 (by decide) (fun h13 => ?_) (fun h13 => ?_)
  · rw [show nI 8 = nI 8 from rfl, i_ltn (by decide)] at h13
    obtain ⟨cx, hcx, rfl, ecx⟩ := pIx_of (n := 8) (by decide) (x := x) (decide_eq_true ⟨by omega, h13⟩)
    refine j_aload_n X (i := 3) dX9_placesOf_26 rfl rfl ?_
    refine j_iload_n X (i := 2) dX9_placesOf_27 rfl rfl ?_
    refine j_callV X (s_countPlaces hok hst bk.1 bk.2.1 bk.2.2 ck.2.2.2.1 ck.2.2.2.2 hcx) i_X7_countPlaces tw_4_131 tw_4_132 tw_4_133 bk.1 rfl dX9_placesOf_28 ?_ 
    exact j_iret_x X dX9_placesOf_31 rfl rfl (qPP_P hqk (decide_eq_true ⟨by omega, h13⟩) (by rw [sAt_k hxk, ecx]) hG (fun _ _ => rfl))
  · rw [i_ltn (by decide)] at h13
    exact no (decide_eq_false (by omega))

theorem f_wetness {l : Launch} {g : jG} (hok : jOk g) (hst : l.stackTraces = false) {z : Option Nat} {sk : jS} {t : jT} {kw : Nat → Nat} (hP : isPr g kw sk) {G : GS} (hG : RcG t G) (hK : okG G) (o : Int32) : jMetX l g mX9_wetness 7 1 6 [.ref (jb g + 0), .int o] z sk t (fP (a_wetness G o) z sk t) (fX ["java/lang/IndexOutOfBoundsException"] (a_wetness G o) sk t) := by
  refine j_bodyX (lv := [some (.ref (jb g + 0)), some (.int o)]) i_X9_wetness hok hst (fun p e s m args below meth c X => ?_)
  obtain ⟨P0, P1, P2, P3, P4, P5, P6, P7, P8⟩ := id hP
  obtain ⟨B0, B1, B2, B3, B4, B5⟩ := id P1
  obtain ⟨r1, r2, r3, r4, r5, r6, r7, r8, r9⟩ := id hG
  obtain ⟨v1, v2_, v3, v4, v5, v6⟩ := id r1
  obtain ⟨k1, k2, k3, k4, k5, k6, k7, k8⟩ := id hK.1
  refine j_aload_n X (i := 0) dX9_wetness_0 rfl rfl ?_
  refine j_iload_n X (i := 1) dX9_wetness_1 rfl rfl ?_
  refine j_callVX_p X (f_sheetAt hok hst hP hG hK o) i_X9_sheetAt tw_4_100 tw_4_102 tp_9 P0 rfl dX9_wetness_2 (fun v2 z2 sk2 t1 hp => ?_) (fun E z2 sk2 t1 hp => jE_out (d := 0) X (qP_X hG hp.1 ⟨congrArg some hp.2.1.symm, hp.2.2⟩))
  obtain ⟨hqk, k, hkk, rfl, hxk, rfl, rfl, rfl, rfl⟩ := hp
  have bk := B5 k (by omega)
  have ck := v6 k (by omega)
  refine jFd.get X fd_X9_187 bk.1 rfl dX9_wetness_5 ?_
  rw [ck.1]
  exact j_iret_x X dX9_wetness_8 rfl rfl (qP_P hqk (by rw [sAt_k hxk]) hG (fun _ _ => rfl))

theorem f_smears {l : Launch} {g : jG} (hok : jOk g) (hst : l.stackTraces = false) {z : Option Nat} {sk : jS} {t : jT} {kw : Nat → Nat} (hP : isPr g kw sk) {G : GS} (hG : RcG t G) (hK : okG G) (o : Int32) : jMetX l g mX9_smears 7 1 6 [.ref (jb g + 0), .int o] z sk t (fP (a_smears G o) z sk t) (fX ["java/lang/IndexOutOfBoundsException"] (a_smears G o) sk t) := by
  refine j_bodyX (lv := [some (.ref (jb g + 0)), some (.int o)]) i_X9_smears hok hst (fun p e s m args below meth c X => ?_)
  obtain ⟨P0, P1, P2, P3, P4, P5, P6, P7, P8⟩ := id hP
  obtain ⟨B0, B1, B2, B3, B4, B5⟩ := id P1
  obtain ⟨r1, r2, r3, r4, r5, r6, r7, r8, r9⟩ := id hG
  obtain ⟨v1, v2_, v3, v4, v5, v6⟩ := id r1
  obtain ⟨k1, k2, k3, k4, k5, k6, k7, k8⟩ := id hK.1
  refine j_aload_n X (i := 0) dX9_smears_0 rfl rfl ?_
  refine j_iload_n X (i := 1) dX9_smears_1 rfl rfl ?_
  refine j_callVX_p X (f_sheetAt hok hst hP hG hK o) i_X9_sheetAt tw_4_100 tw_4_102 tp_9 P0 rfl dX9_smears_2 (fun v2 z2 sk2 t1 hp => ?_) (fun E z2 sk2 t1 hp => jE_out (d := 0) X (qP_X hG hp.1 ⟨congrArg some hp.2.1.symm, hp.2.2⟩))
  obtain ⟨hqk, k, hkk, rfl, hxk, rfl, rfl, rfl, rfl⟩ := hp
  have bk := B5 k (by omega)
  have ck := v6 k (by omega)
  refine jFd.get X fd_X9_190 bk.1 rfl dX9_smears_5 ?_
  rw [ck.2.1]
  exact j_iret_x X dX9_smears_8 rfl rfl (qP_P hqk (by rw [sAt_k hxk]) hG (fun _ _ => rfl))

theorem f_misprints {l : Launch} {g : jG} (hok : jOk g) (hst : l.stackTraces = false) {z : Option Nat} {sk : jS} {t : jT} {kw : Nat → Nat} (hP : isPr g kw sk) {G : GS} (hG : RcG t G) (hK : okG G) (o : Int32) : jMetX l g mX9_misprints 7 1 6 [.ref (jb g + 0), .int o] z sk t (fP (a_misprints G o) z sk t) (fX ["java/lang/IndexOutOfBoundsException"] (a_misprints G o) sk t) := by
  refine j_bodyX (lv := [some (.ref (jb g + 0)), some (.int o)]) i_X9_misprints hok hst (fun p e s m args below meth c X => ?_)
  obtain ⟨P0, P1, P2, P3, P4, P5, P6, P7, P8⟩ := id hP
  obtain ⟨B0, B1, B2, B3, B4, B5⟩ := id P1
  obtain ⟨r1, r2, r3, r4, r5, r6, r7, r8, r9⟩ := id hG
  obtain ⟨v1, v2_, v3, v4, v5, v6⟩ := id r1
  obtain ⟨k1, k2, k3, k4, k5, k6, k7, k8⟩ := id hK.1
  refine j_aload_n X (i := 0) dX9_misprints_0 rfl rfl ?_
  refine j_iload_n X (i := 1) dX9_misprints_1 rfl rfl ?_
  refine j_callVX_p X (f_sheetAt hok hst hP hG hK o) i_X9_sheetAt tw_4_100 tw_4_102 tp_9 P0 rfl dX9_misprints_2 (fun v2 z2 sk2 t1 hp => ?_) (fun E z2 sk2 t1 hp => jE_out (d := 0) X (qP_X hG hp.1 ⟨congrArg some hp.2.1.symm, hp.2.2⟩))
  obtain ⟨hqk, k, hkk, rfl, hxk, rfl, rfl, rfl, rfl⟩ := hp
  have bk := B5 k (by omega)
  have ck := v6 k (by omega)
  refine j_callV X (s_countMisprints hok hst bk.1 bk.2.1 bk.2.2 ck.2.2.2.1 ck.2.2.2.2) i_X7_countMisprints tw_2_115 tw_2_116 tw_2_117 bk.1 rfl dX9_misprints_5 ?_ 
  exact j_iret_x X dX9_misprints_8 rfl rfl (qP_P hqk (by rw [hxk]; rfl) hG (fun _ _ => rfl))

theorem f_misprintsBySets {l : Launch} {g : jG} (hok : jOk g) (hst : l.stackTraces = false) {z : Option Nat} {sk : jS} {t : jT} {kw : Nat → Nat} (hP : isPr g kw sk) {G : GS} (hG : RcG t G) (hK : okG G) (o : Int32) : jMetX l g mX9_misprintsBySets 7 1 6 [.ref (jb g + 0), .int o] z sk t (fP (a_misprints G o) z sk t) (fX ["java/lang/IndexOutOfBoundsException"] (a_misprints G o) sk t) := by
  refine j_bodyX (lv := [some (.ref (jb g + 0)), some (.int o)]) i_X9_misprintsBySets hok hst (fun p e s m args below meth c X => ?_)
  obtain ⟨P0, P1, P2, P3, P4, P5, P6, P7, P8⟩ := id hP
  obtain ⟨B0, B1, B2, B3, B4, B5⟩ := id P1
  obtain ⟨r1, r2, r3, r4, r5, r6, r7, r8, r9⟩ := id hG
  obtain ⟨v1, v2_, v3, v4, v5, v6⟩ := id r1
  obtain ⟨k1, k2, k3, k4, k5, k6, k7, k8⟩ := id hK.1
  refine j_aload_n X (i := 0) dX9_misprintsBySets_0 rfl rfl ?_
  refine j_iload_n X (i := 1) dX9_misprintsBySets_1 rfl rfl ?_
  refine j_callVX_p X (f_sheetAt hok hst hP hG hK o) i_X9_sheetAt tw_4_100 tw_4_102 tp_9 P0 rfl dX9_misprintsBySets_2 (fun v2 z2 sk2 t1 hp => ?_) (fun E z2 sk2 t1 hp => jE_out (d := 0) X (qP_X hG hp.1 ⟨congrArg some hp.2.1.symm, hp.2.2⟩))
  obtain ⟨hqk, k, hkk, rfl, hxk, rfl, rfl, rfl, rfl⟩ := hp
  have bk := B5 k (by omega)
  have ck := v6 k (by omega)
  refine j_callV X (s_misprintsBySets hok hst bk.1 bk.2.1 bk.2.2 ck.2.2.2.1 ck.2.2.2.2) i_X7_countMisprintsBySets tw_2_130 tw_2_131 tw_2_132 bk.1 rfl dX9_misprintsBySets_5 ?_ 
  exact j_iret_x X dX9_misprintsBySets_8 rfl rfl (qP_P hqk (by rw [hxk]; rfl) hG (fun _ _ => rfl))

theorem f_rackPlace {l : Launch} {g : jG} (hok : jOk g) (hst : l.stackTraces = false) {z : Option Nat} {sk : jS} {t : jT} {kw : Nat → Nat} (hP : isPr g kw sk) {G : GS} (hG : RcG t G) (hK : okG G) (o : Int32) : jMetX l g mX9_rackPlace 7 2 12 [.ref (jb g + 0), .int o] z sk t (fP (a_rackPlace G o) z sk t) (fX ["java/lang/IndexOutOfBoundsException", "java/util/NoSuchElementException"] (a_rackPlace G o) sk t) := by
  refine j_bodyX (lv := [some (.ref (jb g + 0)), some (.int o), none]) i_X9_rackPlace hok hst (fun p e s m args below meth c X => ?_)
  obtain ⟨P0, P1, P2, P3, P4, P5, P6, P7, P8⟩ := id hP
  obtain ⟨B0, B1, B2, B3, B4, B5⟩ := id P1
  obtain ⟨r1, r2, r3, r4, r5, r6, r7, r8, r9⟩ := id hG
  obtain ⟨v1, v2_, v3, v4, v5, v6⟩ := id r1
  obtain ⟨k1, k2, k3, k4, k5, k6, k7, k8⟩ := id hK.1
  refine j_aload_n X (i := 0) dX9_rackPlace_0 rfl rfl ?_
  refine j_iload_n X (i := 1) dX9_rackPlace_1 rfl rfl ?_
  refine j_callVX_p X (f_sheetAt hok hst hP hG hK o) i_X9_sheetAt tw_4_100 tw_4_102 tp_9 P0 rfl dX9_rackPlace_2 (fun v2 z2 sk2 t1 hp => ?_) (fun E z2 sk2 t1 hp => jE_out (d := 0) X (qPP_X1 hG hp.1 ⟨congrArg some hp.2.1.symm, hp.2.2⟩))
  obtain ⟨hqk, k, hkk, rfl, hxk, rfl, rfl, rfl, rfl⟩ := hp
  have bk := B5 k (by omega)
  have ck := v6 k (by omega)
  have oS := k4 k (by omega)
  refine j_astore_n X (i := 2) dX9_rackPlace_5 rfl (by decide) rfl ?_
  refine j_aload_n X (i := 2) dX9_rackPlace_6 rfl rfl ?_
  refine j_callV X (s_isInRack hok hst bk.1 ck.2.2.1 oS.2.1 oS.2.2) i_X7_isInRack tw_4_208 tw_2_144 tw_2_145 bk.1 rfl dX9_rackPlace_7 ?_ 
  by_cases h0 : 0 ≤ (sh (gV G) k).1.2.2
  · rw [decide_eq_true h0]
    refine j_if_ne X (tgt := 23) dX9_rackPlace_10 (by decide) (fun _ => ?_) (fun q9 => absurd q9 (by decide))
    refine j_aload_n X (i := 2) dX9_rackPlace_23 rfl rfl ?_
    refine jFd.get X fd_X9_223 bk.1 rfl dX9_rackPlace_24 ?_
    rw [ck.2.2.1]
    exact j_iret_x X dX9_rackPlace_27 rfl rfl (qPP_P hqk (by rw [sAt_k hxk]; exact decide_eq_true h0) (by rw [sAt_k hxk]) hG (fun _ _ => rfl))
  · rw [decide_eq_false h0]
    refine j_if_ne X (tgt := 23) dX9_rackPlace_10 (by decide) (fun q9 => absurd (rfl) q9) (fun _ => ?_)
    exact j_throwN X thr_NS hok.x221 dX9_rackPlace_13 dX9_rackPlace_16 dX9_rackPlace_17 dX9_rackPlace_19 dX9_rackPlace_22 (qPP_X2 hG hqk (by rw [sAt_k hxk]; exact decide_eq_false h0) ⟨rfl, rfl, rfl, rfl⟩)

theorem f_sheetInRack {l : Launch} {g : jG} (hok : jOk g) (hst : l.stackTraces = false) {z : Option Nat} {sk : jS} {t : jT} {kw : Nat → Nat} (hP : isPr g kw sk) {G : GS} (hG : RcG t G) (hK : okG G) (x : Int32) : jMetX l g mX9_sheetInRack 7 1 6 [.ref (jb g + 0), .int x] z sk t (fP (a_sheetInRack G x) z sk t) (fX ["java/lang/IndexOutOfBoundsException", "java/util/NoSuchElementException"] (a_sheetInRack G x) sk t) := by
  refine j_bodyX (lv := [some (.ref (jb g + 0)), some (.int x), none]) i_X9_sheetInRack hok hst (fun p e s m args below meth c X => ?_)
  obtain ⟨P0, P1, P2, P3, P4, P5, P6, P7, P8⟩ := id hP
  obtain ⟨B0, B1, B2, B3, B4, B5⟩ := id P1
  obtain ⟨r1, r2, r3, r4, r5, r6, r7, r8, r9⟩ := id hG
  obtain ⟨v1, v2_, v3, v4, v5, v6⟩ := id r1
  obtain ⟨k1, k2, k3, k4, k5, k6, k7, k8⟩ := id hK.1
  have no : pIx 3 x = false → J p l e (jR 7 1 6) s m args below meth c (jQx below args s g 1 6 (fP (a_sheetInRack G x) z sk t) (fX ["java/lang/IndexOutOfBoundsException", "java/util/NoSuchElementException"] (a_sheetInRack G x) sk t)) 3 g 0 0 z sk t 9 [some (.ref (jb g + 0)), some (.int x), none] [] := fun h => by
    exact j_throwS X thr_IO hok.x228 dX9_sheetInRack_9 dX9_sheetInRack_12 dX9_sheetInRack_13 dX9_sheetInRack_15 dX9_sheetInRack_18 (qPP_X1 hG h ⟨rfl, rfl, rfl, rfl⟩)
  refine j_iload_n X (i := 1) dX9_sheetInRack_0 rfl rfl ?_
  refine j_if_lt X (tgt := 9) dX9_sheetInRack_1 (by decide) (fun h1 => ?_) (fun h1 => ?_)
  · exact no (decide_eq_false (by rw [i_lt0] at h1; omega))
  rw [i_lt0] at h1
  refine j_iload_n X (i := 1) dX9_sheetInRack_4 rfl rfl ?_
  refine j_iconst X (v := (nI 3)) dX9_sheetInRack_5 (by decide) ?_
  refine j_icmp_lt X (tgt := 19) dX9_sheetInRack_6 (by decide) (fun h6 => ?_) (fun h6 => ?_)
  · rw [i_ltn (by decide)] at h6
    obtain ⟨cx, hcx, rfl, ecx⟩ := pIx_of (n := 3) (by decide) (x := x) (decide_eq_true ⟨by omega, h6⟩)
    have hx3 : pIx 3 (nI cx) = true := decide_eq_true ⟨by omega, h6⟩
    have ei : (nI cx).toInt = (cx : Int) := nI_toInt (by omega)
    refine j_aload_n X (i := 0) dX9_sheetInRack_19 rfl rfl ?_
    refine jFd.get X fd_X9_12 P0 rfl dX9_sheetInRack_20 ?_
    refine j_iload_n X (i := 1) dX9_sheetInRack_23 rfl rfl ?_
    refine j_callV X (s_sheetAtPlace hok hst P1 r1 hK.1 cx hcx) i_X8_sheetAtPlace tw_4_218 tw_4_187 tw_4_188 B0 rfl dX9_sheetInRack_24 ?_ 
    refine j_istore_n X (i := 2) dX9_sheetInRack_27 rfl (by decide) rfl ?_
    refine j_iload_n X (i := 2) dX9_sheetInRack_28 rfl rfl ?_
    refine j_iconst X (v := -1) dX9_sheetInRack_29 (by decide) ?_
    have hge := rkG_ge (sh (gV G)) (cx : Int) (ns (gV G)) 0
    have hge : -1 ≤ rkV (gV G) (cx : Int) ∧ rkV (gV G) (cx : Int) < ((0 + ns (gV G) : Nat) : Int) := hge
    by_cases hr : rkV (gV G) (cx : Int) = -1
    · rw [hr]
      refine j_icmp_ne X (tgt := 43) dX9_sheetInRack_30 (by decide) (fun q9 => absurd (rfl) q9) (fun _ => ?_)
      exact j_throwN X thr_NS hok.x234 dX9_sheetInRack_33 dX9_sheetInRack_36 dX9_sheetInRack_37 dX9_sheetInRack_39 dX9_sheetInRack_42 (qPP_X2 hG hx3 (by rw [ei, hr]; rfl) ⟨rfl, rfl, rfl, rfl⟩)
    · refine j_icmp_ne X (tgt := 43) dX9_sheetInRack_30 (by decide) (fun _ => ?_) (fun q9 => absurd q9 ((fun z9 => hr ((iN_eq (b := -1) (by omega) (by omega) (by decide) (by decide)).mp z9))))
      refine j_iload_n X (i := 2) dX9_sheetInRack_43 rfl rfl ?_
      exact j_iret_x X dX9_sheetInRack_44 rfl rfl (qPP_P hx3 (by rw [ei]; exact decide_eq_true hr) (by rw [ei]) hG (fun _ _ => rfl))
  · rw [i_ltn (by decide)] at h6
    exact no (decide_eq_false (by omega))

theorem f_drops {l : Launch} {g : jG} (hok : jOk g) (hst : l.stackTraces = false) {z : Option Nat} {sk : jS} {t : jT} {kw : Nat → Nat} (hP : isPr g kw sk) {G : GS} (hG : RcG t G) (hK : okG G) (x : Int32) : jMetX l g mX9_drops 7 1 6 [.ref (jb g + 0), .int x] z sk t (fP (a_drops G x) z sk t) (fX ["java/lang/IllegalArgumentException"] (a_drops G x) sk t) := by
  refine j_bodyX (lv := [some (.ref (jb g + 0)), some (.int x)]) i_X9_drops hok hst (fun p e s m args below meth c X => ?_)
  obtain ⟨P0, P1, P2, P3, P4, P5, P6, P7, P8⟩ := id hP
  obtain ⟨B0, B1, B2, B3, B4, B5⟩ := id P1
  obtain ⟨r1, r2, r3, r4, r5, r6, r7, r8, r9⟩ := id hG
  obtain ⟨v1, v2_, v3, v4, v5, v6⟩ := id r1
  obtain ⟨k1, k2, k3, k4, k5, k6, k7, k8⟩ := id hK.1
  refine j_iload_n X (i := 1) dX9_drops_0 rfl rfl ?_
  refine j_callS X (s_isInk hok hst x) i_X9_isInk tw_4_238 tw_2_203 dX9_drops_1 ?_ 
  cases hi : isIk x with
  | false =>
    refine j_if_ne X (tgt := 17) dX9_drops_4 (by decide) (fun q9 => absurd (rfl) q9) (fun _ => ?_)
    exact j_throwS X thr_IA hok.x243 dX9_drops_7 dX9_drops_10 dX9_drops_11 dX9_drops_13 dX9_drops_16 (qP_X hG hi ⟨rfl, rfl, rfl, rfl⟩)
  | true =>
    obtain ⟨n, hn, rfl, hxn⟩ := isIk_of hi
    refine j_if_ne X (tgt := 17) dX9_drops_4 (by decide) (fun _ => ?_) (fun q9 => absurd q9 (by decide))
    refine j_aload_n X (i := 0) dX9_drops_17 rfl rfl ?_
    refine jFd.get X fd_X9_12 P0 rfl dX9_drops_18 ?_
    refine jFd.get X fd_X9_245 B0 rfl dX9_drops_21 ?_
    refine j_iload_n X (i := 1) dX9_drops_24 rfl rfl ?_
    refine j_callS X (s_inkIndex hok hst n (by omega)) i_X9_inkIndex tw_5_0 tw_4_78 dX9_drops_25 ?_ 
    refine j_iald X B3 rfl (show n / 2 < 3 by omega) (by decide) dX9_drops_28 ?_
    rw [v4 (n / 2) (by omega)]
    exact j_iret_x X dX9_drops_29 rfl rfl (qP_P hi (by rw [hxn]) hG (fun _ _ => rfl))

theorem f_hoursUntilDry {l : Launch} {g : jG} (hok : jOk g) (hst : l.stackTraces = false) {z : Option Nat} {sk : jS} {t : jT} {kw : Nat → Nat} (hP : isPr g kw sk) {G : GS} (hG : RcG t G) (hK : okG G) (o : Int32) : jMetX l g mX9_hoursUntilDry 7 1 6 [.ref (jb g + 0), .int o] z sk t (fP (a_untilDry G o) z sk t) (fX ["java/lang/IndexOutOfBoundsException"] (a_untilDry G o) sk t) := by
  refine j_bodyX (lv := [some (.ref (jb g + 0)), some (.int o)]) i_X9_hoursUntilDry hok hst (fun p e s m args below meth c X => ?_)
  obtain ⟨P0, P1, P2, P3, P4, P5, P6, P7, P8⟩ := id hP
  obtain ⟨B0, B1, B2, B3, B4, B5⟩ := id P1
  obtain ⟨r1, r2, r3, r4, r5, r6, r7, r8, r9⟩ := id hG
  obtain ⟨v1, v2_, v3, v4, v5, v6⟩ := id r1
  obtain ⟨k1, k2, k3, k4, k5, k6, k7, k8⟩ := id hK.1
  refine j_aload_n X (i := 0) dX9_hoursUntilDry_0 rfl rfl ?_
  refine j_iload_n X (i := 1) dX9_hoursUntilDry_1 rfl rfl ?_
  refine j_callVX_p X (f_sheetAt hok hst hP hG hK o) i_X9_sheetAt tw_4_100 tw_4_102 tp_9 P0 rfl dX9_hoursUntilDry_2 (fun v2 z2 sk2 t1 hp => ?_) (fun E z2 sk2 t1 hp => jE_out (d := 0) X (qP_X hG hp.1 ⟨congrArg some hp.2.1.symm, hp.2.2⟩))
  obtain ⟨hqk, k, hkk, rfl, hxk, rfl, rfl, rfl, rfl⟩ := hp
  have bk := B5 k (by omega)
  have ck := v6 k (by omega)
  have oS := k4 k (by omega)
  refine j_aload_n X (i := 0) dX9_hoursUntilDry_5 rfl rfl ?_
  refine jFd.get X fd_X9_12 P0 rfl dX9_hoursUntilDry_6 ?_
  refine jFd.get X fd_X9_254 B0 rfl dX9_hoursUntilDry_9 ?_
  rw [v3]
  refine j_callV X (s_countHours hok hst bk.1 ck.1 (Nat.lt_of_le_of_lt oS.1 (by decide)) ck.2.2.1 oS.2.1 oS.2.2 (hr (gV G))) i_X7_countHoursUntilDry tw_2_135 tw_2_136 tw_2_137 bk.1 rfl dX9_hoursUntilDry_12 ?_ 
  exact j_iret_x X dX9_hoursUntilDry_15 rfl rfl (qP_P hqk (by rw [sAt_k hxk]; rfl) hG (fun _ _ => rfl))

theorem f_hoursUntilDryAtOnce {l : Launch} {g : jG} (hok : jOk g) (hst : l.stackTraces = false) {z : Option Nat} {sk : jS} {t : jT} {kw : Nat → Nat} (hP : isPr g kw sk) {G : GS} (hG : RcG t G) (hK : okG G) (o : Int32) : jMetX l g mX9_hoursUntilDryAtOnce 7 1 6 [.ref (jb g + 0), .int o] z sk t (fP (a_untilDry G o) z sk t) (fX ["java/lang/IndexOutOfBoundsException"] (a_untilDry G o) sk t) := by
  refine j_bodyX (lv := [some (.ref (jb g + 0)), some (.int o)]) i_X9_hoursUntilDryAtOnce hok hst (fun p e s m args below meth c X => ?_)
  obtain ⟨P0, P1, P2, P3, P4, P5, P6, P7, P8⟩ := id hP
  obtain ⟨B0, B1, B2, B3, B4, B5⟩ := id P1
  obtain ⟨r1, r2, r3, r4, r5, r6, r7, r8, r9⟩ := id hG
  obtain ⟨v1, v2_, v3, v4, v5, v6⟩ := id r1
  obtain ⟨k1, k2, k3, k4, k5, k6, k7, k8⟩ := id hK.1
  refine j_aload_n X (i := 0) dX9_hoursUntilDryAtOnce_0 rfl rfl ?_
  refine j_iload_n X (i := 1) dX9_hoursUntilDryAtOnce_1 rfl rfl ?_
  refine j_callVX_p X (f_sheetAt hok hst hP hG hK o) i_X9_sheetAt tw_4_100 tw_4_102 tp_9 P0 rfl dX9_hoursUntilDryAtOnce_2 (fun v2 z2 sk2 t1 hp => ?_) (fun E z2 sk2 t1 hp => jE_out (d := 0) X (qP_X hG hp.1 ⟨congrArg some hp.2.1.symm, hp.2.2⟩))
  obtain ⟨hqk, k, hkk, rfl, hxk, rfl, rfl, rfl, rfl⟩ := hp
  have bk := B5 k (by omega)
  have ck := v6 k (by omega)
  have oS := k4 k (by omega)
  refine j_aload_n X (i := 0) dX9_hoursUntilDryAtOnce_5 rfl rfl ?_
  refine jFd.get X fd_X9_12 P0 rfl dX9_hoursUntilDryAtOnce_6 ?_
  refine jFd.get X fd_X9_254 B0 rfl dX9_hoursUntilDryAtOnce_9 ?_
  rw [v3]
  refine j_callV X (s_computeHours hok hst bk.1 ck.1 (Nat.lt_of_le_of_lt oS.1 (by decide)) ck.2.2.1 oS.2.1 oS.2.2 (hr (gV G))) i_X7_computeHoursUntilDry tw_2_147 tw_2_148 tw_2_149 bk.1 rfl dX9_hoursUntilDryAtOnce_12 ?_ 
  exact j_iret_x X dX9_hoursUntilDryAtOnce_15 rfl rfl (qP_P hqk (by rw [sAt_k hxk]; rfl) hG (fun _ _ => rfl))

theorem f_requireRefusal {l : Launch} {g : jG} (hok : jOk g) (hst : l.stackTraces = false) {z : Option Nat} {sk : jS} {t : jT} {kw : Nat → Nat} (hP : isPr g kw sk) {G : GS} (hG : RcG t G) (hK : okG G) : jMetX l g mX9_requireRefusal 6 1 6 [.ref (jb g + 0)] z sk t (fun v2 z2 sk2 t2 => (∃ a d, gR G = some (a, d) ∧ t 449 0 = nI a ∧ t 449 1 = nI d) ∧ v2 = none ∧ z = z2 ∧ sk = sk2 ∧ t = t2) (fun E z2 sk2 t2 => gR G = none ∧ E = "java/util/NoSuchElementException" ∧ z2 = none ∧ sk2 = sk ∧ t2 = t) := by
  refine j_bodyX (lv := [some (.ref (jb g + 0))]) i_X9_requireRefusal hok hst (fun p e s m args below meth c X => ?_)
  obtain ⟨P0, P1, P2, P3, P4, P5, P6, P7, P8⟩ := id hP
  obtain ⟨B0, B1, B2, B3, B4, B5⟩ := id P1
  obtain ⟨r1, r2, r3, r4, r5, r6, r7, r8, r9⟩ := id hG
  obtain ⟨v1, v2_, v3, v4, v5, v6⟩ := id r1
  obtain ⟨k1, k2, k3, k4, k5, k6, k7, k8⟩ := id hK.1
  refine j_aload_n X (i := 0) dX9_requireRefusal_0 rfl rfl ?_
  refine jFd.get X fd_X9_36 P0 rfl dX9_requireRefusal_1 ?_
  refine jFd.get X fd_X9_266 P5 rfl dX9_requireRefusal_4 ?_
  refine j_iconst X (v := -1) dX9_requireRefusal_7 (by decide) ?_
  cases hr : gR G with
  | none =>
    rw [hr] at r5
    have r5 : t 449 0 = -1 := r5
    rw [r5]
    refine j_icmp_ne X (tgt := 22) dX9_requireRefusal_8 (by decide) (fun q9 => absurd (rfl) q9) (fun _ => ?_)
    exact j_throwNW X thr_NS hok.x372 dX9_requireRefusal_11 dX9_requireRefusal_14 dX9_requireRefusal_15 dX9_requireRefusal_18 dX9_requireRefusal_21 (⟨rfl, rfl, rfl, rfl, rfl⟩)
  | some q =>
    obtain ⟨a, dd⟩ := q
    rw [hr] at r5
    obtain ⟨e1, e2, e3, e4⟩ : t 449 0 = nI a ∧ t 449 1 = nI dd ∧ 1 ≤ a ∧ a ≤ 3 := r5
    rw [e1]
    refine j_icmp_ne X (tgt := 22) dX9_requireRefusal_8 (by decide) (fun _ => ?_) (fun q9 => absurd q9 ((show ¬ nI a = -1 by rcases (show a = 1 ∨ a = 2 ∨ a = 3 by omega) with rfl | rfl | rfl <;> decide)))
    exact j_vret_x X dX9_requireRefusal_22 rfl ⟨⟨a, dd, rfl, rfl, e2⟩, rfl, rfl, rfl, rfl⟩

theorem f_refusalReason {l : Launch} {g : jG} (hok : jOk g) (hst : l.stackTraces = false) {z : Option Nat} {sk : jS} {t : jT} {kw : Nat → Nat} (hP : isPr g kw sk) {G : GS} (hG : RcG t G) (hK : okG G) : jMetX l g mX9_refusalReason 7 1 6 [.ref (jb g + 0)] z sk t (fP (a_reason G) z sk t) (fX ["java/util/NoSuchElementException"] (a_reason G) sk t) := by
  refine j_bodyX (lv := [some (.ref (jb g + 0))]) i_X9_refusalReason hok hst (fun p e s m args below meth c X => ?_)
  obtain ⟨P0, P1, P2, P3, P4, P5, P6, P7, P8⟩ := id hP
  obtain ⟨B0, B1, B2, B3, B4, B5⟩ := id P1
  obtain ⟨r1, r2, r3, r4, r5, r6, r7, r8, r9⟩ := id hG
  obtain ⟨v1, v2_, v3, v4, v5, v6⟩ := id r1
  obtain ⟨k1, k2, k3, k4, k5, k6, k7, k8⟩ := id hK.1
  refine j_aload_n X (i := 0) dX9_refusalReason_0 rfl rfl ?_
  refine j_callVX_p X (f_requireRefusal hok hst hP hG hK) i_X9_requireRefusal tw_5_39 tw_5_41 tp_11 P0 rfl dX9_refusalReason_1 (fun v2 z2 sk2 t1 hp => ?_) (fun E z2 sk2 t1 hp => jE_out (d := 0) X (fX_mk (n := 0) (v := nI 0) (by unfold a_reason; rw [hp.1]) (congrArg some hp.2.1.symm) hp.2.2.1 hp.2.2.2.1 (by rw [hp.2.2.2.2]; exact hG) (fun c _ => by rw [hp.2.2.2.2])))
  obtain ⟨⟨a, dd, hr, e1, e2⟩, rfl, rfl, rfl, rfl⟩ := hp
  refine j_aload_n X (i := 0) dX9_refusalReason_4 rfl rfl ?_
  refine jFd.get X fd_X9_36 P0 rfl dX9_refusalReason_5 ?_
  refine jFd.get X fd_X9_266 P5 rfl dX9_refusalReason_8 ?_
  rw [e1]
  exact j_iret_x X dX9_refusalReason_11 rfl rfl (fP_mk (by unfold a_reason; rw [hr]) hG (fun _ _ => rfl))

theorem f_refusalDetail {l : Launch} {g : jG} (hok : jOk g) (hst : l.stackTraces = false) {z : Option Nat} {sk : jS} {t : jT} {kw : Nat → Nat} (hP : isPr g kw sk) {G : GS} (hG : RcG t G) (hK : okG G) : jMetX l g mX9_refusalDetail 7 1 6 [.ref (jb g + 0)] z sk t (fP (a_detail G) z sk t) (fX ["java/util/NoSuchElementException"] (a_detail G) sk t) := by
  refine j_bodyX (lv := [some (.ref (jb g + 0))]) i_X9_refusalDetail hok hst (fun p e s m args below meth c X => ?_)
  obtain ⟨P0, P1, P2, P3, P4, P5, P6, P7, P8⟩ := id hP
  obtain ⟨B0, B1, B2, B3, B4, B5⟩ := id P1
  obtain ⟨r1, r2, r3, r4, r5, r6, r7, r8, r9⟩ := id hG
  obtain ⟨v1, v2_, v3, v4, v5, v6⟩ := id r1
  obtain ⟨k1, k2, k3, k4, k5, k6, k7, k8⟩ := id hK.1
  refine j_aload_n X (i := 0) dX9_refusalDetail_0 rfl rfl ?_
  refine j_callVX_p X (f_requireRefusal hok hst hP hG hK) i_X9_requireRefusal tw_5_39 tw_5_41 tp_11 P0 rfl dX9_refusalDetail_1 (fun v2 z2 sk2 t1 hp => ?_) (fun E z2 sk2 t1 hp => jE_out (d := 0) X (fX_mk (n := 0) (v := nI 0) (by unfold a_detail; rw [hp.1]) (congrArg some hp.2.1.symm) hp.2.2.1 hp.2.2.2.1 (by rw [hp.2.2.2.2]; exact hG) (fun c _ => by rw [hp.2.2.2.2])))
  obtain ⟨⟨a, dd, hr, e1, e2⟩, rfl, rfl, rfl, rfl⟩ := hp
  refine j_aload_n X (i := 0) dX9_refusalDetail_4 rfl rfl ?_
  refine jFd.get X fd_X9_36 P0 rfl dX9_refusalDetail_5 ?_
  refine jFd.get X fd_X9_269 P5 rfl dX9_refusalDetail_8 ?_
  rw [e2]
  exact j_iret_x X dX9_refusalDetail_11 rfl rfl (fP_mk (by unfold a_detail; rw [hr]) hG (fun _ _ => rfl))

theorem f_errorPosition {l : Launch} {g : jG} (hok : jOk g) (hst : l.stackTraces = false) {z : Option Nat} {sk : jS} {t : jT} {kw : Nat → Nat} (hP : isPr g kw sk) {G : GS} (hG : RcG t G) (hK : okG G) : jMetX l g mX9_errorPosition 7 1 6 [.ref (jb g + 0)] z sk t (fP (a_errorPos G) z sk t) (fX ["java/util/NoSuchElementException"] (a_errorPos G) sk t) := by
  refine j_bodyX (lv := [some (.ref (jb g + 0))]) i_X9_errorPosition hok hst (fun p e s m args below meth c X => ?_)
  obtain ⟨P0, P1, P2, P3, P4, P5, P6, P7, P8⟩ := id hP
  obtain ⟨B0, B1, B2, B3, B4, B5⟩ := id P1
  obtain ⟨r1, r2, r3, r4, r5, r6, r7, r8, r9⟩ := id hG
  obtain ⟨v1, v2_, v3, v4, v5, v6⟩ := id r1
  obtain ⟨k1, k2, k3, k4, k5, k6, k7, k8⟩ := id hK.1
  refine j_aload_n X (i := 0) dX9_errorPosition_0 rfl rfl ?_
  refine jFd.get X fd_X9_59 P0 rfl dX9_errorPosition_1 ?_
  cases hr : gE G with
  | none =>
    rw [hr] at r8
    rw [r8]
    refine j_iconst X (v := -1) dX9_errorPosition_4 (by decide) ?_
    refine j_icmp_ne X (tgt := 19) dX9_errorPosition_5 (by decide) (fun q9 => absurd (rfl) q9) (fun _ => ?_)
    exact j_throwNW X thr_NS hok.x324 dX9_errorPosition_8 dX9_errorPosition_11 dX9_errorPosition_12 dX9_errorPosition_15 dX9_errorPosition_18 (fX_mk (n := 0) (v := nI 0) (by unfold a_errorPos; rw [hr]) rfl rfl rfl hG (fun _ _ => rfl))
  | some q =>
    have hq := hK.2.2.2.2.2.2.2.2.1 q hr
    rw [hr] at r8
    rw [r8]
    refine j_iconst X (v := -1) dX9_errorPosition_4 (by decide) ?_
    refine j_icmp_ne X (tgt := 19) dX9_errorPosition_5 (by decide) (fun _ => ?_) (fun q9 => absurd q9 ((show ¬ oN (some q) = -1 from fun z9 => by have h2 := (iN_eq (a := (q : Int)) (b := -1) (by omega) (by omega) (by decide) (by decide)).mp (by rw [iN_nI]; exact z9); omega)))
    refine j_aload_n X (i := 0) dX9_errorPosition_19 rfl rfl ?_
    refine jFd.get X fd_X9_59 P0 rfl dX9_errorPosition_20 ?_
    rw [r8]
    exact j_iret_x X dX9_errorPosition_23 rfl rfl (fP_mk (by unfold a_errorPos; rw [hr]; rfl) hG (fun _ _ => rfl))

theorem f_failedCommand {l : Launch} {g : jG} (hok : jOk g) (hst : l.stackTraces = false) {z : Option Nat} {sk : jS} {t : jT} {kw : Nat → Nat} (hP : isPr g kw sk) {G : GS} (hG : RcG t G) (hK : okG G) : jMetX l g mX9_failedCommand 7 1 6 [.ref (jb g + 0)] z sk t (fP (a_failed G) z sk t) (fX ["java/util/NoSuchElementException"] (a_failed G) sk t) := by
  refine j_bodyX (lv := [some (.ref (jb g + 0))]) i_X9_failedCommand hok hst (fun p e s m args below meth c X => ?_)
  obtain ⟨P0, P1, P2, P3, P4, P5, P6, P7, P8⟩ := id hP
  obtain ⟨B0, B1, B2, B3, B4, B5⟩ := id P1
  obtain ⟨r1, r2, r3, r4, r5, r6, r7, r8, r9⟩ := id hG
  obtain ⟨v1, v2_, v3, v4, v5, v6⟩ := id r1
  obtain ⟨k1, k2, k3, k4, k5, k6, k7, k8⟩ := id hK.1
  refine j_aload_n X (i := 0) dX9_failedCommand_0 rfl rfl ?_
  refine jFd.get X fd_X9_62 P0 rfl dX9_failedCommand_1 ?_
  cases hr : gF G with
  | none =>
    rw [hr] at r9
    rw [r9]
    refine j_iconst X (v := -1) dX9_failedCommand_4 (by decide) ?_
    refine j_icmp_ne X (tgt := 19) dX9_failedCommand_5 (by decide) (fun q9 => absurd (rfl) q9) (fun _ => ?_)
    exact j_throwNW X thr_NS hok.x326 dX9_failedCommand_8 dX9_failedCommand_11 dX9_failedCommand_12 dX9_failedCommand_15 dX9_failedCommand_18 (fX_mk (n := 0) (v := nI 0) (by unfold a_failed; rw [hr]) rfl rfl rfl hG (fun _ _ => rfl))
  | some q =>
    have hq := hK.2.2.2.2.2.2.2.2.2 q hr
    rw [hr] at r9
    rw [r9]
    refine j_iconst X (v := -1) dX9_failedCommand_4 (by decide) ?_
    refine j_icmp_ne X (tgt := 19) dX9_failedCommand_5 (by decide) (fun _ => ?_) (fun q9 => absurd q9 ((show ¬ oN (some q) = -1 from fun z9 => by have h2 := (iN_eq (a := (q : Int)) (b := -1) (by omega) (by omega) (by decide) (by decide)).mp (by rw [iN_nI]; exact z9); omega)))
    refine j_aload_n X (i := 0) dX9_failedCommand_19 rfl rfl ?_
    refine jFd.get X fd_X9_62 P0 rfl dX9_failedCommand_20 ?_
    rw [r9]
    exact j_iret_x X dX9_failedCommand_23 rfl rfl (fP_mk (by unfold a_failed; rw [hr]; rfl) hG (fun _ _ => rfl))

