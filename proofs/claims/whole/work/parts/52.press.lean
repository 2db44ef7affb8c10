abbrev jPress (g : jG) : jK := kO 9 [fun _ => .ref (jb g + 1), fun _ => .ref (jb g + 41), fun _ => .ref (jb g + 81), fun _ => .ref (jb g + 443), fun _ => .ref (jb g + 449), fun _ => .ref (jb g + 450), fun _ => .ref (jb g + 452), fun _ => .ref (jb g + 453), .int, .int, .int, .int]
abbrev jInp (g : jG) (kw : Nat → Nat) : jK := kO 4 [fun _ => .ref (jb g + 451), .int, .int, .int, fun x => .ref (kw x.toInt.toNat), .int, .int, .int]
def isFit (sk : jS) (g : jG) : Prop := sk 443 = some (jFit g 443) ∧ sk 444 = some (kA .int 49) ∧ sk 445 = some (kA .int 20) ∧ sk 446 = some (kA .int 20) ∧ sk 447 = some (kA .int 20) ∧ sk 448 = some (kA .int 20)
/-- the places of the press -/
def isPr (g : jG) (kw : Nat → Nat) (sk : jS) : Prop := sk 0 = some (jPress g) ∧ isShop g sk 1 ∧ isShop g sk 41 ∧ isHist g sk ∧ isFit sk g ∧ sk 449 = some jRef ∧ (sk 450 = some (jInp g kw) ∧ sk 451 = some (kA .char 60)) ∧ sk 452 = some (kA .char 16) ∧ sk 453 = some (kA .int 8)
def RcSv (t : jT) : Option SV → Prop
  | none => t 0 11 = nI 0
  | some S => t 0 11 = nI 1 ∧ RcV t 41 S
/-- the press in the memory -/
def RcG (t : jT) (G : GS) : Prop := RcV t 1 (gV G) ∧ RcSv t (gS G) ∧ RcH t (gH G) ∧ RcF t 443 ∧ RcR t 449 (gR G) ∧ (t 450 1 = nI (gT G).1 ∧ ∀ i, i < (gT G).1 → t 451 i = nI ((gT G).2 i)) ∧ (t 0 8 = nI (gO G).1 ∧ ∀ i, i < (gO G).1 → t 452 i = nI ((gO G).2 i)) ∧ t 0 9 = oN (gE G) ∧ t 0 10 = oN (gF G)
theorem RcF.cong {t u : jT} {f : Nat} (h : RcF t f) (e : u f = t f) : RcF u f := by unfold RcF at *; rw [e]; exact h
theorem RcSv.cong {t u : jT} {f : Option SV} (h : RcSv t f) (h0 : u 0 = t 0) (e : ∀ c, 41 ≤ c → c < 81 → u c = t c) : RcSv u f := by
  cases f with
  | none => unfold RcSv at *; rw [h0]; exact h
  | some S => unfold RcSv at *; rw [h0]; exact ⟨h.1, h.2.cong fun c h1 h2 => e c h1 (by omega)⟩
/-- a change of the shop, perhaps of the refusal -/
theorem RcG.op {t u : jT} {G : GS} (h : RcG t G) {V : SV} {f : RF} (hV : RcV u 1 V) (hF : RcF u 443) (hR : RcR u 449 f) (e : ∀ c, (c = 0 ∨ 41 ≤ c) → c ≠ 443 → c ≠ 449 → u c = t c) : RcG u (V, gS G, gH G, f, G.2.2.2.2) := by
  obtain ⟨h1, h2, h3, h4, h5, h6, h7, h8, h9⟩ := h
  exact ⟨hV, h2.cong (e 0 (by omega) (by omega) (by omega)) (fun c a b => e c (by omega) (by omega) (by omega)), h3.cong (fun c a b => e c (by omega) (by omega) (by omega)), hF, hR, ⟨by rw [e 450 (by omega) (by omega) (by omega)]; exact h6.1, fun i hi => by rw [e 451 (by omega) (by omega) (by omega)]; exact h6.2 i hi⟩, ⟨by rw [e 0 (by omega) (by omega) (by omega)]; exact h7.1, fun i hi => by rw [e 452 (by omega) (by omega) (by omega)]; exact h7.2 i hi⟩, by rw [e 0 (by omega) (by omega) (by omega)]; exact h8, by rw [e 0 (by omega) (by omega) (by omega)]; exact h9⟩
/-- a change of what can be undone -/
theorem RcG.hist {t u : jT} {G : GS} (h : RcG t G) {hh : Nat × (Nat → SV)} (hH : RcH u hh) (e : ∀ c, (c < 81 ∨ 443 ≤ c) → u c = t c) : RcG u (gV G, gS G, hh, G.2.2.2) := by
  obtain ⟨h1, h2, h3, h4, h5, h6, h7, h8, h9⟩ := h
  exact ⟨h1.cong (fun c a b => e c (by omega)), h2.cong (e 0 (by omega)) (fun c a b => e c (by omega)), hH, h4.cong (e _ (by omega)), h5.cong (e _ (by omega)), ⟨by rw [e 450 (by omega)]; exact h6.1, fun i hi => by rw [e 451 (by omega)]; exact h6.2 i hi⟩, ⟨by rw [e 0 (by omega)]; exact h7.1, fun i hi => by rw [e 452 (by omega)]; exact h7.2 i hi⟩, by rw [e 0 (by omega)]; exact h8, by rw [e 0 (by omega)]; exact h9⟩
theorem RcG.prep {t u : jT} {G : GS} {o : Nat} (h : RcG t G) (hO : RcHo t o (gH G)) (g1 : RcV u (slH o (gH G).1) (gV G)) (g2 : ∀ c, (c < slH o (gH G).1 ∨ slH o (gH G).1 + 40 ≤ c) → u c = t c) : RcG u G ∧ RcHp u (gH G) (gV G) := by
  have hs := slH_lt o (gH G).1
  have hO2 : RcHo u o (gH G) := by
    obtain ⟨h1, h2, h3, h4, h5⟩ := hO
    refine ⟨by rw [g2 81 (by omega)]; exact h1, by rw [g2 81 (by omega)]; exact h2, h3, h4, fun i hi => (h5 i hi).cong fun c hc1 hc2 => g2 c ?_⟩
    have := slH_ne (o := o) hi h4
    omega
  exact ⟨h.hist (hh := gH G) ⟨o, hO2⟩ (fun c hc => g2 c (by omega)), o, hO2, g1⟩
/-- what a method of the press leaves: its answer, or the exception of the place r.1 -/
def fP (r : AN) (z : Option Nat) (sk : jS) (t : jT) : Option Value → Option Nat → jS → jT → Prop := fun v2 z2 sk2 t2 => r.1 = 0 ∧ v2 = some (.int r.2.1) ∧ z = z2 ∧ sk = sk2 ∧ RcG t2 r.2.2 ∧ ∀ c, 454 ≤ c → t2 c = t c
def fX (ns : List String) (r : AN) (sk : jS) (t : jT) : String → Option Nat → jS → jT → Prop := fun E z2 sk2 t2 => 0 < r.1 ∧ ns[r.1 - 1]? = some E ∧ z2 = none ∧ sk2 = sk ∧ RcG t2 r.2.2 ∧ ∀ c, 454 ≤ c → t2 c = t c
/-- the answers of a change: what it may be, and what a fault is -/
def flt (a b c : Int) (ns : List String) (V : SV) (r : CR) : Prop := -5 ≤ r.1 ∧ r.1 < 2147483648 ∧ (r.1 < 0 → r.2.1 = V ∧ 0 < cod a b c r.1 ∧ ns[cod a b c r.1 - 1]? = flN r.1)
theorem flt_no {a b c k : Int} {ns : List String} {V : SV} {f : RF} (h1 : -5 ≤ k) (h2 : k < 0) (h3 : 0 < cod a b c k) (h4 : ns[cod a b c k - 1]? = flN k) : flt a b c ns V (k, V, f) := ⟨h1, by show k < 2147483648; omega, fun _ => ⟨rfl, h3, h4⟩⟩
theorem flt_yes {a b c k : Int} {ns : List String} {V V2 : SV} {f : RF} (h1 : 0 ≤ k) (h2 : k < 2147483648) : flt a b c ns V (k, V2, f) := ⟨by show -5 ≤ k; omega, h2, fun h => absurd (show k < 0 from h) (by omega)⟩
theorem flt_yn {a b c : Int} (n : Nat) {ns : List String} {V V2 : SV} {f : RF} (h2 : n < 2147483648) : flt a b c ns V ((n : Int), V2, f) := flt_yes (by omega) (by omega)
theorem flN_neg {k : Int} {E : String} (h : flN k = some E) : k < 0 := by
  unfold flN at h
  by_cases q : k < 0
  · exact q
  · rw [if_neg (by omega), if_neg (by omega), if_neg (by omega), if_neg (by omega), if_neg (by omega)] at h
    cases h
theorem ch_fP {a b c : Int} {G : GS} {r : CR} {z : Option Nat} {sk : jS} {t t2 : jT} (ha : a < 0) (hb : b < 0) (hc : c < 0) (h0 : 0 ≤ r.1) (hG : RcG t2 (r.2.1, gS G, pushH (gH G) (gV G), r.2.2, G.2.2.2.2)) (hf : ∀ c, 454 ≤ c → t2 c = t c) : fP (a_ch a b c false G r) z sk t (some (.int (iN r.1))) z sk t2 := by
  refine ⟨cod_yes h0 ha hb hc, ?_, rfl, rfl, ?_, hf⟩
  · show some (Value.int (iN r.1)) = some (.int (iN (ansI r.1)))
    rw [ansI_yes h0]
  · show RcG t2 (chX false G r)
    unfold chX
    rw [if_neg (by omega)]
    exact hG
theorem ch_fX {a b c : Int} {ns : List String} {G : GS} {r : CR} {z2 : Option Nat} {sk sk2 : jS} {t u t2 : jT} {E : String} (hl : flt a b c ns (gV G) r) (hp : flN r.1 = some E ∧ z2 = none ∧ sk2 = sk ∧ t2 = u) (hG : RcG u (r.2.1, gS G, gH G, r.2.2, G.2.2.2.2)) (hf : ∀ c, 454 ≤ c → u c = t c) : fX ns (a_ch a b c false G r) sk t E z2 sk2 t2 := by
  obtain ⟨p1, rfl, rfl, rfl⟩ := hp
  have hn := flN_neg p1
  obtain ⟨q1, q2, q3⟩ := hl.2.2 hn
  refine ⟨q2, q3.trans p1, rfl, rfl, ?_, hf⟩
  show RcG t2 (chX false G r)
  unfold chX
  rw [if_pos hn]
  rw [q1] at hG
  exact hG
theorem s_settle {l : Launch} {g : jG} (hok : jOk g) (hst : l.stackTraces = false) {z : Option Nat} {sk : jS} {t : jT} {kw : Nat → Nat} (hP : isPr g kw sk) {f0 : Int} (b1 : -5 ≤ f0) (b2 : f0 < 2147483648) {G : GS} {V : SV} (hG : RcG t G) (hH : RcHp t (gH G) V) : jMetX l g mX9_settle 7 1 6 [.ref (jb g + 0), .int (iN f0)] z sk t (fun v2 z2 sk2 t2 => 0 ≤ f0 ∧ v2 = some (.int (iN f0)) ∧ z = z2 ∧ sk = sk2 ∧ RcG t2 (gV G, gS G, pushH (gH G) V, G.2.2.2) ∧ ∀ c, 454 ≤ c → t2 c = t c) (fun E z2 sk2 t2 => flN f0 = some E ∧ z2 = none ∧ sk2 = sk ∧ t2 = t) := by
  refine j_bodyX (lv := [some (.ref (jb g + 0)), some (.int (iN f0))]) i_X9_settle hok hst (fun p e s m args below meth c X => ?_)
  obtain ⟨P0, P1, P2, P3, P4, P5, P6, P7, P8⟩ := id hP
  refine j_iload_n X (i := 1) dX9_settle_0 rfl rfl ?_
  refine j_callSX_p X (s_throw hok hst b1 b2) i_X9_throwForFault tw_2_209 tw_2_210 dX9_settle_1 (fun v2 z2 sk2 t1 hp => ?_) (fun E z2 sk2 t1 hp => jE_out (d := 0) X (hp))
  obtain ⟨h0, rfl, rfl, rfl, rfl⟩ := hp
  refine j_aload_n X (i := 0) dX9_settle_4 rfl rfl ?_
  refine jFd.get X fd_X9_22 P0 rfl dX9_settle_5 ?_
  refine j_callV_p X (s_hkeep hok hst P3 hH) i_X2_keep tw_3_108 tw_3_109 tw_3_110 P3.1 rfl dX9_settle_8 (fun v2 z2 sk2 t2 hp => ?_) 
  obtain ⟨rfl, rfl, rfl, g1, g2⟩ := hp
  refine j_iload_n X (i := 1) dX9_settle_11 rfl rfl ?_
  exact j_iret_x X dX9_settle_12 rfl rfl ⟨h0, rfl, rfl, rfl, hG.hist g1 (fun c hc => g2 c (by omega)), fun c hc => g2 c (by omega)⟩

theorem flt_addPlate {V : SV} (hk : okV V) {x : Int32} {f : RF} : flt (-2) (-3) (-9) ["java/lang/IllegalArgumentException", "java/lang/IllegalStateException"] V ((vNewPlate V x).1, (vNewPlate V x).2, f) := by
  unfold vNewPlate
  split
  · exact flt_no (k := -2) (by decide) (by decide) (by decide) (by decide)
  · split
    · exact flt_no (k := -3) (by decide) (by decide) (by decide) (by decide)
    · have := hk.1; exact flt_yn (np V) (by omega)
theorem flt_addStar {V : SV} (hk : okV V) {q x y : Int32} {f : RF} : flt (-1) (-2) (-3) ["java/lang/IndexOutOfBoundsException", "java/lang/IllegalArgumentException", "java/lang/IllegalStateException"] V ((vNewStar V q x y).1, (vNewStar V q x y).2, f) := by
  unfold vNewStar
  split
  · exact flt_no (k := -1) (by decide) (by decide) (by decide) (by decide)
  · split
    · exact flt_no (k := -2) (by decide) (by decide) (by decide) (by decide)
    · split
      · exact flt_no (k := -3) (by decide) (by decide) (by decide) (by decide)
      · have := cntB_le (flipS (pAt V q).2.2.2 (cAt x y)); exact flt_yn _ (by omega)
theorem flt_removeStar {V : SV} (hk : okV V) {q x y : Int32} {f : RF} : flt (-1) (-2) (-4) ["java/lang/IndexOutOfBoundsException", "java/lang/IllegalArgumentException", "java/util/NoSuchElementException"] V ((vDropStar V q x y).1, (vDropStar V q x y).2, f) := by
  unfold vDropStar
  split
  · exact flt_no (k := -1) (by decide) (by decide) (by decide) (by decide)
  · split
    · exact flt_no (k := -2) (by decide) (by decide) (by decide) (by decide)
    · split
      · exact flt_no (k := -4) (by decide) (by decide) (by decide) (by decide)
      · have := cntB_le (flipS (pAt V q).2.2.2 (cAt x y)); exact flt_yn _ (by omega)
theorem flt_setShift {V : SV} (hk : okV V) {q x y : Int32} {f : RF} : flt (-1) (-2) (-9) ["java/lang/IndexOutOfBoundsException", "java/lang/IllegalArgumentException"] V ((vShift V q x y).1, (vShift V q x y).2, f) := by
  unfold vShift
  split
  · exact flt_no (k := -1) (by decide) (by decide) (by decide) (by decide)
  · split
    · exact flt_no (k := -2) (by decide) (by decide) (by decide) (by decide)
    · have : besB (pAt V q).2.2.2 x.toInt y.toInt ≤ 128 := fb_ct_le _ _
      exact flt_yn _ (by omega)
theorem flt_fit {V : SV} (hk : okV V) {q o : Int32} {f : RF} : flt (-1) (-2) (-9) ["java/lang/IndexOutOfBoundsException", "java/lang/IllegalArgumentException"] V ((vFit V q o).1, (vFit V q o).2, f) := by
  unfold vFit
  split
  · exact flt_no (k := -1) (by decide) (by decide) (by decide) (by decide)
  · split
    · exact flt_no (k := -2) (by decide) (by decide) (by decide) (by decide)
    · have hb : okF (bstV V q o) := bst_ok (pAt V q).2.2.2 (pAt V o).2.2.2
      have h0 : 0 ≤ (bstV V q o).1 := bst_pos (pAt V q).2.2.2 (pAt V o).2.2.2
      generalize bstV V q o = B at hb h0 ⊢
      have h2 := hb.2.1
      exact flt_yes (k := B.1) h0 (by omega)
theorem flt_addSheet {V : SV} (hk : okV V) {f : RF} : flt (-3) (-9) (-9) ["java/lang/IllegalStateException"] V ((vNewSheet V).1, (vNewSheet V).2, f) := by
  unfold vNewSheet
  split
  · exact flt_no (k := -3) (by decide) (by decide) (by decide) (by decide)
  · have := hk.2.1; exact flt_yn (ns V) (by omega)
theorem flt_print {V : SV} (hk : okV V) {q o : Int32} {f : RF} : flt (-1) (-5) (-9) ["java/lang/IndexOutOfBoundsException", "java/lang/UnsupportedOperationException"] V (vPrint V f q o) := by
  unfold vPrint
  split
  · exact flt_no (k := -1) (by decide) (by decide) (by decide) (by decide)
  · split
    · exact flt_no (k := -5) (by decide) (by decide) (by decide) (by decide)
    · split
      · exact flt_no (k := -5) (by decide) (by decide) (by decide) (by decide)
      · have : besB (pAt V q).2.2.2 (pAt V q).2.1 (pAt V q).2.2.1 ≤ 128 := fb_ct_le _ _
        exact flt_yn _ (by omega)
theorem flt_putInRack {V : SV} (hk : okV V) {o : Int32} {f : RF} : flt (-1) (-3) (-5) ["java/lang/IndexOutOfBoundsException", "java/lang/IllegalStateException", "java/lang/UnsupportedOperationException"] V (vRack V f o) := by
  unfold vRack
  split
  · exact flt_no (k := -1) (by decide) (by decide) (by decide) (by decide)
  · split
    · exact flt_no (k := -3) (by decide) (by decide) (by decide) (by decide)
    · split
      · exact flt_yn _ (by omega)
      · exact flt_no (k := -5) (by decide) (by decide) (by decide) (by decide)
theorem flt_takeOut {V : SV} (hk : okV V) {o : Int32} {f : RF} : flt (-1) (-3) (-9) ["java/lang/IndexOutOfBoundsException", "java/lang/IllegalStateException"] V ((vUnrack V o).1, (vUnrack V o).2, f) := by
  unfold vUnrack
  split
  · exact flt_no (k := -1) (by decide) (by decide) (by decide) (by decide)
  next hq =>
  · split
    · exact flt_no (k := -3) (by decide) (by decide) (by decide) (by decide)
    next h0 =>
    · have h2 := (hk.2.2.2.1 o.toInt.toNat (by have := pIx_lt (b_t hq); have := hk.2.1; omega)).2.2
      have h2 : (sAt V o).1.2.2 < 3 := h2
      exact flt_yes (k := (sAt V o).1.2.2) (by omega) (by omega)
theorem flt_addInk {V : SV} (hk : okV V) {x y : Int32} {f : RF} : flt (-2) (-3) (-9) ["java/lang/IllegalArgumentException", "java/lang/IllegalStateException"] V ((vRefill V x y).1, (vRefill V x y).2, f) := by
  unfold vRefill
  split
  · exact flt_no (k := -2) (by decide) (by decide) (by decide) (by decide)
  · split
    · exact flt_no (k := -3) (by decide) (by decide) (by decide) (by decide)
    · exact flt_yn _ (by omega)
theorem flt_passHours {V : SV} (hk : okV V) {x : Int32} {f : RF} : flt (-2) (-9) (-9) ["java/lang/IllegalArgumentException"] V ((vHours V x).1, (vHours V x).2, f) := by
  unfold vHours
  split
  · exact flt_no (k := -2) (by decide) (by decide) (by decide) (by decide)
  · have := fb_ct_le (drB V x.toInt.toNat) (ns V)
    have := hk.2.1
    exact flt_yn _ (by omega)
theorem f_addPlate {l : Launch} {g : jG} (hok : jOk g) (hst : l.stackTraces = false) {z : Option Nat} {sk : jS} {t : jT} {kw : Nat → Nat} (hP : isPr g kw sk) {G : GS} (hG : RcG t G) (hK : okG G) (x : Int32) : jMetX l g mX9_addPlate 8 1 6 [.ref (jb g + 0), .int x] z sk t (fP (a_addPlate false G x) z sk t) (fX ["java/lang/IllegalArgumentException", "java/lang/IllegalStateException"] (a_addPlate false G x) sk t) := by
  refine j_bodyX (lv := [some (.ref (jb g + 0)), some (.int x)]) i_X9_addPlate hok hst (fun p e s m args below meth c X => ?_)
  obtain ⟨P0, P1, P2, P3, P4, P5, P6, P7, P8⟩ := id hP
  obtain ⟨o1, hO⟩ := hG.2.2.1
  have hs := slH_lt o1 (gH G).1
  refine j_aload_n X (i := 0) dX9_addPlate_0 rfl rfl ?_
  refine jFd.get X fd_X9_22 P0 rfl dX9_addPlate_1 ?_
  refine j_aload_n X (i := 0) dX9_addPlate_4 rfl rfl ?_
  refine jFd.get X fd_X9_12 P0 rfl dX9_addPlate_5 ?_
  refine j_callV_p X (s_prepare hok hst P3 hO P1 hG.1) i_X2_prepare tw_2_189 tw_2_190 tw_2_191 P3.1 rfl dX9_addPlate_8 (fun v2 z2 sk2 t1 hp => ?_) 
  obtain ⟨rfl, rfl, rfl, g1, g2⟩ := hp
  obtain ⟨hG1, hH1⟩ := hG.prep hO g1 g2
  have f1 : ∀ c, 454 ≤ c → t1 c = t c := fun c hc => g2 c (by omega)
  clear g1 g2
  refine j_aload_n X (i := 0) dX9_addPlate_11 rfl rfl ?_
  refine j_aload_n X (i := 0) dX9_addPlate_12 rfl rfl ?_
  refine jFd.get X fd_X9_12 P0 rfl dX9_addPlate_13 ?_
  refine j_iload_n X (i := 1) dX9_addPlate_16 rfl rfl ?_
  refine j_callV_p X (s_newPlate hok hst P1 hG1.1 hK.1 x) i_X8_newPlate tw_2_198 tw_2_199 tw_2_200 P1.1 rfl dX9_addPlate_17 (fun v2 z2 sk2 t2 hp => ?_) 
  obtain ⟨rfl, rfl, rfl, g3, g4⟩ := hp
  have hG2 : RcG t2 ((toC G (vNewPlate (gV G) x)).2.1, gS G, gH G, (toC G (vNewPlate (gV G) x)).2.2, G.2.2.2.2) := hG1.op g3 (hG1.2.2.2.1.cong (g4 _ (by omega))) (hG1.2.2.2.2.1.cong (g4 _ (by omega))) (fun c hc _ _ => g4 c (by omega))
  have hH2 : RcHp t2 (gH G) (gV G) := hH1.cong (fun c a b => (g4 c (by omega)))
  have hl : flt (-2) (-3) (-9) ["java/lang/IllegalArgumentException", "java/lang/IllegalStateException"] (gV G) (toC G (vNewPlate (gV G) x)) := flt_addPlate hK.1
  have f2 : ∀ c, 454 ≤ c → t2 c = t c := fun c hc => (g4 c (by omega)).trans (f1 c hc)
  refine j_callVX_p X (s_settle hok hst hP (f0 := (toC G (vNewPlate (gV G) x)).1) hl.1 hl.2.1 hG2 hH2) i_X9_settle tw_2_205 tw_2_207 tp_5 P0 rfl dX9_addPlate_20 (fun v2 z2 sk2 t3 hp => ?_) (fun E z2 sk2 t3 hp => jE_out (d := 0) X (ch_fX hl hp hG2 f2))
  obtain ⟨h0, rfl, rfl, rfl, g6, g7⟩ := hp
  exact j_iret_x X dX9_addPlate_23 rfl rfl (ch_fP (by decide) (by decide) (by decide) h0 g6 (fun c hc => (g7 c hc).trans (f2 c hc)))

theorem f_addStar {l : Launch} {g : jG} (hok : jOk g) (hst : l.stackTraces = false) {z : Option Nat} {sk : jS} {t : jT} {kw : Nat → Nat} (hP : isPr g kw sk) {G : GS} (hG : RcG t G) (hK : okG G) (q x y : Int32) : jMetX l g mX9_addStar 8 1 6 [.ref (jb g + 0), .int q, .int x, .int y] z sk t (fP (a_addStar false G q x y) z sk t) (fX ["java/lang/IndexOutOfBoundsException", "java/lang/IllegalArgumentException", "java/lang/IllegalStateException"] (a_addStar false G q x y) sk t) := by
  refine j_bodyX (lv := [some (.ref (jb g + 0)), some (.int q), some (.int x), some (.int y)]) i_X9_addStar hok hst (fun p e s m args below meth c X => ?_)
  obtain ⟨P0, P1, P2, P3, P4, P5, P6, P7, P8⟩ := id hP
  obtain ⟨o1, hO⟩ := hG.2.2.1
  have hs := slH_lt o1 (gH G).1
  refine j_aload_n X (i := 0) dX9_addStar_0 rfl rfl ?_
  refine jFd.get X fd_X9_22 P0 rfl dX9_addStar_1 ?_
  refine j_aload_n X (i := 0) dX9_addStar_4 rfl rfl ?_
  refine jFd.get X fd_X9_12 P0 rfl dX9_addStar_5 ?_
  refine j_callV_p X (s_prepare hok hst P3 hO P1 hG.1) i_X2_prepare tw_2_189 tw_2_190 tw_2_191 P3.1 rfl dX9_addStar_8 (fun v2 z2 sk2 t1 hp => ?_) 
  obtain ⟨rfl, rfl, rfl, g1, g2⟩ := hp
  obtain ⟨hG1, hH1⟩ := hG.prep hO g1 g2
  have f1 : ∀ c, 454 ≤ c → t1 c = t c := fun c hc => g2 c (by omega)
  clear g1 g2
  refine j_aload_n X (i := 0) dX9_addStar_11 rfl rfl ?_
  refine j_aload_n X (i := 0) dX9_addStar_12 rfl rfl ?_
  refine jFd.get X fd_X9_12 P0 rfl dX9_addStar_13 ?_
  refine j_iload_n X (i := 1) dX9_addStar_16 rfl rfl ?_
  refine j_iload_n X (i := 2) dX9_addStar_17 rfl rfl ?_
  refine j_iload_n X (i := 3) dX9_addStar_18 rfl rfl ?_
  refine j_callV_p X (s_newStar hok hst P1 hG1.1 hK.1 q x y) i_X8_newStar tw_3_140 tw_3_141 tw_3_142 P1.1 rfl dX9_addStar_19 (fun v2 z2 sk2 t2 hp => ?_) 
  obtain ⟨rfl, rfl, rfl, g3, g4⟩ := hp
  have hG2 : RcG t2 ((toC G (vNewStar (gV G) q x y)).2.1, gS G, gH G, (toC G (vNewStar (gV G) q x y)).2.2, G.2.2.2.2) := hG1.op g3 (hG1.2.2.2.1.cong (g4 _ (by omega))) (hG1.2.2.2.2.1.cong (g4 _ (by omega))) (fun c hc _ _ => g4 c (by omega))
  have hH2 : RcHp t2 (gH G) (gV G) := hH1.cong (fun c a b => (g4 c (by omega)))
  have hl : flt (-1) (-2) (-3) ["java/lang/IndexOutOfBoundsException", "java/lang/IllegalArgumentException", "java/lang/IllegalStateException"] (gV G) (toC G (vNewStar (gV G) q x y)) := flt_addStar hK.1
  have f2 : ∀ c, 454 ≤ c → t2 c = t c := fun c hc => (g4 c (by omega)).trans (f1 c hc)
  refine j_callVX_p X (s_settle hok hst hP (f0 := (toC G (vNewStar (gV G) q x y)).1) hl.1 hl.2.1 hG2 hH2) i_X9_settle tw_2_205 tw_2_207 tp_5 P0 rfl dX9_addStar_22 (fun v2 z2 sk2 t3 hp => ?_) (fun E z2 sk2 t3 hp => jE_out (d := 0) X (ch_fX hl hp hG2 f2))
  obtain ⟨h0, rfl, rfl, rfl, g6, g7⟩ := hp
  exact j_iret_x X dX9_addStar_25 rfl rfl (ch_fP (by decide) (by decide) (by decide) h0 g6 (fun c hc => (g7 c hc).trans (f2 c hc)))

theorem f_removeStar {l : Launch} {g : jG} (hok : jOk g) (hst : l.stackTraces = false) {z : Option Nat} {sk : jS} {t : jT} {kw : Nat → Nat} (hP : isPr g kw sk) {G : GS} (hG : RcG t G) (hK : okG G) (q x y : Int32) : jMetX l g mX9_removeStar 8 1 6 [.ref (jb g + 0), .int q, .int x, .int y] z sk t (fP (a_removeStar false G q x y) z sk t) (fX ["java/lang/IndexOutOfBoundsException", "java/lang/IllegalArgumentException", "java/util/NoSuchElementException"] (a_removeStar false G q x y) sk t) := by
  refine j_bodyX (lv := [some (.ref (jb g + 0)), some (.int q), some (.int x), some (.int y)]) i_X9_removeStar hok hst (fun p e s m args below meth c X => ?_)
  obtain ⟨P0, P1, P2, P3, P4, P5, P6, P7, P8⟩ := id hP
  obtain ⟨o1, hO⟩ := hG.2.2.1
  have hs := slH_lt o1 (gH G).1
  refine j_aload_n X (i := 0) dX9_removeStar_0 rfl rfl ?_
  refine jFd.get X fd_X9_22 P0 rfl dX9_removeStar_1 ?_
  refine j_aload_n X (i := 0) dX9_removeStar_4 rfl rfl ?_
  refine jFd.get X fd_X9_12 P0 rfl dX9_removeStar_5 ?_
  refine j_callV_p X (s_prepare hok hst P3 hO P1 hG.1) i_X2_prepare tw_2_189 tw_2_190 tw_2_191 P3.1 rfl dX9_removeStar_8 (fun v2 z2 sk2 t1 hp => ?_) 
  obtain ⟨rfl, rfl, rfl, g1, g2⟩ := hp
  obtain ⟨hG1, hH1⟩ := hG.prep hO g1 g2
  have f1 : ∀ c, 454 ≤ c → t1 c = t c := fun c hc => g2 c (by omega)
  clear g1 g2
  refine j_aload_n X (i := 0) dX9_removeStar_11 rfl rfl ?_
  refine j_aload_n X (i := 0) dX9_removeStar_12 rfl rfl ?_
  refine jFd.get X fd_X9_12 P0 rfl dX9_removeStar_13 ?_
  refine j_iload_n X (i := 1) dX9_removeStar_16 rfl rfl ?_
  refine j_iload_n X (i := 2) dX9_removeStar_17 rfl rfl ?_
  refine j_iload_n X (i := 3) dX9_removeStar_18 rfl rfl ?_
  refine j_callV_p X (s_dropStar hok hst P1 hG1.1 hK.1 q x y) i_X8_dropStar tw_3_166 tw_3_167 tw_3_168 P1.1 rfl dX9_removeStar_19 (fun v2 z2 sk2 t2 hp => ?_) 
  obtain ⟨rfl, rfl, rfl, g3, g4⟩ := hp
  have hG2 : RcG t2 ((toC G (vDropStar (gV G) q x y)).2.1, gS G, gH G, (toC G (vDropStar (gV G) q x y)).2.2, G.2.2.2.2) := hG1.op g3 (hG1.2.2.2.1.cong (g4 _ (by omega))) (hG1.2.2.2.2.1.cong (g4 _ (by omega))) (fun c hc _ _ => g4 c (by omega))
  have hH2 : RcHp t2 (gH G) (gV G) := hH1.cong (fun c a b => (g4 c (by omega)))
  have hl : flt (-1) (-2) (-4) ["java/lang/IndexOutOfBoundsException", "java/lang/IllegalArgumentException", "java/util/NoSuchElementException"] (gV G) (toC G (vDropStar (gV G) q x y)) := flt_removeStar hK.1
  have f2 : ∀ c, 454 ≤ c → t2 c = t c := fun c hc => (g4 c (by omega)).trans (f1 c hc)
  refine j_callVX_p X (s_settle hok hst hP (f0 := (toC G (vDropStar (gV G) q x y)).1) hl.1 hl.2.1 hG2 hH2) i_X9_settle tw_2_205 tw_2_207 tp_5 P0 rfl dX9_removeStar_22 (fun v2 z2 sk2 t3 hp => ?_) (fun E z2 sk2 t3 hp => jE_out (d := 0) X (ch_fX hl hp hG2 f2))
  obtain ⟨h0, rfl, rfl, rfl, g6, g7⟩ := hp
  exact j_iret_x X dX9_removeStar_25 rfl rfl (ch_fP (by decide) (by decide) (by decide) h0 g6 (fun c hc => (g7 c hc).trans (f2 c hc)))

theorem f_setShift {l : Launch} {g : jG} (hok : jOk g) (hst : l.stackTraces = false) {z : Option Nat} {sk : jS} {t : jT} {kw : Nat → Nat} (hP : isPr g kw sk) {G : GS} (hG : RcG t G) (hK : okG G) (q x y : Int32) : jMetX l g mX9_setShift 8 1 6 [.ref (jb g + 0), .int q, .int x, .int y] z sk t (fP (a_setShift false G q x y) z sk t) (fX ["java/lang/IndexOutOfBoundsException", "java/lang/IllegalArgumentException"] (a_setShift false G q x y) sk t) := by
  refine j_bodyX (lv := [some (.ref (jb g + 0)), some (.int q), some (.int x), some (.int y)]) i_X9_setShift hok hst (fun p e s m args below meth c X => ?_)
  obtain ⟨P0, P1, P2, P3, P4, P5, P6, P7, P8⟩ := id hP
  obtain ⟨o1, hO⟩ := hG.2.2.1
  have hs := slH_lt o1 (gH G).1
  refine j_aload_n X (i := 0) dX9_setShift_0 rfl rfl ?_
  refine jFd.get X fd_X9_22 P0 rfl dX9_setShift_1 ?_
  refine j_aload_n X (i := 0) dX9_setShift_4 rfl rfl ?_
  refine jFd.get X fd_X9_12 P0 rfl dX9_setShift_5 ?_
  refine j_callV_p X (s_prepare hok hst P3 hO P1 hG.1) i_X2_prepare tw_2_189 tw_2_190 tw_2_191 P3.1 rfl dX9_setShift_8 (fun v2 z2 sk2 t1 hp => ?_) 
  obtain ⟨rfl, rfl, rfl, g1, g2⟩ := hp
  obtain ⟨hG1, hH1⟩ := hG.prep hO g1 g2
  have f1 : ∀ c, 454 ≤ c → t1 c = t c := fun c hc => g2 c (by omega)
  clear g1 g2
  refine j_aload_n X (i := 0) dX9_setShift_11 rfl rfl ?_
  refine j_aload_n X (i := 0) dX9_setShift_12 rfl rfl ?_
  refine jFd.get X fd_X9_12 P0 rfl dX9_setShift_13 ?_
  refine j_iload_n X (i := 1) dX9_setShift_16 rfl rfl ?_
  refine j_iload_n X (i := 2) dX9_setShift_17 rfl rfl ?_
  refine j_iload_n X (i := 3) dX9_setShift_18 rfl rfl ?_
  refine j_callV_p X (s_shiftPlate hok hst P1 hG1.1 hK.1 q x y) i_X8_shiftPlate tw_3_177 tw_3_178 tw_3_179 P1.1 rfl dX9_setShift_19 (fun v2 z2 sk2 t2 hp => ?_) 
  obtain ⟨rfl, rfl, rfl, g3, g4⟩ := hp
  have hG2 : RcG t2 ((toC G (vShift (gV G) q x y)).2.1, gS G, gH G, (toC G (vShift (gV G) q x y)).2.2, G.2.2.2.2) := hG1.op g3 (hG1.2.2.2.1.cong (g4 _ (by omega))) (hG1.2.2.2.2.1.cong (g4 _ (by omega))) (fun c hc _ _ => g4 c (by omega))
  have hH2 : RcHp t2 (gH G) (gV G) := hH1.cong (fun c a b => (g4 c (by omega)))
  have hl : flt (-1) (-2) (-9) ["java/lang/IndexOutOfBoundsException", "java/lang/IllegalArgumentException"] (gV G) (toC G (vShift (gV G) q x y)) := flt_setShift hK.1
  have f2 : ∀ c, 454 ≤ c → t2 c = t c := fun c hc => (g4 c (by omega)).trans (f1 c hc)
  refine j_callVX_p X (s_settle hok hst hP (f0 := (toC G (vShift (gV G) q x y)).1) hl.1 hl.2.1 hG2 hH2) i_X9_settle tw_2_205 tw_2_207 tp_5 P0 rfl dX9_setShift_22 (fun v2 z2 sk2 t3 hp => ?_) (fun E z2 sk2 t3 hp => jE_out (d := 0) X (ch_fX hl hp hG2 f2))
  obtain ⟨h0, rfl, rfl, rfl, g6, g7⟩ := hp
  exact j_iret_x X dX9_setShift_25 rfl rfl (ch_fP (by decide) (by decide) (by decide) h0 g6 (fun c hc => (g7 c hc).trans (f2 c hc)))

theorem f_fit {l : Launch} {g : jG} (hok : jOk g) (hst : l.stackTraces = false) {z : Option Nat} {sk : jS} {t : jT} {kw : Nat → Nat} (hP : isPr g kw sk) {G : GS} (hG : RcG t G) (hK : okG G) (q o : Int32) : jMetX l g mX9_fit 8 1 6 [.ref (jb g + 0), .int q, .int o] z sk t (fP (a_fit false G q o) z sk t) (fX ["java/lang/IndexOutOfBoundsException", "java/lang/IllegalArgumentException"] (a_fit false G q o) sk t) := by
  refine j_bodyX (lv := [some (.ref (jb g + 0)), some (.int q), some (.int o)]) i_X9_fit hok hst (fun p e s m args below meth c X => ?_)
  obtain ⟨P0, P1, P2, P3, P4, P5, P6, P7, P8⟩ := id hP
  obtain ⟨o1, hO⟩ := hG.2.2.1
  have hs := slH_lt o1 (gH G).1
  refine j_aload_n X (i := 0) dX9_fit_0 rfl rfl ?_
  refine jFd.get X fd_X9_22 P0 rfl dX9_fit_1 ?_
  refine j_aload_n X (i := 0) dX9_fit_4 rfl rfl ?_
  refine jFd.get X fd_X9_12 P0 rfl dX9_fit_5 ?_
  refine j_callV_p X (s_prepare hok hst P3 hO P1 hG.1) i_X2_prepare tw_2_189 tw_2_190 tw_2_191 P3.1 rfl dX9_fit_8 (fun v2 z2 sk2 t1 hp => ?_) 
  obtain ⟨rfl, rfl, rfl, g1, g2⟩ := hp
  obtain ⟨hG1, hH1⟩ := hG.prep hO g1 g2
  have f1 : ∀ c, 454 ≤ c → t1 c = t c := fun c hc => g2 c (by omega)
  clear g1 g2
  refine j_aload_n X (i := 0) dX9_fit_11 rfl rfl ?_
  refine j_aload_n X (i := 0) dX9_fit_12 rfl rfl ?_
  refine jFd.get X fd_X9_12 P0 rfl dX9_fit_13 ?_
  refine j_iload_n X (i := 1) dX9_fit_16 rfl rfl ?_
  refine j_iload_n X (i := 2) dX9_fit_17 rfl rfl ?_
  refine j_aload_n X (i := 0) dX9_fit_18 rfl rfl ?_
  refine jFd.get X fd_X9_29 P0 rfl dX9_fit_19 ?_
  refine j_callV_p X (s_fitPlate hok hst P1 hG1.1 hK.1 P4.1 (by omega) hG1.2.2.2.1 q o) i_X8_fitPlate tw_3_194 tw_3_195 tw_3_196 P1.1 rfl dX9_fit_22 (fun v2 z2 sk2 t2 hp => ?_) 
  obtain ⟨rfl, rfl, rfl, g3, g4, g5⟩ := hp
  have hG2 : RcG t2 ((toC G (vFit (gV G) q o)).2.1, gS G, gH G, (toC G (vFit (gV G) q o)).2.2, G.2.2.2.2) := hG1.op g3 g5 (hG1.2.2.2.2.1.cong (g4 _ (by omega) (by omega))) (fun c hc h1 _ => g4 c (by omega) h1)
  have hH2 : RcHp t2 (gH G) (gV G) := hH1.cong (fun c a b => (g4 c (by omega) (by omega)))
  have hl : flt (-1) (-2) (-9) ["java/lang/IndexOutOfBoundsException", "java/lang/IllegalArgumentException"] (gV G) (toC G (vFit (gV G) q o)) := flt_fit hK.1
  have f2 : ∀ c, 454 ≤ c → t2 c = t c := fun c hc => (g4 c (by omega) (by omega)).trans (f1 c hc)
  refine j_callVX_p X (s_settle hok hst hP (f0 := (toC G (vFit (gV G) q o)).1) hl.1 hl.2.1 hG2 hH2) i_X9_settle tw_2_205 tw_2_207 tp_5 P0 rfl dX9_fit_25 (fun v2 z2 sk2 t3 hp => ?_) (fun E z2 sk2 t3 hp => jE_out (d := 0) X (ch_fX hl hp hG2 f2))
  obtain ⟨h0, rfl, rfl, rfl, g6, g7⟩ := hp
  exact j_iret_x X dX9_fit_28 rfl rfl (ch_fP (by decide) (by decide) (by decide) h0 g6 (fun c hc => (g7 c hc).trans (f2 c hc)))

theorem f_addSheet {l : Launch} {g : jG} (hok : jOk g) (hst : l.stackTraces = false) {z : Option Nat} {sk : jS} {t : jT} {kw : Nat → Nat} (hP : isPr g kw sk) {G : GS} (hG : RcG t G) (hK : okG G) : jMetX l g mX9_addSheet 8 1 6 [.ref (jb g + 0)] z sk t (fP (a_addSheet false G) z sk t) (fX ["java/lang/IllegalStateException"] (a_addSheet false G) sk t) := by
  refine j_bodyX (lv := [some (.ref (jb g + 0))]) i_X9_addSheet hok hst (fun p e s m args below meth c X => ?_)
  obtain ⟨P0, P1, P2, P3, P4, P5, P6, P7, P8⟩ := id hP
  obtain ⟨o1, hO⟩ := hG.2.2.1
  have hs := slH_lt o1 (gH G).1
  refine j_aload_n X (i := 0) dX9_addSheet_0 rfl rfl ?_
  refine jFd.get X fd_X9_22 P0 rfl dX9_addSheet_1 ?_
  refine j_aload_n X (i := 0) dX9_addSheet_4 rfl rfl ?_
  refine jFd.get X fd_X9_12 P0 rfl dX9_addSheet_5 ?_
  refine j_callV_p X (s_prepare hok hst P3 hO P1 hG.1) i_X2_prepare tw_2_189 tw_2_190 tw_2_191 P3.1 rfl dX9_addSheet_8 (fun v2 z2 sk2 t1 hp => ?_) 
  obtain ⟨rfl, rfl, rfl, g1, g2⟩ := hp
  obtain ⟨hG1, hH1⟩ := hG.prep hO g1 g2
  have f1 : ∀ c, 454 ≤ c → t1 c = t c := fun c hc => g2 c (by omega)
  clear g1 g2
  refine j_aload_n X (i := 0) dX9_addSheet_11 rfl rfl ?_
  refine j_aload_n X (i := 0) dX9_addSheet_12 rfl rfl ?_
  refine jFd.get X fd_X9_12 P0 rfl dX9_addSheet_13 ?_
  refine j_callV_p X (s_newSheet hok hst P1 hG1.1 hK.1 ) i_X8_newSheet tw_4_52 tw_4_53 tw_4_54 P1.1 rfl dX9_addSheet_16 (fun v2 z2 sk2 t2 hp => ?_) 
  obtain ⟨rfl, rfl, rfl, g3, g4⟩ := hp
  have hG2 : RcG t2 ((toC G (vNewSheet (gV G))).2.1, gS G, gH G, (toC G (vNewSheet (gV G))).2.2, G.2.2.2.2) := hG1.op g3 (hG1.2.2.2.1.cong (g4 _ (by omega))) (hG1.2.2.2.2.1.cong (g4 _ (by omega))) (fun c hc _ _ => g4 c (by omega))
  have hH2 : RcHp t2 (gH G) (gV G) := hH1.cong (fun c a b => (g4 c (by omega)))
  have hl : flt (-3) (-9) (-9) ["java/lang/IllegalStateException"] (gV G) (toC G (vNewSheet (gV G))) := flt_addSheet hK.1
  have f2 : ∀ c, 454 ≤ c → t2 c = t c := fun c hc => (g4 c (by omega)).trans (f1 c hc)
  refine j_callVX_p X (s_settle hok hst hP (f0 := (toC G (vNewSheet (gV G))).1) hl.1 hl.2.1 hG2 hH2) i_X9_settle tw_2_205 tw_2_207 tp_5 P0 rfl dX9_addSheet_19 (fun v2 z2 sk2 t3 hp => ?_) (fun E z2 sk2 t3 hp => jE_out (d := 0) X (ch_fX hl hp hG2 f2))
  obtain ⟨h0, rfl, rfl, rfl, g6, g7⟩ := hp
  exact j_iret_x X dX9_addSheet_22 rfl rfl (ch_fP (by decide) (by decide) (by decide) h0 g6 (fun c hc => (g7 c hc).trans (f2 c hc)))

theorem f_print {l : Launch} {g : jG} (hok : jOk g) (hst : l.stackTraces = false) {z : Option Nat} {sk : jS} {t : jT} {kw : Nat → Nat} (hP : isPr g kw sk) {G : GS} (hG : RcG t G) (hK : okG G) (q o : Int32) : jMetX l g mX9_print 8 1 6 [.ref (jb g + 0), .int q, .int o] z sk t (fP (a_print false G q o) z sk t) (fX ["java/lang/IndexOutOfBoundsException", "java/lang/UnsupportedOperationException"] (a_print false G q o) sk t) := by
  refine j_bodyX (lv := [some (.ref (jb g + 0)), some (.int q), some (.int o)]) i_X9_print hok hst (fun p e s m args below meth c X => ?_)
  obtain ⟨P0, P1, P2, P3, P4, P5, P6, P7, P8⟩ := id hP
  obtain ⟨o1, hO⟩ := hG.2.2.1
  have hs := slH_lt o1 (gH G).1
  refine j_aload_n X (i := 0) dX9_print_0 rfl rfl ?_
  refine jFd.get X fd_X9_22 P0 rfl dX9_print_1 ?_
  refine j_aload_n X (i := 0) dX9_print_4 rfl rfl ?_
  refine jFd.get X fd_X9_12 P0 rfl dX9_print_5 ?_
  refine j_callV_p X (s_prepare hok hst P3 hO P1 hG.1) i_X2_prepare tw_2_189 tw_2_190 tw_2_191 P3.1 rfl dX9_print_8 (fun v2 z2 sk2 t1 hp => ?_) 
  obtain ⟨rfl, rfl, rfl, g1, g2⟩ := hp
  obtain ⟨hG1, hH1⟩ := hG.prep hO g1 g2
  have f1 : ∀ c, 454 ≤ c → t1 c = t c := fun c hc => g2 c (by omega)
  clear g1 g2
  refine j_aload_n X (i := 0) dX9_print_11 rfl rfl ?_
  refine j_aload_n X (i := 0) dX9_print_12 rfl rfl ?_
  refine jFd.get X fd_X9_12 P0 rfl dX9_print_13 ?_
  refine j_iload_n X (i := 1) dX9_print_16 rfl rfl ?_
  refine j_iload_n X (i := 2) dX9_print_17 rfl rfl ?_
  refine j_aload_n X (i := 0) dX9_print_18 rfl rfl ?_
  refine jFd.get X fd_X9_36 P0 rfl dX9_print_19 ?_
  refine j_callV_p X (s_printPlate hok hst P1 hG1.1 hK.1 P5 (by omega) hG1.2.2.2.2.1 q o) i_X8_printPlate tw_4_64 tw_4_65 tw_4_66 P1.1 rfl dX9_print_22 (fun v2 z2 sk2 t2 hp => ?_) 
  obtain ⟨rfl, rfl, rfl, g3, g5, g4⟩ := hp
  have hG2 : RcG t2 ((vPrint (gV G) (gR G) q o).2.1, gS G, gH G, (vPrint (gV G) (gR G) q o).2.2, G.2.2.2.2) := hG1.op g3 (hG1.2.2.2.1.cong (g4 _ (by omega) (by omega))) g5 (fun c hc _ h1 => g4 c (by omega) h1)
  have hH2 : RcHp t2 (gH G) (gV G) := hH1.cong (fun c a b => (g4 c (by omega) (by omega)))
  have hl : flt (-1) (-5) (-9) ["java/lang/IndexOutOfBoundsException", "java/lang/UnsupportedOperationException"] (gV G) (vPrint (gV G) (gR G) q o) := flt_print hK.1
  have f2 : ∀ c, 454 ≤ c → t2 c = t c := fun c hc => (g4 c (by omega) (by omega)).trans (f1 c hc)
  refine j_callVX_p X (s_settle hok hst hP (f0 := (vPrint (gV G) (gR G) q o).1) hl.1 hl.2.1 hG2 hH2) i_X9_settle tw_2_205 tw_2_207 tp_5 P0 rfl dX9_print_25 (fun v2 z2 sk2 t3 hp => ?_) (fun E z2 sk2 t3 hp => jE_out (d := 0) X (ch_fX hl hp hG2 f2))
  obtain ⟨h0, rfl, rfl, rfl, g6, g7⟩ := hp
  exact j_iret_x X dX9_print_28 rfl rfl (ch_fP (by decide) (by decide) (by decide) h0 g6 (fun c hc => (g7 c hc).trans (f2 c hc)))

theorem f_putInRack {l : Launch} {g : jG} (hok : jOk g) (hst : l.stackTraces = false) {z : Option Nat} {sk : jS} {t : jT} {kw : Nat → Nat} (hP : isPr g kw sk) {G : GS} (hG : RcG t G) (hK : okG G) (o : Int32) : jMetX l g mX9_putInRack 8 1 6 [.ref (jb g + 0), .int o] z sk t (fP (a_putInRack false G o) z sk t) (fX ["java/lang/IndexOutOfBoundsException", "java/lang/IllegalStateException", "java/lang/UnsupportedOperationException"] (a_putInRack false G o) sk t) := by
  refine j_bodyX (lv := [some (.ref (jb g + 0)), some (.int o)]) i_X9_putInRack hok hst (fun p e s m args below meth c X => ?_)
  obtain ⟨P0, P1, P2, P3, P4, P5, P6, P7, P8⟩ := id hP
  obtain ⟨o1, hO⟩ := hG.2.2.1
  have hs := slH_lt o1 (gH G).1
  refine j_aload_n X (i := 0) dX9_putInRack_0 rfl rfl ?_
  refine jFd.get X fd_X9_22 P0 rfl dX9_putInRack_1 ?_
  refine j_aload_n X (i := 0) dX9_putInRack_4 rfl rfl ?_
  refine jFd.get X fd_X9_12 P0 rfl dX9_putInRack_5 ?_
  refine j_callV_p X (s_prepare hok hst P3 hO P1 hG.1) i_X2_prepare tw_2_189 tw_2_190 tw_2_191 P3.1 rfl dX9_putInRack_8 (fun v2 z2 sk2 t1 hp => ?_) 
  obtain ⟨rfl, rfl, rfl, g1, g2⟩ := hp
  obtain ⟨hG1, hH1⟩ := hG.prep hO g1 g2
  have f1 : ∀ c, 454 ≤ c → t1 c = t c := fun c hc => g2 c (by omega)
  clear g1 g2
  refine j_aload_n X (i := 0) dX9_putInRack_11 rfl rfl ?_
  refine j_aload_n X (i := 0) dX9_putInRack_12 rfl rfl ?_
  refine jFd.get X fd_X9_12 P0 rfl dX9_putInRack_13 ?_
  refine j_iload_n X (i := 1) dX9_putInRack_16 rfl rfl ?_
  refine j_aload_n X (i := 0) dX9_putInRack_17 rfl rfl ?_
  refine jFd.get X fd_X9_36 P0 rfl dX9_putInRack_18 ?_
  refine j_callV_p X (s_rackSheet hok hst P1 hG1.1 hK.1 P5 (by omega) hG1.2.2.2.2.1 o) i_X8_rackSheet tw_4_182 tw_4_183 tw_4_184 P1.1 rfl dX9_putInRack_21 (fun v2 z2 sk2 t2 hp => ?_) 
  obtain ⟨rfl, rfl, rfl, g3, g5, g4⟩ := hp
  have hG2 : RcG t2 ((vRack (gV G) (gR G) o).2.1, gS G, gH G, (vRack (gV G) (gR G) o).2.2, G.2.2.2.2) := hG1.op g3 (hG1.2.2.2.1.cong (g4 _ (by omega) (by omega))) g5 (fun c hc _ h1 => g4 c (by omega) h1)
  have hH2 : RcHp t2 (gH G) (gV G) := hH1.cong (fun c a b => (g4 c (by omega) (by omega)))
  have hl : flt (-1) (-3) (-5) ["java/lang/IndexOutOfBoundsException", "java/lang/IllegalStateException", "java/lang/UnsupportedOperationException"] (gV G) (vRack (gV G) (gR G) o) := flt_putInRack hK.1
  have f2 : ∀ c, 454 ≤ c → t2 c = t c := fun c hc => (g4 c (by omega) (by omega)).trans (f1 c hc)
  refine j_callVX_p X (s_settle hok hst hP (f0 := (vRack (gV G) (gR G) o).1) hl.1 hl.2.1 hG2 hH2) i_X9_settle tw_2_205 tw_2_207 tp_5 P0 rfl dX9_putInRack_24 (fun v2 z2 sk2 t3 hp => ?_) (fun E z2 sk2 t3 hp => jE_out (d := 0) X (ch_fX hl hp hG2 f2))
  obtain ⟨h0, rfl, rfl, rfl, g6, g7⟩ := hp
  exact j_iret_x X dX9_putInRack_27 rfl rfl (ch_fP (by decide) (by decide) (by decide) h0 g6 (fun c hc => (g7 c hc).trans (f2 c hc)))

theorem f_takeOut {l : Launch} {g : jG} (hok : jOk g) (hst : l.stackTraces = false) {z : Option Nat} {sk : jS} {t : jT} {kw : Nat → Nat} (hP : isPr g kw sk) {G : GS} (hG : RcG t G) (hK : okG G) (o : Int32) : jMetX l g mX9_takeOut 8 1 6 [.ref (jb g + 0), .int o] z sk t (fP (a_takeOut false G o) z sk t) (fX ["java/lang/IndexOutOfBoundsException", "java/lang/IllegalStateException"] (a_takeOut false G o) sk t) := by
  refine j_bodyX (lv := [some (.ref (jb g + 0)), some (.int o)]) i_X9_takeOut hok hst (fun p e s m args below meth c X => ?_)
  obtain ⟨P0, P1, P2, P3, P4, P5, P6, P7, P8⟩ := id hP
  obtain ⟨o1, hO⟩ := hG.2.2.1
  have hs := slH_lt o1 (gH G).1
  refine j_aload_n X (i := 0) dX9_takeOut_0 rfl rfl ?_
  refine jFd.get X fd_X9_22 P0 rfl dX9_takeOut_1 ?_
  refine j_aload_n X (i := 0) dX9_takeOut_4 rfl rfl ?_
  refine jFd.get X fd_X9_12 P0 rfl dX9_takeOut_5 ?_
  refine j_callV_p X (s_prepare hok hst P3 hO P1 hG.1) i_X2_prepare tw_2_189 tw_2_190 tw_2_191 P3.1 rfl dX9_takeOut_8 (fun v2 z2 sk2 t1 hp => ?_) 
  obtain ⟨rfl, rfl, rfl, g1, g2⟩ := hp
  obtain ⟨hG1, hH1⟩ := hG.prep hO g1 g2
  have f1 : ∀ c, 454 ≤ c → t1 c = t c := fun c hc => g2 c (by omega)
  clear g1 g2
  refine j_aload_n X (i := 0) dX9_takeOut_11 rfl rfl ?_
  refine j_aload_n X (i := 0) dX9_takeOut_12 rfl rfl ?_
  refine jFd.get X fd_X9_12 P0 rfl dX9_takeOut_13 ?_
  refine j_iload_n X (i := 1) dX9_takeOut_16 rfl rfl ?_
  refine j_callV_p X (s_unrackSheet hok hst P1 hG1.1 hK.1 o) i_X8_unrackSheet tw_4_197 tw_4_198 tw_4_199 P1.1 rfl dX9_takeOut_17 (fun v2 z2 sk2 t2 hp => ?_) 
  obtain ⟨rfl, rfl, rfl, g3, g4⟩ := hp
  have hG2 : RcG t2 ((toC G (vUnrack (gV G) o)).2.1, gS G, gH G, (toC G (vUnrack (gV G) o)).2.2, G.2.2.2.2) := hG1.op g3 (hG1.2.2.2.1.cong (g4 _ (by omega))) (hG1.2.2.2.2.1.cong (g4 _ (by omega))) (fun c hc _ _ => g4 c (by omega))
  have hH2 : RcHp t2 (gH G) (gV G) := hH1.cong (fun c a b => (g4 c (by omega)))
  have hl : flt (-1) (-3) (-9) ["java/lang/IndexOutOfBoundsException", "java/lang/IllegalStateException"] (gV G) (toC G (vUnrack (gV G) o)) := flt_takeOut hK.1
  have f2 : ∀ c, 454 ≤ c → t2 c = t c := fun c hc => (g4 c (by omega)).trans (f1 c hc)
  refine j_callVX_p X (s_settle hok hst hP (f0 := (toC G (vUnrack (gV G) o)).1) hl.1 hl.2.1 hG2 hH2) i_X9_settle tw_2_205 tw_2_207 tp_5 P0 rfl dX9_takeOut_20 (fun v2 z2 sk2 t3 hp => ?_) (fun E z2 sk2 t3 hp => jE_out (d := 0) X (ch_fX hl hp hG2 f2))
  obtain ⟨h0, rfl, rfl, rfl, g6, g7⟩ := hp
  exact j_iret_x X dX9_takeOut_23 rfl rfl (ch_fP (by decide) (by decide) (by decide) h0 g6 (fun c hc => (g7 c hc).trans (f2 c hc)))

theorem f_addInk {l : Launch} {g : jG} (hok : jOk g) (hst : l.stackTraces = false) {z : Option Nat} {sk : jS} {t : jT} {kw : Nat → Nat} (hP : isPr g kw sk) {G : GS} (hG : RcG t G) (hK : okG G) (x y : Int32) : jMetX l g mX9_addInk 8 1 6 [.ref (jb g + 0), .int x, .int y] z sk t (fP (a_addInk false G x y) z sk t) (fX ["java/lang/IllegalArgumentException", "java/lang/IllegalStateException"] (a_addInk false G x y) sk t) := by
  refine j_bodyX (lv := [some (.ref (jb g + 0)), some (.int x), some (.int y)]) i_X9_addInk hok hst (fun p e s m args below meth c X => ?_)
  obtain ⟨P0, P1, P2, P3, P4, P5, P6, P7, P8⟩ := id hP
  obtain ⟨o1, hO⟩ := hG.2.2.1
  have hs := slH_lt o1 (gH G).1
  refine j_aload_n X (i := 0) dX9_addInk_0 rfl rfl ?_
  refine jFd.get X fd_X9_22 P0 rfl dX9_addInk_1 ?_
  refine j_aload_n X (i := 0) dX9_addInk_4 rfl rfl ?_
  refine jFd.get X fd_X9_12 P0 rfl dX9_addInk_5 ?_
  refine j_callV_p X (s_prepare hok hst P3 hO P1 hG.1) i_X2_prepare tw_2_189 tw_2_190 tw_2_191 P3.1 rfl dX9_addInk_8 (fun v2 z2 sk2 t1 hp => ?_) 
  obtain ⟨rfl, rfl, rfl, g1, g2⟩ := hp
  obtain ⟨hG1, hH1⟩ := hG.prep hO g1 g2
  have f1 : ∀ c, 454 ≤ c → t1 c = t c := fun c hc => g2 c (by omega)
  clear g1 g2
  refine j_aload_n X (i := 0) dX9_addInk_11 rfl rfl ?_
  refine j_aload_n X (i := 0) dX9_addInk_12 rfl rfl ?_
  refine jFd.get X fd_X9_12 P0 rfl dX9_addInk_13 ?_
  refine j_iload_n X (i := 1) dX9_addInk_16 rfl rfl ?_
  refine j_iload_n X (i := 2) dX9_addInk_17 rfl rfl ?_
  refine j_callV_p X (s_refill hok hst P1 hG1.1 hK.1 x y) i_X8_refill tw_4_227 tw_4_228 tw_4_229 P1.1 rfl dX9_addInk_18 (fun v2 z2 sk2 t2 hp => ?_) 
  obtain ⟨rfl, rfl, rfl, g3, g4⟩ := hp
  have hG2 : RcG t2 ((toC G (vRefill (gV G) x y)).2.1, gS G, gH G, (toC G (vRefill (gV G) x y)).2.2, G.2.2.2.2) := hG1.op g3 (hG1.2.2.2.1.cong (g4 _ (by omega))) (hG1.2.2.2.2.1.cong (g4 _ (by omega))) (fun c hc _ _ => g4 c (by omega))
  have hH2 : RcHp t2 (gH G) (gV G) := hH1.cong (fun c a b => (g4 c (by omega)))
  have hl : flt (-2) (-3) (-9) ["java/lang/IllegalArgumentException", "java/lang/IllegalStateException"] (gV G) (toC G (vRefill (gV G) x y)) := flt_addInk hK.1
  have f2 : ∀ c, 454 ≤ c → t2 c = t c := fun c hc => (g4 c (by omega)).trans (f1 c hc)
  refine j_callVX_p X (s_settle hok hst hP (f0 := (toC G (vRefill (gV G) x y)).1) hl.1 hl.2.1 hG2 hH2) i_X9_settle tw_2_205 tw_2_207 tp_5 P0 rfl dX9_addInk_21 (fun v2 z2 sk2 t3 hp => ?_) (fun E z2 sk2 t3 hp => jE_out (d := 0) X (ch_fX hl hp hG2 f2))
  obtain ⟨h0, rfl, rfl, rfl, g6, g7⟩ := hp
  exact j_iret_x X dX9_addInk_24 rfl rfl (ch_fP (by decide) (by decide) (by decide) h0 g6 (fun c hc => (g7 c hc).trans (f2 c hc)))

theorem f_passHours {l : Launch} {g : jG} (hok : jOk g) (hst : l.stackTraces = false) {z : Option Nat} {sk : jS} {t : jT} {kw : Nat → Nat} (hP : isPr g kw sk) {G : GS} (hG : RcG t G) (hK : okG G) (x : Int32) : jMetX l g mX9_passHours 8 1 6 [.ref (jb g + 0), .int x] z sk t (fP (a_passHours false G x) z sk t) (fX ["java/lang/IllegalArgumentException"] (a_passHours false G x) sk t) := by
  refine j_bodyX (lv := [some (.ref (jb g + 0)), some (.int x)]) i_X9_passHours hok hst (fun p e s m args below meth c X => ?_)
  obtain ⟨P0, P1, P2, P3, P4, P5, P6, P7, P8⟩ := id hP
  obtain ⟨o1, hO⟩ := hG.2.2.1
  have hs := slH_lt o1 (gH G).1
  refine j_aload_n X (i := 0) dX9_passHours_0 rfl rfl ?_
  refine jFd.get X fd_X9_22 P0 rfl dX9_passHours_1 ?_
  refine j_aload_n X (i := 0) dX9_passHours_4 rfl rfl ?_
  refine jFd.get X fd_X9_12 P0 rfl dX9_passHours_5 ?_
  refine j_callV_p X (s_prepare hok hst P3 hO P1 hG.1) i_X2_prepare tw_2_189 tw_2_190 tw_2_191 P3.1 rfl dX9_passHours_8 (fun v2 z2 sk2 t1 hp => ?_) 
  obtain ⟨rfl, rfl, rfl, g1, g2⟩ := hp
  obtain ⟨hG1, hH1⟩ := hG.prep hO g1 g2
  have f1 : ∀ c, 454 ≤ c → t1 c = t c := fun c hc => g2 c (by omega)
  clear g1 g2
  refine j_aload_n X (i := 0) dX9_passHours_11 rfl rfl ?_
  refine j_aload_n X (i := 0) dX9_passHours_12 rfl rfl ?_
  refine jFd.get X fd_X9_12 P0 rfl dX9_passHours_13 ?_
  refine j_iload_n X (i := 1) dX9_passHours_16 rfl rfl ?_
  refine j_callV_p X (s_letHoursPass hok hst P1 hG1.1 hK.1 x) i_X8_letHoursPass tw_5_8 tw_5_9 tw_5_10 P1.1 rfl dX9_passHours_17 (fun v2 z2 sk2 t2 hp => ?_) 
  obtain ⟨rfl, rfl, rfl, g3, g4⟩ := hp
  have hG2 : RcG t2 ((toC G (vHours (gV G) x)).2.1, gS G, gH G, (toC G (vHours (gV G) x)).2.2, G.2.2.2.2) := hG1.op g3 (hG1.2.2.2.1.cong (g4 _ (by omega))) (hG1.2.2.2.2.1.cong (g4 _ (by omega))) (fun c hc _ _ => g4 c (by omega))
  have hH2 : RcHp t2 (gH G) (gV G) := hH1.cong (fun c a b => (g4 c (by omega)))
  have hl : flt (-2) (-9) (-9) ["java/lang/IllegalArgumentException"] (gV G) (toC G (vHours (gV G) x)) := flt_passHours hK.1
  have f2 : ∀ c, 454 ≤ c → t2 c = t c := fun c hc => (g4 c (by omega)).trans (f1 c hc)
  refine j_callVX_p X (s_settle hok hst hP (f0 := (toC G (vHours (gV G) x)).1) hl.1 hl.2.1 hG2 hH2) i_X9_settle tw_2_205 tw_2_207 tp_5 P0 rfl dX9_passHours_20 (fun v2 z2 sk2 t3 hp => ?_) (fun E z2 sk2 t3 hp => jE_out (d := 0) X (ch_fX hl hp hG2 f2))
  obtain ⟨h0, rfl, rfl, rfl, g6, g7⟩ := hp
  exact j_iret_x X dX9_passHours_23 rfl rfl (ch_fP (by decide) (by decide) (by decide) h0 g6 (fun c hc => (g7 c hc).trans (f2 c hc)))

