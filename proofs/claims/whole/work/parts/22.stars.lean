theorem okP.bd {p : PV} (h : okP p) : p.1 / 2 < 3 ∧ p.1 < 8 := by
  rcases h.1 with e | e | e <;> rw [e] <;> decide
theorem pAt_nI {V : SV} {k : Nat} (h : (nI k).toInt.toNat = k) : pAt V (nI k) = pl V k := by unfold pAt; rw [h]
theorem sAt_nI {V : SV} {k : Nat} (h : (nI k).toInt.toNat = k) : sAt V (nI k) = sh V k := by unfold sAt; rw [h]
theorem cAt_nI {a d : Nat} (h1 : (nI a).toInt.toNat = a) (h2 : (nI d).toInt.toNat = d) : cAt (nI a) (nI d) = 16 * d + a := by unfold cAt; rw [h1, h2]
theorem cntB_le (S : Nat → Bool) : cntB S ≤ 128 := fb_ct_le _ _
theorem flip_mem {t : jT} {b : Nat} {V : SV} (hV : RcV t b V) {k a d : Nat} (hk : k < 6) (ha : a < 16) (hd : d < 8) : RcV (jU t ((b + 4 + 2 * k) + 1) d (nI (rN (fun x2 => (pl V k).2.2.2 (16 * d + x2) ^^ decide (x2 = a))))) b (upP V k (ptS (pl V k) (flipS (pl V k).2.2.2 (16 * d + a)))) := by
  obtain ⟨p1, p2, p3, p4⟩ := hV.2.2.2.2.1 k hk
  refine hV.upP hk ⟨?_, ?_, ?_, Rows_flip p4 ha hd⟩ (fun c _ _ _ h => jU_ne _ _ _ h)
  · rw [jU_ne _ _ _ (by omega)]; exact p1
  · rw [jU_ne _ _ _ (by omega)]; exact p2
  · rw [jU_ne _ _ _ (by omega)]; exact p3
theorem s_newStar {l : Launch} {g : jG} (hok : jOk g) (hst : l.stackTraces = false) {z : Option Nat} {sk : jS} {t : jT} {b : Nat} {V : SV} (hB : isShop g sk b) (hV : RcV t b V) (hk : okV V) (q x y : Int32) : jMet l g mX8_newStar 3 0 0 [.ref (jb g + b), .int q, .int x, .int y] z sk t (fun v2 z2 sk2 t2 => v2 = some (.int (iN (vNewStar V q x y).1)) ∧ z = z2 ∧ sk = sk2 ∧ RcV t2 b (vNewStar V q x y).2 ∧ (∀ c, (c < b ∨ b + 40 ≤ c) → t2 c = t c)) := by
  refine j_body (lv := [some (.ref (jb g + b)), some (.int q), some (.int x), some (.int y), none]) i_X8_newStar hok hst (fun p e s m args below meth c X => ?_)
  obtain ⟨B1, B2, B3, B4, B5, B6⟩ := id hB
  obtain ⟨v1, v2, v3, v4, v5, v6⟩ := id hV
  obtain ⟨k1, k2, k3, k4, k5, k6, k7, k8⟩ := id hk
  refine j_aload_n X (i := 0) dX8_newStar_0 rfl rfl ?_
  refine j_iload_n X (i := 1) dX8_newStar_1 rfl rfl ?_
  refine j_callV X (s_isPlate hok hst q B1 v1 (by omega)) i_X8_isPlate tw_3_144 tw_3_145 tw_3_146 B1 rfl dX8_newStar_2 ?_ 
  cases hq : pIx (np V) q with
  | false =>
    have ev : vNewStar V q x y = (-1, V) := by unfold vNewStar; rw [if_pos hq]
    refine j_if_ne X (tgt := 10) dX8_newStar_5 (by decide) (fun q9 => absurd (rfl) q9) (fun _ => ?_)
    refine j_iconst X (v := -1) dX8_newStar_8 (by decide) ?_
    exact j_iret X dX8_newStar_9 rfl rfl ⟨by rw [ev]; rfl, rfl, rfl, by rw [ev]; exact hV, fun _ _ => rfl⟩
  | true =>
    refine j_if_ne X (tgt := 10) dX8_newStar_5 (by decide) (fun _ => ?_) (fun q9 => absurd q9 (by decide))
    refine j_iload_n X (i := 2) dX8_newStar_10 rfl rfl ?_
    refine j_iload_n X (i := 3) dX8_newStar_11 rfl rfl ?_
    refine j_callSN X (s_isPlace hok hst x y) i_X9_isPlace tw_3_148 tw_2_68 dX8_newStar_12 ?_ 
    cases hp : isPl x y with
    | false =>
      have ev : vNewStar V q x y = (-2, V) := by unfold vNewStar; rw [if_neg (by rw [hq]; decide), if_pos hp]
      refine j_if_ne X (tgt := 21) dX8_newStar_15 (by decide) (fun q9 => absurd (rfl) q9) (fun _ => ?_)
      refine j_bipush X (v := -2) dX8_newStar_18 (by decide) ?_
      exact j_iret X dX8_newStar_20 rfl rfl ⟨by rw [ev]; rfl, rfl, rfl, by rw [ev]; exact hV, fun _ _ => rfl⟩
    | true =>
      obtain ⟨k, hk1, rfl, hkn⟩ := pIx_of (by omega) hq
      obtain ⟨a, d, ha, hd, rfl, rfl, han, hdn⟩ := isPl_of hp
      have hk6 : k < 6 := by omega
      have P5 := B5 k hk6
      obtain ⟨p1, p2, p3, p4⟩ := id (v5 k hk6)
      have ev0 : vNewStar V (nI k) (nI a) (nI d) = if (pl V k).2.2.2 (16 * d + a) = true ∨ 20 ≤ cntB (pl V k).2.2.2 then (-3, V) else ((cntB (flipS (pl V k).2.2.2 (16 * d + a)) : Int), upP V k (ptS (pl V k) (flipS (pl V k).2.2.2 (16 * d + a)))) := by
        unfold vNewStar
        rw [if_neg (by rw [hq]; decide), if_neg (by rw [hp]; decide), pAt_nI hkn, cAt_nI han hdn, hkn]
      refine j_if_ne X (tgt := 21) dX8_newStar_15 (by decide) (fun _ => ?_) (fun q9 => absurd q9 (by decide))
      refine j_aload_n X (i := 0) dX8_newStar_21 rfl rfl ?_
      refine jFd.get X fd_X8_11 B1 rfl dX8_newStar_22 ?_
      refine j_iload_n X (i := 1) dX8_newStar_25 rfl rfl ?_
      refine j_aald X B2 (by decide) rfl hk6 (by decide) rfl dX8_newStar_26 ?_
      refine j_astore X (i := 4) dX8_newStar_27 (by decide) rfl ?_
      refine j_aload X (i := 4) dX8_newStar_29 rfl ?_
      refine j_iload_n X (i := 2) dX8_newStar_31 rfl rfl ?_
      refine j_iload_n X (i := 3) dX8_newStar_32 rfl rfl ?_
      refine j_callV X (s_isStarAt hok hst P5.1 P5.2 p4 ha hd) i_X5_isStarAt tw_3_149 tw_2_98 tw_2_99 P5.1 rfl dX8_newStar_33 ?_ 
      have bad : ((pl V k).2.2.2 (16 * d + a) = true ∨ 20 ≤ cntB (pl V k).2.2.2) → J p l e (jR 3 0 0) s m args below meth c (jQm below args s g 0 0 (fun v2 z2 sk2 t2 => v2 = some (.int (iN (vNewStar V (nI k) (nI a) (nI d)).1)) ∧ z = z2 ∧ sk = sk2 ∧ RcV t2 b (vNewStar V (nI k) (nI a) (nI d)).2 ∧ (∀ c, (c < b ∨ b + 40 ≤ c) → t2 c = t c))) 5 g 0 0 z sk t 49 [some (.ref (jb g + b)), some (.int (nI k)), some (.int (nI a)), some (.int (nI d)), some (.ref (jb g + (b + 4 + 2 * k)))] [] := fun hb => by
        have ev := ev0
        rw [if_pos hb] at ev
        refine j_bipush X (v := -3) dX8_newStar_49 (by decide) ?_
        exact j_iret X dX8_newStar_51 rfl rfl ⟨by rw [ev]; rfl, rfl, rfl, by rw [ev]; exact hV, fun _ _ => rfl⟩
      cases hs : (pl V k).2.2.2 (16 * d + a) with
      | true =>
        refine j_if_ne X (tgt := 49) dX8_newStar_36 (by decide) (fun _ => ?_) (fun q9 => absurd q9 (by decide))
        exact bad (Or.inl hs)
      | false =>
        refine j_if_ne X (tgt := 49) dX8_newStar_36 (by decide) (fun q9 => absurd (rfl) q9) (fun _ => ?_)
        refine j_aload X (i := 4) dX8_newStar_39 rfl ?_
        refine j_callV X (s_countStars hok hst P5.1 P5.2 p4) i_X5_countStars tw_3_150 tw_3_151 tw_3_152 P5.1 rfl dX8_newStar_41 ?_ 
        refine j_bipush X (v := (nI 20)) dX8_newStar_44 (by decide) ?_
        have hcl := cntB_le (pl V k).2.2.2
        by_cases h20 : 20 ≤ cntB (pl V k).2.2.2
        · refine j_icmp_lt X (tgt := 52) dX8_newStar_46 (by decide) (fun q9 => absurd q9 (nI_nlt h20 (by omega))) (fun _ => ?_)
          exact bad (Or.inr h20)
        · have ev := ev0
          rw [if_neg (by rw [hs]; exact fun z => z.elim (by decide) h20)] at ev
          refine j_icmp_lt X (tgt := 52) dX8_newStar_46 (by decide) (fun _ => ?_) (fun q9 => absurd (nI_lt (by omega) (by decide)) q9)
          refine j_aload X (i := 4) dX8_newStar_52 rfl ?_
          refine j_iload_n X (i := 2) dX8_newStar_54 rfl rfl ?_
          refine j_iload_n X (i := 3) dX8_newStar_55 rfl rfl ?_
          refine j_callV X (s_turnStar hok hst P5.1 P5.2 p4 ha hd) i_X5_turnStar tw_3_154 tw_3_155 tw_3_156 P5.1 rfl dX8_newStar_56 ?_ 
          refine j_aload X (i := 4) dX8_newStar_59 rfl ?_
          refine j_callV X (s_countStars hok hst P5.1 P5.2 (Rows_flip p4 ha hd)) i_X5_countStars tw_3_150 tw_3_151 tw_3_152 P5.1 rfl dX8_newStar_61 ?_ 
          exact j_iret X dX8_newStar_64 rfl rfl ⟨by rw [ev]; exact congrArg (fun w => some (Value.int w)) (iN_nI _).symm, rfl, rfl, by rw [ev]; exact flip_mem hV hk6 ha hd, fun c hc => jU_ne _ _ _ (by omega)⟩

theorem s_dropStar {l : Launch} {g : jG} (hok : jOk g) (hst : l.stackTraces = false) {z : Option Nat} {sk : jS} {t : jT} {b : Nat} {V : SV} (hB : isShop g sk b) (hV : RcV t b V) (hk : okV V) (q x y : Int32) : jMet l g mX8_dropStar 3 0 0 [.ref (jb g + b), .int q, .int x, .int y] z sk t (fun v2 z2 sk2 t2 => v2 = some (.int (iN (vDropStar V q x y).1)) ∧ z = z2 ∧ sk = sk2 ∧ RcV t2 b (vDropStar V q x y).2 ∧ (∀ c, (c < b ∨ b + 40 ≤ c) → t2 c = t c)) := by
  refine j_body (lv := [some (.ref (jb g + b)), some (.int q), some (.int x), some (.int y), none]) i_X8_dropStar hok hst (fun p e s m args below meth c X => ?_)
  obtain ⟨B1, B2, B3, B4, B5, B6⟩ := id hB
  obtain ⟨v1, v2, v3, v4, v5, v6⟩ := id hV
  obtain ⟨k1, k2, k3, k4, k5, k6, k7, k8⟩ := id hk
  refine j_aload_n X (i := 0) dX8_dropStar_0 rfl rfl ?_
  refine j_iload_n X (i := 1) dX8_dropStar_1 rfl rfl ?_
  refine j_callV X (s_isPlate hok hst q B1 v1 (by omega)) i_X8_isPlate tw_3_144 tw_3_145 tw_3_146 B1 rfl dX8_dropStar_2 ?_ 
  cases hq : pIx (np V) q with
  | false =>
    have ev : vDropStar V q x y = (-1, V) := by unfold vDropStar; rw [if_pos hq]
    refine j_if_ne X (tgt := 10) dX8_dropStar_5 (by decide) (fun q9 => absurd (rfl) q9) (fun _ => ?_)
    refine j_iconst X (v := -1) dX8_dropStar_8 (by decide) ?_
    exact j_iret X dX8_dropStar_9 rfl rfl ⟨by rw [ev]; rfl, rfl, rfl, by rw [ev]; exact hV, fun _ _ => rfl⟩
  | true =>
    refine j_if_ne X (tgt := 10) dX8_dropStar_5 (by decide) (fun _ => ?_) (fun q9 => absurd q9 (by decide))
    refine j_iload_n X (i := 2) dX8_dropStar_10 rfl rfl ?_
    refine j_iload_n X (i := 3) dX8_dropStar_11 rfl rfl ?_
    refine j_callSN X (s_isPlace hok hst x y) i_X9_isPlace tw_3_148 tw_2_68 dX8_dropStar_12 ?_ 
    cases hp : isPl x y with
    | false =>
      have ev : vDropStar V q x y = (-2, V) := by unfold vDropStar; rw [if_neg (by rw [hq]; decide), if_pos hp]
      refine j_if_ne X (tgt := 21) dX8_dropStar_15 (by decide) (fun q9 => absurd (rfl) q9) (fun _ => ?_)
      refine j_bipush X (v := -2) dX8_dropStar_18 (by decide) ?_
      exact j_iret X dX8_dropStar_20 rfl rfl ⟨by rw [ev]; rfl, rfl, rfl, by rw [ev]; exact hV, fun _ _ => rfl⟩
    | true =>
      obtain ⟨k, hk1, rfl, hkn⟩ := pIx_of (by omega) hq
      obtain ⟨a, d, ha, hd, rfl, rfl, han, hdn⟩ := isPl_of hp
      have hk6 : k < 6 := by omega
      have P5 := B5 k hk6
      obtain ⟨p1, p2, p3, p4⟩ := id (v5 k hk6)
      have ev0 : vDropStar V (nI k) (nI a) (nI d) = if (pl V k).2.2.2 (16 * d + a) = false then (-4, V) else ((cntB (flipS (pl V k).2.2.2 (16 * d + a)) : Int), upP V k (ptS (pl V k) (flipS (pl V k).2.2.2 (16 * d + a)))) := by
        unfold vDropStar
        rw [if_neg (by rw [hq]; decide), if_neg (by rw [hp]; decide), pAt_nI hkn, cAt_nI han hdn, hkn]
      refine j_if_ne X (tgt := 21) dX8_dropStar_15 (by decide) (fun _ => ?_) (fun q9 => absurd q9 (by decide))
      refine j_aload_n X (i := 0) dX8_dropStar_21 rfl rfl ?_
      refine jFd.get X fd_X8_11 B1 rfl dX8_dropStar_22 ?_
      refine j_iload_n X (i := 1) dX8_dropStar_25 rfl rfl ?_
      refine j_aald X B2 (by decide) rfl hk6 (by decide) rfl dX8_dropStar_26 ?_
      refine j_astore X (i := 4) dX8_dropStar_27 (by decide) rfl ?_
      refine j_aload X (i := 4) dX8_dropStar_29 rfl ?_
      refine j_iload_n X (i := 2) dX8_dropStar_31 rfl rfl ?_
      refine j_iload_n X (i := 3) dX8_dropStar_32 rfl rfl ?_
      refine j_callV X (s_isStarAt hok hst P5.1 P5.2 p4 ha hd) i_X5_isStarAt tw_3_149 tw_2_98 tw_2_99 P5.1 rfl dX8_dropStar_33 ?_ 
      cases hs : (pl V k).2.2.2 (16 * d + a) with
      | false =>
        have ev := ev0
        rw [if_pos hs] at ev
        refine j_if_ne X (tgt := 42) dX8_dropStar_36 (by decide) (fun q9 => absurd (rfl) q9) (fun _ => ?_)
        refine j_bipush X (v := -4) dX8_dropStar_39 (by decide) ?_
        exact j_iret X dX8_dropStar_41 rfl rfl ⟨by rw [ev]; rfl, rfl, rfl, by rw [ev]; exact hV, fun _ _ => rfl⟩
      | true =>
        have ev := ev0
        rw [if_neg (by rw [hs]; decide)] at ev
        refine j_if_ne X (tgt := 42) dX8_dropStar_36 (by decide) (fun _ => ?_) (fun q9 => absurd q9 (by decide))
        refine j_aload X (i := 4) dX8_dropStar_42 rfl ?_
        refine j_iload_n X (i := 2) dX8_dropStar_44 rfl rfl ?_
        refine j_iload_n X (i := 3) dX8_dropStar_45 rfl rfl ?_
        refine j_callV X (s_turnStar hok hst P5.1 P5.2 p4 ha hd) i_X5_turnStar tw_3_154 tw_3_155 tw_3_156 P5.1 rfl dX8_dropStar_46 ?_ 
        refine j_aload X (i := 4) dX8_dropStar_49 rfl ?_
        refine j_callV X (s_countStars hok hst P5.1 P5.2 (Rows_flip p4 ha hd)) i_X5_countStars tw_3_150 tw_3_151 tw_3_152 P5.1 rfl dX8_dropStar_51 ?_ 
        exact j_iret X dX8_dropStar_54 rfl rfl ⟨by rw [ev]; exact congrArg (fun w => some (Value.int w)) (iN_nI _).symm, rfl, rfl, by rw [ev]; exact flip_mem hV hk6 ha hd, fun c hc => jU_ne _ _ _ (by omega)⟩

theorem isSh_of {x y : Int32} (h : isSh x y = true) : -3 ≤ x.toInt ∧ x.toInt ≤ 3 ∧ -3 ≤ y.toInt ∧ y.toInt ≤ 3 := of_decide_eq_true h
theorem shift_mem {t : jT} {b : Nat} {V : SV} (hV : RcV t b V) {k : Nat} (hk : k < 6) (dx dy : Int) : RcV (jU (jU t ((b + 4 + 2 * k)) 2 (iN dx)) ((b + 4 + 2 * k)) 3 (iN dy)) b (upP V k (ptD (pl V k) dx dy)) := by
  obtain ⟨p1, p2, p3, p4⟩ := hV.2.2.2.2.1 k hk
  refine hV.upP hk ⟨?_, ?_, ?_, ?_⟩ (fun c _ _ h _ => by rw [jU_ne _ _ _ h, jU_ne _ _ _ h])
  · rw [jU_eq, jU_eq]; exact p1
  · rw [jU_eq, jU_eq]; rfl
  · rw [jU_eq]; rfl
  · rw [jU_ne _ _ _ (by omega), jU_ne _ _ _ (by omega)]; exact p4
theorem s_shiftPlate {l : Launch} {g : jG} (hok : jOk g) (hst : l.stackTraces = false) {z : Option Nat} {sk : jS} {t : jT} {b : Nat} {V : SV} (hB : isShop g sk b) (hV : RcV t b V) (hk : okV V) (q x y : Int32) : jMet l g mX8_shiftPlate 4 0 0 [.ref (jb g + b), .int q, .int x, .int y] z sk t (fun v2 z2 sk2 t2 => v2 = some (.int (iN (vShift V q x y).1)) ∧ z = z2 ∧ sk = sk2 ∧ RcV t2 b (vShift V q x y).2 ∧ (∀ c, (c < b ∨ b + 40 ≤ c) → t2 c = t c)) := by
  refine j_body (lv := [some (.ref (jb g + b)), some (.int q), some (.int x), some (.int y)]) i_X8_shiftPlate hok hst (fun p e s m args below meth c X => ?_)
  obtain ⟨B1, B2, B3, B4, B5, B6⟩ := id hB
  obtain ⟨v1, v2, v3, v4, v5, v6⟩ := id hV
  obtain ⟨k1, k2, k3, k4, k5, k6, k7, k8⟩ := id hk
  refine j_aload_n X (i := 0) dX8_shiftPlate_0 rfl rfl ?_
  refine j_iload_n X (i := 1) dX8_shiftPlate_1 rfl rfl ?_
  refine j_callV X (s_isPlate hok hst q B1 v1 (by omega)) i_X8_isPlate tw_3_144 tw_3_145 tw_3_146 B1 rfl dX8_shiftPlate_2 ?_ 
  cases hq : pIx (np V) q with
  | false =>
    have ev : vShift V q x y = (-1, V) := by unfold vShift; rw [if_pos hq]
    refine j_if_ne X (tgt := 10) dX8_shiftPlate_5 (by decide) (fun q9 => absurd (rfl) q9) (fun _ => ?_)
    refine j_iconst X (v := -1) dX8_shiftPlate_8 (by decide) ?_
    exact j_iret X dX8_shiftPlate_9 rfl rfl ⟨by rw [ev]; rfl, rfl, rfl, by rw [ev]; exact hV, fun _ _ => rfl⟩
  | true =>
    refine j_if_ne X (tgt := 10) dX8_shiftPlate_5 (by decide) (fun _ => ?_) (fun q9 => absurd q9 (by decide))
    refine j_iload_n X (i := 2) dX8_shiftPlate_10 rfl rfl ?_
    refine j_iload_n X (i := 3) dX8_shiftPlate_11 rfl rfl ?_
    refine j_callSN X (s_isShift hok hst x y) i_X9_isShift tw_3_181 tw_2_106 dX8_shiftPlate_12 ?_ 
    cases hp : isSh x y with
    | false =>
      have ev : vShift V q x y = (-2, V) := by unfold vShift; rw [if_neg (by rw [hq]; decide), if_pos hp]
      refine j_if_ne X (tgt := 21) dX8_shiftPlate_15 (by decide) (fun q9 => absurd (rfl) q9) (fun _ => ?_)
      refine j_bipush X (v := -2) dX8_shiftPlate_18 (by decide) ?_
      exact j_iret X dX8_shiftPlate_20 rfl rfl ⟨by rw [ev]; rfl, rfl, rfl, by rw [ev]; exact hV, fun _ _ => rfl⟩
    | true =>
      obtain ⟨k, hk1, rfl, hkn⟩ := pIx_of (by omega) hq
      obtain ⟨d1, d2, d3, d4⟩ := isSh_of hp
      have hk6 : k < 6 := by omega
      have P5 := B5 k hk6
      have ev : vShift V (nI k) x y = ((besB (pl V k).2.2.2 x.toInt y.toInt : Int), upP V k (ptD (pl V k) x.toInt y.toInt)) := by
        unfold vShift
        rw [if_neg (by rw [hq]; decide), if_neg (by rw [hp]; decide), pAt_nI hkn, hkn]
      have hm := shift_mem hV hk6 x.toInt y.toInt
      have hf : ∀ c, (c < b ∨ b + 40 ≤ c) → jU (jU t ((b + 4 + 2 * k)) 2 (iN x.toInt)) ((b + 4 + 2 * k)) 3 (iN y.toInt) c = t c := fun c hc => by rw [jU_ne _ _ _ (by omega), jU_ne _ _ _ (by omega)]
      rw [iN_toInt_self, iN_toInt_self] at hm hf
      have e2 : jU (jU t ((b + 4 + 2 * k)) 2 x) ((b + 4 + 2 * k)) 3 y ((b + 4 + 2 * k)) 2 = iN x.toInt := by rw [jU_eq, jU_eq, iN_toInt_self]; rfl
      have e3 : jU (jU t ((b + 4 + 2 * k)) 2 x) ((b + 4 + 2 * k)) 3 y ((b + 4 + 2 * k)) 3 = iN y.toInt := by rw [jU_eq, iN_toInt_self]; rfl
      have hS : Rows (jU (jU t ((b + 4 + 2 * k)) 2 x) ((b + 4 + 2 * k)) 3 y ((b + 4 + 2 * k) + 1)) (pl V k).2.2.2 := by rw [jU_ne _ _ _ (by omega), jU_ne _ _ _ (by omega)]; exact (v5 k hk6).2.2.2
      refine j_if_ne X (tgt := 21) dX8_shiftPlate_15 (by decide) (fun _ => ?_) (fun q9 => absurd q9 (by decide))
      refine j_aload_n X (i := 0) dX8_shiftPlate_21 rfl rfl ?_
      refine jFd.get X fd_X8_11 B1 rfl dX8_shiftPlate_22 ?_
      refine j_iload_n X (i := 1) dX8_shiftPlate_25 rfl rfl ?_
      refine j_aald X B2 (by decide) rfl hk6 (by decide) rfl dX8_shiftPlate_26 ?_
      refine j_iload_n X (i := 2) dX8_shiftPlate_27 rfl rfl ?_
      refine jFd.put X fd_X8_86 P5.1 rfl rfl rfl rfl dX8_shiftPlate_28 ?_
      refine j_aload_n X (i := 0) dX8_shiftPlate_31 rfl rfl ?_
      refine jFd.get X fd_X8_11 B1 rfl dX8_shiftPlate_32 ?_
      refine j_iload_n X (i := 1) dX8_shiftPlate_35 rfl rfl ?_
      refine j_aald X B2 (by decide) rfl hk6 (by decide) rfl dX8_shiftPlate_36 ?_
      refine j_iload_n X (i := 3) dX8_shiftPlate_37 rfl rfl ?_
      refine jFd.put X fd_X8_89 P5.1 rfl rfl rfl rfl dX8_shiftPlate_38 ?_
      refine j_aload_n X (i := 0) dX8_shiftPlate_41 rfl rfl ?_
      refine jFd.get X fd_X8_11 B1 rfl dX8_shiftPlate_42 ?_
      refine j_iload_n X (i := 1) dX8_shiftPlate_45 rfl rfl ?_
      refine j_aald X B2 (by decide) rfl hk6 (by decide) rfl dX8_shiftPlate_46 ?_
      refine j_callV X (s_countBeside hok hst P5.1 P5.2 hS e2 e3 d1 d2 d3 d4) i_X5_countBeside tw_3_182 tw_3_183 tw_3_184 P5.1 rfl dX8_shiftPlate_47 ?_ 
      exact j_iret X dX8_shiftPlate_50 rfl rfl ⟨by rw [ev]; exact congrArg (fun w => some (Value.int w)) (iN_nI _).symm, rfl, rfl, by rw [ev]; exact hm, hf⟩

/-- the fitting in the memory: its best shift is one -/
def RcF (t : jT) (f : Nat) : Prop := ∃ x y : Int, t f 6 = iN x ∧ t f 7 = iN y ∧ -3 ≤ x ∧ x ≤ 3 ∧ -3 ≤ y ∧ y ≤ 3
theorem RcF_fit3 (t : jT) (f : Nat) (S U : Nat → Bool) : RcF (fit3 t f (bst S U)) f := by
  obtain ⟨h1, h2, h3, h4, h5, h6⟩ := bst_ok S U
  refine ⟨(bst S U).2.1, (bst S U).2.2, ?_, ?_, h3, h4, h5, h6⟩
  · unfold fit3; rw [jUf_eq]; rfl
  · unfold fit3; rw [jUf_eq]; rfl
theorem s_fitPlate {l : Launch} {g : jG} (hok : jOk g) (hst : l.stackTraces = false) {z : Option Nat} {sk : jS} {t : jT} {b : Nat} {V : SV} (hB : isShop g sk b) (hV : RcV t b V) (hk : okV V) {f : Nat} (hF : sk f = some (jFit g f)) (hf : f < b ∨ b + 40 ≤ f) (hRF : RcF t f) (q o : Int32) : jMet l g mX8_fitPlate 5 0 0 [.ref (jb g + b), .int q, .int o, .ref (jb g + f)] z sk t (fun v2 z2 sk2 t2 => v2 = some (.int (iN (vFit V q o).1)) ∧ z = z2 ∧ sk = sk2 ∧ RcV t2 b (vFit V q o).2 ∧ (∀ c, (c < b ∨ b + 40 ≤ c) → c ≠ f → t2 c = t c) ∧ RcF t2 f) := by
  refine j_body (lv := [some (.ref (jb g + b)), some (.int q), some (.int o), some (.ref (jb g + f))]) i_X8_fitPlate hok hst (fun p e s m args below meth c X => ?_)
  obtain ⟨B1, B2, B3, B4, B5, B6⟩ := id hB
  obtain ⟨v1, v2, v3, v4, v5, v6⟩ := id hV
  obtain ⟨k1, k2, k3, k4, k5, k6, k7, k8⟩ := id hk
  have no : (pIx (np V) q = false ∨ pIx (np V) o = false) → J p l e (jR 5 0 0) s m args below meth c (jQm below args s g 0 0 (fun v2 z2 sk2 t2 => v2 = some (.int (iN (vFit V q o).1)) ∧ z = z2 ∧ sk = sk2 ∧ RcV t2 b (vFit V q o).2 ∧ (∀ c, (c < b ∨ b + 40 ≤ c) → c ≠ f → t2 c = t c) ∧ RcF t2 f)) 4 g 0 0 z sk t 16 [some (.ref (jb g + b)), some (.int q), some (.int o), some (.ref (jb g + f))] [] := fun hn => by
    have ev : vFit V q o = (-1, V) := by unfold vFit; rw [if_pos hn]
    refine j_iconst X (v := -1) dX8_fitPlate_16 (by decide) ?_
    exact j_iret X dX8_fitPlate_17 rfl rfl ⟨by rw [ev]; rfl, rfl, rfl, by rw [ev]; exact hV, fun _ _ _ => rfl, hRF⟩
  refine j_aload_n X (i := 0) dX8_fitPlate_0 rfl rfl ?_
  refine j_iload_n X (i := 1) dX8_fitPlate_1 rfl rfl ?_
  refine j_callV X (s_isPlate hok hst q B1 v1 (by omega)) i_X8_isPlate tw_3_144 tw_3_145 tw_3_146 B1 rfl dX8_fitPlate_2 ?_ 
  cases hq : pIx (np V) q with
  | false =>
    refine j_if_eq X (tgt := 16) dX8_fitPlate_5 (by decide) (fun _ => ?_) (fun q9 => absurd (rfl) q9)
    exact no (Or.inl hq)
  | true =>
    refine j_if_eq X (tgt := 16) dX8_fitPlate_5 (by decide) (fun q9 => absurd q9 (by decide)) (fun _ => ?_)
    refine j_aload_n X (i := 0) dX8_fitPlate_8 rfl rfl ?_
    refine j_iload_n X (i := 2) dX8_fitPlate_9 rfl rfl ?_
    refine j_callV X (s_isPlate hok hst o B1 v1 (by omega)) i_X8_isPlate tw_3_144 tw_3_145 tw_3_146 B1 rfl dX8_fitPlate_10 ?_ 
    cases ho : pIx (np V) o with
    | false =>
      refine j_if_ne X (tgt := 18) dX8_fitPlate_13 (by decide) (fun q9 => absurd (rfl) q9) (fun _ => ?_)
      exact no (Or.inr ho)
    | true =>
      refine j_if_ne X (tgt := 18) dX8_fitPlate_13 (by decide) (fun _ => ?_) (fun q9 => absurd q9 (by decide))
      refine j_iload_n X (i := 1) dX8_fitPlate_18 rfl rfl ?_
      refine j_iload_n X (i := 2) dX8_fitPlate_19 rfl rfl ?_
      by_cases he : q = o
      · have ev : vFit V q o = (-2, V) := by unfold vFit; rw [if_neg (by rw [hq, ho]; decide), if_pos he]
        refine j_icmp_ne X (tgt := 26) dX8_fitPlate_20 (by decide) (fun q9 => absurd (he) q9) (fun _ => ?_)
        refine j_bipush X (v := -2) dX8_fitPlate_23 (by decide) ?_
        exact j_iret X dX8_fitPlate_25 rfl rfl ⟨by rw [ev]; rfl, rfl, rfl, by rw [ev]; exact hV, fun _ _ _ => rfl, hRF⟩
      · have ev0 : vFit V q o = ((bstV V q o).1, upP V q.toInt.toNat (ptD (pAt V q) (bstV V q o).2.1 (bstV V q o).2.2)) := by unfold vFit; rw [if_neg (by rw [hq, ho]; decide), if_neg he]
        obtain ⟨k, hk1, rfl, hkn⟩ := pIx_of (by omega) hq
        obtain ⟨j, hj1, rfl, hjn⟩ := pIx_of (by omega) ho
        have hk6 : k < 6 := by omega
        have hj6 : j < 6 := by omega
        have P5 := B5 k hk6
        have Q5 := B5 j hj6
        obtain ⟨B, eB⟩ : ∃ B, B = bst (pl V k).2.2.2 (pl V j).2.2.2 := ⟨_, rfl⟩
        have ev : vFit V (nI k) (nI j) = (B.1, upP V k (ptD (pl V k) B.2.1 B.2.2)) := by rw [ev0]; unfold bstV; rw [pAt_nI hkn, pAt_nI hjn, hkn, eB]
        obtain ⟨bx, bY, hb6, hb7, c1, c2, c3, c4⟩ := id hRF
        refine j_icmp_ne X (tgt := 26) dX8_fitPlate_20 (by decide) (fun _ => ?_) (fun q9 => absurd q9 (he))
        refine j_aload_n X (i := 3) dX8_fitPlate_26 rfl rfl ?_
        refine j_aload_n X (i := 0) dX8_fitPlate_27 rfl rfl ?_
        refine jFd.get X fd_X8_11 B1 rfl dX8_fitPlate_28 ?_
        refine j_iload_n X (i := 1) dX8_fitPlate_31 rfl rfl ?_
        refine j_aald X B2 (by decide) rfl hk6 (by decide) rfl dX8_fitPlate_32 ?_
        refine j_aload_n X (i := 0) dX8_fitPlate_33 rfl rfl ?_
        refine jFd.get X fd_X8_11 B1 rfl dX8_fitPlate_34 ?_
        refine j_iload_n X (i := 2) dX8_fitPlate_37 rfl rfl ?_
        refine j_aald X B2 (by decide) rfl hj6 (by decide) rfl dX8_fitPlate_38 ?_
        refine j_callV X (s_tryAll hok hst P5.1 P5.2 (v5 k hk6).2.2.2 Q5.1 Q5.2 (v5 j hj6).2.2.2 hF (by omega) (by omega) hb6 hb7 c1 c2 c3 c4) i_X1_tryAllShifts tw_3_198 tw_2_60 tw_2_61 hF rfl dX8_fitPlate_39 ?_ 
        rw [← eB]
        have hRF2 : RcF (fit3 t f B) f := by rw [eB]; exact RcF_fit3 t f _ _
        have f5 : fit3 t f B f 5 = iN B.1 := by unfold fit3; rw [jUf_eq]; rfl
        have f6 : fit3 t f B f 6 = iN B.2.1 := by unfold fit3; rw [jUf_eq]; rfl
        have f7 : fit3 t f B f 7 = iN B.2.2 := by unfold fit3; rw [jUf_eq]; rfl
        have fo : ∀ c, c ≠ f → fit3 t f B c = t c := fun c hc => jUf_ne _ _ hc
        have hV2 : RcV (fit3 t f B) b V := hV.cong (fun c h1 h2 => fo c (by omega))
        generalize fit3 t f B = t1 at hRF2 f5 f6 f7 fo hV2 ⊢
        have nf : f ≠ (b + 4 + 2 * k) := by omega
        refine j_aload_n X (i := 0) dX8_fitPlate_42 rfl rfl ?_
        refine jFd.get X fd_X8_11 B1 rfl dX8_fitPlate_43 ?_
        refine j_iload_n X (i := 1) dX8_fitPlate_46 rfl rfl ?_
        refine j_aald X B2 (by decide) rfl hk6 (by decide) rfl dX8_fitPlate_47 ?_
        refine j_aload_n X (i := 3) dX8_fitPlate_48 rfl rfl ?_
        refine jFd.get X fd_X8_101 hF rfl dX8_fitPlate_49 ?_
        rw [f6]
        refine jFd.put X fd_X8_86 P5.1 rfl rfl rfl rfl dX8_fitPlate_52 ?_
        refine j_aload_n X (i := 0) dX8_fitPlate_55 rfl rfl ?_
        refine jFd.get X fd_X8_11 B1 rfl dX8_fitPlate_56 ?_
        refine j_iload_n X (i := 1) dX8_fitPlate_59 rfl rfl ?_
        refine j_aald X B2 (by decide) rfl hk6 (by decide) rfl dX8_fitPlate_60 ?_
        refine j_aload_n X (i := 3) dX8_fitPlate_61 rfl rfl ?_
        refine jFd.get X fd_X8_104 hF rfl dX8_fitPlate_62 ?_
        rw [jU_ne _ _ _ nf, f7]
        refine jFd.put X fd_X8_89 P5.1 rfl rfl rfl rfl dX8_fitPlate_65 ?_
        refine j_aload_n X (i := 3) dX8_fitPlate_68 rfl rfl ?_
        refine jFd.get X fd_X8_107 hF rfl dX8_fitPlate_69 ?_
        rw [jU_ne _ _ _ nf, jU_ne _ _ _ nf, f5]
        refine j_iret X dX8_fitPlate_72 rfl rfl ⟨by rw [ev], rfl, rfl, by rw [ev]; exact shift_mem hV2 hk6 _ _, fun c hc h2 => by rw [jU_ne _ _ _ (by omega), jU_ne _ _ _ (by omega)]; exact fo c h2, ?_⟩
        obtain ⟨x, y, e1, e2, e3⟩ := hRF2
        exact ⟨x, y, by rw [jU_ne _ _ _ nf, jU_ne _ _ _ nf]; exact e1, by rw [jU_ne _ _ _ nf, jU_ne _ _ _ nf]; exact e2, e3⟩

theorem s_newSheet {l : Launch} {g : jG} (hok : jOk g) (hst : l.stackTraces = false) {z : Option Nat} {sk : jS} {t : jT} {b : Nat} {V : SV} (hB : isShop g sk b) (hV : RcV t b V) (hk : okV V) : jMet l g mX8_newSheet 1 0 0 [.ref (jb g + b)] z sk t (fun v2 z2 sk2 t2 => v2 = some (.int (iN (vNewSheet V).1)) ∧ z = z2 ∧ sk = sk2 ∧ RcV t2 b (vNewSheet V).2 ∧ (∀ c, (c < b ∨ b + 40 ≤ c) → t2 c = t c)) := by
  refine j_body (lv := [some (.ref (jb g + b))]) i_X8_newSheet hok hst (fun p e s m args below meth c X => ?_)
  obtain ⟨B1, B2, B3, B4, B5, B6⟩ := id hB
  obtain ⟨v1, v2, v3, v4, v5, v6⟩ := id hV
  obtain ⟨k1, k2, k3, k4, k5, k6, k7, k8⟩ := id hk
  refine j_aload_n X (i := 0) dX8_newSheet_0 rfl rfl ?_
  refine jFd.get X fd_X8_31 B1 rfl dX8_newSheet_1 ?_
  refine j_bipush X (v := (nI 8)) dX8_newSheet_4 (by decide) ?_
  rw [v2]
  by_cases h8 : 8 ≤ ns V
  · have ev : vNewSheet V = (-3, V) := by unfold vNewSheet; rw [if_pos h8]
    refine j_icmp_lt X (tgt := 12) dX8_newSheet_6 (by decide) (fun q9 => absurd q9 (nI_nlt h8 (by omega))) (fun _ => ?_)
    refine j_bipush X (v := -3) dX8_newSheet_9 (by decide) ?_
    exact j_iret X dX8_newSheet_11 rfl rfl ⟨by rw [ev]; rfl, rfl, rfl, by rw [ev]; exact hV, fun _ _ => rfl⟩
  · have ev : vNewSheet V = ((ns V : Int), ((np V, ns V + 1, hr V), dr V, pl V, sh V)) := by unfold vNewSheet; rw [if_neg h8]
    refine j_icmp_lt X (tgt := 12) dX8_newSheet_6 (by decide) (fun _ => ?_) (fun q9 => absurd (nI_lt (by omega) (by decide)) q9)
    refine j_aload_n X (i := 0) dX8_newSheet_12 rfl rfl ?_
    refine j_dup X dX8_newSheet_13 rfl ?_
    refine jFd.get X fd_X8_31 B1 rfl dX8_newSheet_14 ?_
    refine j_iconst X (v := (nI 1)) dX8_newSheet_17 (by decide) ?_
    rw [v2]
    refine j_iadd X dX8_newSheet_18 ?_
    rw [nI_add]
    refine jFd.put X fd_X8_31 B1 rfl rfl rfl rfl dX8_newSheet_19 ?_
    refine j_aload_n X (i := 0) dX8_newSheet_22 rfl rfl ?_
    refine jFd.get X fd_X8_31 B1 rfl dX8_newSheet_23 ?_
    rw [jU_eq]
    refine j_iconst X (v := (nI 1)) dX8_newSheet_26 (by decide) ?_
    refine j_isub X dX8_newSheet_27 ?_
    have e9 : upd (t b) 4 (nI (ns V + 1)) 4 - nI 1 = nI (ns V) := by
      show nI (ns V + 1) - nI 1 = _
      rw [pk_sub (by omega)]; rfl
    refine j_iret X dX8_newSheet_28 rfl rfl ⟨by rw [ev]; exact congrArg (fun w => some (Value.int w)) (e9.trans (iN_nI _).symm), rfl, rfl, ?_, fun c hc => jU_ne _ _ _ (by omega)⟩
    rw [ev]
    exact hV.upB (a := np V) (c2 := ns V + 1) (d := hr V) (by rw [jU_eq]; exact v1) (by rw [jU_eq]; rfl) (by rw [jU_eq]; exact v3) (fun c h _ => jU_ne _ _ _ (by omega))

