/-- the place of the i-th star -/
noncomputable def plc (S : Nat → Bool) (i : Nat) : Nat := @dite Nat (∃ k, k < 128 ∧ S k = true ∧ fb_ct S k = i) (Classical.propDecidable _) (fun h => Classical.choose h) (fun _ => 0)
theorem plc_at (S : Nat → Bool) {k : Nat} (hk : k < 128) (hs : S k = true) : plc S (fb_ct S k) = k := by
  have h : ∃ j, j < 128 ∧ S j = true ∧ fb_ct S j = fb_ct S k := ⟨k, hk, hs, rfl⟩
  unfold plc
  rw [dif_pos h]
  obtain ⟨h1, h2, h3⟩ := Classical.choose_spec h
  exact fb_ct_kth_one h2 hs h3
theorem plc_of (S : Nat → Bool) {i : Nat} (hi : i < cntB S) : plc S i < 128 ∧ S (plc S i) = true ∧ fb_ct S (plc S i) = i := by
  obtain ⟨k, h1, h2, h3⟩ := fb_ct_kth (n := 128) hi
  have := plc_at S h1 h2
  rw [h3] at this
  rw [this]
  exact ⟨h1, h2, h3⟩
theorem sm_places (S : Nat → Bool) (f : Nat → Nat) : ∀ n, n ≤ 128 → fb_sm (fun i => f (plc S i)) (fb_ct S n) = fb_sm (fun k => if S k then f k else 0) n
  | 0, _ => rfl
  | n + 1, hn => by
    rw [fb_ct_succ, fb_sm_succ, ← sm_places S f n (by omega)]
    by_cases h : S n = true
    · rw [if_pos h, if_pos h, fb_sm_succ, plc_at S (by omega) h]
    · rw [if_neg h, if_neg h]; rfl
theorem ct_sm (p : Nat → Bool) : ∀ n, fb_ct p n = fb_sm (fun j => if p j then 1 else 0) n
  | 0 => rfl
  | n + 1 => by rw [fb_ct_succ, fb_sm_succ, ct_sm p n]
theorem sm_one (m v : Nat) : ∀ n, fb_sm (fun k => if k = m then v else 0) n = if m < n then v else 0
  | 0 => rfl
  | n + 1 => by
    rw [fb_sm_succ, sm_one m v n]
    by_cases h : n = m
    · subst h; rw [if_neg (Nat.lt_irrefl _), if_pos rfl, if_pos (by omega)]; omega
    · rw [if_neg h]
      by_cases h2 : m < n
      · rw [if_pos h2, if_pos (by omega)]; rfl
      · rw [if_neg h2, if_neg (by omega)]
theorem ct_plc (U : Nat → Bool) (m : Nat) : fb_ct (fun j => decide (plc U j = m)) (cntB U) = if m < 128 ∧ U m = true then 1 else 0 := by
  rw [ct_sm]
  have e := sm_places U (fun k => if k = m then 1 else 0) 128 (Nat.le_refl _)
  have e1 : fb_sm (fun j => if decide (plc U j = m) = true then 1 else 0) (cntB U) = fb_sm (fun i => (fun k => if k = m then 1 else 0) (plc U i)) (fb_ct U 128) := fb_sm_cong (fun j _ => by simp)
  rw [e1, e]
  by_cases h : U m = true
  · have : (fun k => if U k = true then (if k = m then 1 else 0) else 0) = (fun k => if k = m then 1 else 0) := by
      funext k
      by_cases hk : k = m
      · subst hk; rw [if_pos h]
      · rw [if_neg hk]; split <;> rfl
    rw [this, sm_one]
    by_cases h2 : m < 128
    · rw [if_pos h2, if_pos ⟨h2, h⟩]
    · rw [if_neg h2, if_neg (fun q => h2 q.1)]
  · have : (fun k => if U k = true then (if k = m then 1 else 0) else 0) = (fun _ => 0) := by
      funext k
      by_cases hk : k = m
      · subst hk; rw [if_neg h]
      · rw [if_neg hk]; split <;> rfl
    rw [this, fb_sm_const, if_neg (fun q => h q.2)]
/-- the q-th shift's difference stands between the i-th star of one set and the j-th of the other -/
noncomputable def hitQ (S U : Nat → Bool) (q i j : Nat) : Bool := decide (((plc U j % 16 : Nat) : Int) - (plc S i % 16 : Nat) = ((q / 7 : Nat) : Int) - 3 ∧ ((plc U j / 16 : Nat) : Int) - (plc S i / 16 : Nat) = ((q % 7 : Nat) : Int) - 3)
noncomputable def cntQ (S U : Nat → Bool) (q i j : Nat) : Nat := fb_sm (fun i => fb_ct (hitQ S U q i) (cntB U)) i + fb_ct (hitQ S U q i) j
theorem cntQ_all (S U : Nat → Bool) (q : Nat) (hq : q < 49) : cntQ S U q (cntB S) 0 = matB S U (((q / 7 : Nat) : Int) - 3) (((q % 7 : Nat) : Int) - 3) := by
  have e1 : cntQ S U q (cntB S) 0 = fb_sm (fun i => fb_ct (hitQ S U q i) (cntB U)) (cntB S) := rfl
  rw [e1]
  have e2 : fb_sm (fun i => fb_ct (hitQ S U q i) (cntB U)) (cntB S) = fb_sm (fun i => (fun k => if (onB k (((q / 7 : Nat) : Int) - 3) (((q % 7 : Nat) : Int) - 3) && U (mvB k (((q / 7 : Nat) : Int) - 3) (((q % 7 : Nat) : Int) - 3))) = true then 1 else 0) (plc S i)) (fb_ct S 128) := by
    refine fb_sm_cong (fun i hi => ?_)
    obtain ⟨h1, h2, h3⟩ := plc_of S hi
    have ha : ((q / 7 : Nat) : Int) - 3 ≤ 3 := by omega
    generalize hdx : ((q / 7 : Nat) : Int) - 3 = dx
    generalize hdy : ((q % 7 : Nat) : Int) - 3 = dy
    have e3 : ∀ j, j < cntB U → hitQ S U q i j = (onB (plc S i) dx dy && decide (plc U j = mvB (plc S i) dx dy)) := by
      intro j hj
      obtain ⟨g1, -, -⟩ := plc_of U hj
      unfold hitQ onB mvB
      rw [hdx, hdy]
      by_cases z : 0 ≤ ((plc S i % 16 : Nat) : Int) + dx ∧ ((plc S i % 16 : Nat) : Int) + dx < 16 ∧ 0 ≤ ((plc S i / 16 : Nat) : Int) + dy ∧ ((plc S i / 16 : Nat) : Int) + dy < 8
      · rw [decide_eq_true z, Bool.true_and]
        refine decide_eq_decide.mpr ⟨fun h => by omega, fun h => by omega⟩
      · rw [decide_eq_false z, Bool.false_and]
        refine decide_eq_false (fun h => z ?_)
        omega
    rw [fb_ct_cong e3]
    show _ = if (onB (plc S i) dx dy && U (mvB (plc S i) dx dy)) = true then 1 else 0
    cases hon : onB (plc S i) dx dy with
    | false =>
      simp only [Bool.false_and]
      rw [fb_ct_zero.mpr (fun _ _ => rfl)]
      rfl
    | true =>
      simp only [Bool.true_and]
      rw [ct_plc]
      have hm : mvB (plc S i) dx dy < 128 := by
        unfold onB at hon
        have := of_decide_eq_true hon
        unfold mvB
        omega
      by_cases hU : U (mvB (plc S i) dx dy) = true
      · rw [if_pos ⟨hm, hU⟩, if_pos hU]
      · rw [if_neg (fun z => hU z.2), if_neg hU]
  rw [e2]
  refine (sm_places S (fun k => if (onB k (((q / 7 : Nat) : Int) - 3) (((q % 7 : Nat) : Int) - 3) && U (mvB k (((q / 7 : Nat) : Int) - 3) (((q % 7 : Nat) : Int) - 3))) = true then 1 else 0) 128 (Nat.le_refl _)).trans ?_
  rw [matB, ct_sm]
  refine fb_sm_cong (fun k _ => ?_)
  cases S k <;> simp

theorem cntQ_le (S U : Nat → Bool) (q i j : Nat) (hj : j ≤ cntB U) : cntQ S U q i j ≤ (i + 1) * 128 := by
  unfold cntQ
  have h1 := fb_sm_bound (f := fun i => fb_ct (hitQ S U q i) (cntB U)) (c := 128) (n := i) (fun k _ => Nat.le_trans (fb_ct_le _ _) (fb_ct_le _ _))
  have h2 := fb_ct_le (hitQ S U q i) j
  have h3 : cntB U ≤ 128 := fb_ct_le _ _
  omega
theorem cntQ_next (S U : Nat → Bool) (q i : Nat) : cntQ S U q i (cntB U) = cntQ S U q (i + 1) 0 := rfl
/-- the highest count so far -/
def HiQ (S U : Nat → Bool) (i j h : Nat) : Prop := (∀ q, q < 49 → cntQ S U q i j ≤ h) ∧ (h = 0 ∨ ∃ q, q < 49 ∧ cntQ S U q i j = h)
theorem HiQ_end {S U : Nat → Bool} {h : Nat} (H : HiQ S U (cntB S) 0 h) : (bst S U).1 = (h : Int) := by
  obtain ⟨h1, h2⟩ := H
  obtain ⟨g1, g2⟩ := bsG_max S U (-1, 0, 0) rfl 49
  have ge : ∀ q, q < 49 → (cntQ S U q (cntB S) 0 : Int) ≤ (bst S U).1 := fun q hq => by rw [cntQ_all S U q hq]; exact g1 q hq
  rcases g2 with g2 | ⟨q, hq, g2⟩
  · exact absurd g2 (by decide)
  · have e : (bst S U).1 = (cntQ S U q (cntB S) 0 : Int) := by rw [cntQ_all S U q hq]; exact g2
    have := h1 q hq
    rcases h2 with h2 | ⟨q2, hq2, h2⟩
    · omega
    · have := ge q2 hq2
      omega
theorem s_countPair_no {l : Launch} {g : jG} (hok : jOk g) (hst : l.stackTraces = false) {z : Option Nat} {sk : jS} {t : jT} {f : Nat} {dx dy : Int} (hF : sk f = some (jFit g f)) (hD : sk (f + 1) = some (kA .int 49)) (d1 : -15 ≤ dx) (d2 : dx ≤ 15) (d3 : -15 ≤ dy) (d4 : dy ≤ 15) (hn : ¬ (-3 ≤ dx ∧ dx ≤ 3 ∧ -3 ≤ dy ∧ dy ≤ 3)) : jMet l g mX1_countPair 2 0 0 [.ref (jb g + f), .int (iN dx), .int (iN dy)] z sk t (jE (some (.int (nI 0))) z sk t) := by
  refine j_body (lv := [some (.ref (jb g + f)), some (.int (iN dx)), some (.int (iN dy)), none]) i_X1_countPair hok hst (fun p e s m args below meth c X => ?_)
  refine j_iload_n X (i := 1) dX1_countPair_0 rfl rfl ?_
  refine j_iload_n X (i := 2) dX1_countPair_1 rfl rfl ?_
  refine j_callSN X (s_isShift hok hst _ _) i_X9_isShift tw_2_105 tw_2_106 dX1_countPair_2 ?_ 
  have e : isSh (iN dx) (iN dy) = false := decide_eq_false (by rw [iN_toInt (by omega) (by omega), iN_toInt (by omega) (by omega)]; exact hn)
  rw [e]
  refine j_if_ne X (tgt := 10) dX1_countPair_5 (by decide) (fun h => absurd (rfl) h) (fun _ => ?_)
  refine j_iconst X (v := (nI 0)) dX1_countPair_8 (by decide) ?_
  exact j_iret X dX1_countPair_9 rfl rfl ⟨rfl, rfl, rfl, rfl⟩

theorem s_countPair_yes {l : Launch} {g : jG} (hok : jOk g) (hst : l.stackTraces = false) {z : Option Nat} {sk : jS} {t : jT} {f : Nat} {dx dy : Int} (hF : sk f = some (jFit g f)) (hD : sk (f + 1) = some (kA .int 49)) (d1 : -15 ≤ dx) (d2 : dx ≤ 15) (d3 : -15 ≤ dy) (d4 : dy ≤ 15) {q : Nat} (hq : q < 49) (e1 : dx = ((q / 7 : Nat) : Int) - 3) (e2 : dy = ((q % 7 : Nat) : Int) - 3) : jMet l g mX1_countPair 2 0 0 [.ref (jb g + f), .int (iN dx), .int (iN dy)] z sk t (jE (some (.int (t (f + 1) q + nI 1))) z sk (jU t (f + 1) q (t (f + 1) q + nI 1))) := by
  refine j_body (lv := [some (.ref (jb g + f)), some (.int (iN dx)), some (.int (iN dy)), none]) i_X1_countPair hok hst (fun p e s m args below meth c X => ?_)
  refine j_iload_n X (i := 1) dX1_countPair_0 rfl rfl ?_
  refine j_iload_n X (i := 2) dX1_countPair_1 rfl rfl ?_
  refine j_callSN X (s_isShift hok hst _ _) i_X9_isShift tw_2_105 tw_2_106 dX1_countPair_2 ?_ 
  have e : isSh (iN dx) (iN dy) = true := decide_eq_true (by rw [iN_toInt (by omega) (by omega), iN_toInt (by omega) (by omega)]; omega)
  rw [e]
  refine j_if_ne X (tgt := 10) dX1_countPair_5 (by decide) (fun _ => ?_) (fun h => absurd h (by decide))
  refine j_iload_n X (i := 1) dX1_countPair_10 rfl rfl ?_
  refine j_iconst X (v := (nI 3)) dX1_countPair_11 (by decide) ?_
  refine j_iadd X dX1_countPair_12 ?_
  refine j_bipush X (v := (nI 7)) dX1_countPair_13 (by decide) ?_
  refine j_imul X dX1_countPair_15 ?_
  refine j_iload_n X (i := 2) dX1_countPair_16 rfl rfl ?_
  refine j_iadd X dX1_countPair_17 ?_
  refine j_iconst X (v := (nI 3)) dX1_countPair_18 (by decide) ?_
  refine j_iadd X dX1_countPair_19 ?_
  have ei : (iN dx + nI 3) * nI 7 + iN dy + nI 3 = nI q := by
    rw [← iN_nI 3, iN_add, show dx + ((3 : Nat) : Int) = ((q / 7 : Nat) : Int) by omega, iN_nI, pk_mul, ← iN_nI (q / 7 * 7), iN_add, iN_add, ← iN_nI q]
    congr 1
    omega
  rw [ei]
  refine j_istore_n X (i := 3) dX1_countPair_20 rfl (by decide) rfl ?_
  refine j_aload_n X (i := 0) dX1_countPair_21 rfl rfl ?_
  refine jFd.get X fd_X1_9 hF rfl dX1_countPair_22 ?_
  refine j_iload_n X (i := 3) dX1_countPair_25 rfl rfl ?_
  refine j_dup2 X dX1_countPair_26 rfl rfl ?_
  refine j_iald X hD rfl hq (by decide) dX1_countPair_27 ?_
  refine j_iconst X (v := (nI 1)) dX1_countPair_28 (by decide) ?_
  refine j_iadd X dX1_countPair_29 ?_
  refine j_iast X hD rfl hq (by decide) dX1_countPair_30 ?_
  refine j_aload_n X (i := 0) dX1_countPair_31 rfl rfl ?_
  refine jFd.get X fd_X1_9 hF rfl dX1_countPair_32 ?_
  refine j_iload_n X (i := 3) dX1_countPair_35 rfl rfl ?_
  refine j_iald X hD rfl hq (by decide) dX1_countPair_36 ?_
  rw [jU_eq]
  exact j_iret X dX1_countPair_37 rfl rfl ⟨by simp [upd], rfl, rfl, rfl⟩

theorem s_countPairs {l : Launch} {g : jG} (hok : jOk g) (hst : l.stackTraces = false) {z : Option Nat} {sk : jS} {t : jT} {i r i2 r2 f : Nat} {S U : Nat → Bool} (hT : sk i = some (jPlate g r)) (hR : sk r = some (kA .int 8)) (hS : Rows (t r) S) (hT2 : sk i2 = some (jPlate g r2)) (hR2 : sk r2 = some (kA .int 8)) (hU : Rows (t r2) U) (hF : sk f = some (jFit g f)) (hD : sk (f + 1) = some (kA .int 49)) (hA1 : sk (f + 2) = some (kA .int 20)) (hA2 : sk (f + 3) = some (kA .int 20)) (hA3 : sk (f + 4) = some (kA .int 20)) (hA4 : sk (f + 5) = some (kA .int 20)) (hrf : r < f + 1 ∨ f + 5 < r) (hr2f : r2 < f + 1 ∨ f + 5 < r2) (hc1 : cntB S ≤ 20) (hc2 : cntB U ≤ 20) : jMet l g mX1_countPairs 3 0 0 [.ref (jb g + f), .ref (jb g + i), .ref (jb g + i2)] z sk t (fun v2 z2 sk2 t2 => v2 = some (.int (iN (bst S U).1)) ∧ z = z2 ∧ sk = sk2 ∧ ∀ c, (c < f + 1 ∨ f + 5 < c) → t2 c = t c) := by
  refine j_body (lv := [some (.ref (jb g + f)), some (.ref (jb g + i)), some (.ref (jb g + i2)), none, none, none, none, none]) i_X1_countPairs hok hst (fun p e s m args below meth c X => ?_)
  refine j_aload_n X (i := 0) dX1_countPairs_0 rfl rfl ?_
  refine jFd.get X fd_X1_9 hF rfl dX1_countPairs_1 ?_
  refine j_iconst X (v := (nI 0)) dX1_countPairs_4 (by decide) ?_
  refine j_callS X (s_fill hok hst hD (by decide) (nI 0)) i_J7_fill_53178 tw_2_92 tw_1_104 dX1_countPairs_5 ?_ 
  obtain ⟨t1, ht1⟩ : ∃ t1, t1 = jUf t (f + 1) (fun k => if k < 49 then nI 0 else t (f + 1) k) := ⟨_, rfl⟩
  rw [← ht1]
  have f1 : ∀ c, (c < f + 1 ∨ f + 5 < c) → t1 c = t c := fun c hc => by rw [ht1, jUf_ne _ _ (by omega)]
  have g1 : ∀ q, q < 49 → t1 (f + 1) q = nI 0 := fun q hq => by rw [ht1, jUf_eq]; exact if_pos hq
  clear ht1
  refine j_aload_n X (i := 1) dX1_countPairs_8 rfl rfl ?_
  refine j_aload_n X (i := 0) dX1_countPairs_9 rfl rfl ?_
  refine jFd.get X fd_X1_15 hF rfl dX1_countPairs_10 ?_
  refine j_aload_n X (i := 0) dX1_countPairs_13 rfl rfl ?_
  refine jFd.get X fd_X1_18 hF rfl dX1_countPairs_14 ?_
  refine j_callV_p X (s_listStars hok hst hT hR (by rw [f1 r hrf]; exact hS) hA1 hA2 (by omega) (by omega) (by omega) hc1) i_X5_listStars tw_2_93 tw_2_94 tw_2_95 hT rfl dX1_countPairs_17 (fun v2 z2 sk2 t2 h => ?_)
  obtain ⟨rfl, rfl, rfl, F1, F2, rfl, hI1⟩ := h
  refine j_istore_n X (i := 3) dX1_countPairs_20 rfl (by decide) rfl ?_
  refine j_aload_n X (i := 2) dX1_countPairs_21 rfl rfl ?_
  refine j_aload_n X (i := 0) dX1_countPairs_22 rfl rfl ?_
  refine jFd.get X fd_X1_21 hF rfl dX1_countPairs_23 ?_
  refine j_aload_n X (i := 0) dX1_countPairs_26 rfl rfl ?_
  refine jFd.get X fd_X1_24 hF rfl dX1_countPairs_27 ?_
  refine j_callV_p X (s_listStars hok hst hT2 hR2 (by rw [jUf_ne _ _ (by omega), jUf_ne _ _ (by omega), f1 r2 hr2f]; exact hU) hA3 hA4 (by omega) (by omega) (by omega) hc2) i_X5_listStars tw_2_93 tw_2_94 tw_2_95 hT2 rfl dX1_countPairs_30 (fun v2 z2 sk2 t2 h => ?_)
  obtain ⟨rfl, rfl, rfl, G1, G2, rfl, hI2⟩ := h
  obtain ⟨t5, ht5⟩ : ∃ t5, t5 = jUf (jUf (jUf (jUf t1 (f + 2) F1) (f + 3) F2) (f + 4) G1) (f + 5) G2 := ⟨_, rfl⟩
  rw [← ht5]
  have f5 : ∀ c, (c < f + 1 ∨ f + 5 < c) → t5 c = t c := fun c hc => by rw [ht5, jUf_ne _ _ (by omega), jUf_ne _ _ (by omega), jUf_ne _ _ (by omega), jUf_ne _ _ (by omega)]; exact f1 c hc
  have x1 : t5 (f + 2) = F1 := by rw [ht5, jUf_ne _ _ (by omega), jUf_ne _ _ (by omega), jUf_ne _ _ (by omega), jUf_eq]
  have x2 : t5 (f + 3) = F2 := by rw [ht5, jUf_ne _ _ (by omega), jUf_ne _ _ (by omega), jUf_eq]
  have x3 : t5 (f + 4) = G1 := by rw [ht5, jUf_ne _ _ (by omega), jUf_eq]
  have x4 : t5 (f + 5) = G2 := by rw [ht5, jUf_eq]
  have x0 : ∀ q, q < 49 → t5 (f + 1) q = nI 0 := fun q hq => by rw [ht5, jUf_ne _ _ (by omega), jUf_ne _ _ (by omega), jUf_ne _ _ (by omega), jUf_ne _ _ (by omega)]; exact g1 q hq
  clear ht5 g1 f1
  have outer : ∀ a, a ≤ cntB S → ∀ (D : Nat → Int32) (hh : Nat), (∀ q, q < 49 → D q = nI (cntQ S U q a 0)) → HiQ S U a 0 hh → J p l e (jR 3 0 0) s m args below meth c (jQm below args s g 0 0 (fun v2 z2 sk2 t2 => v2 = some (.int (iN (bst S U).1)) ∧ z = z2 ∧ sk = sk2 ∧ ∀ c, (c < f + 1 ∨ f + 5 < c) → t2 c = t c)) 8 g 0 0 z sk  (jUf t5 (f + 1) D) 41 [some (.ref (jb g + f)), some (.ref (jb g + i)), some (.ref (jb g + i2)), some (.int (nI (cntB S))), some (.int (nI (cntB U))), some (.int (nI hh)), some (.int (nI a)), none] [] := by
    refine up_loop ?_ ?_
    · intro D hh hD0 hH
      refine j_iload X (i := 6) dX1_countPairs_41 rfl ?_
      refine j_iload_n X (i := 3) dX1_countPairs_43 rfl rfl ?_
      refine j_icmp_ge X (tgt := 110) dX1_countPairs_44 (by decide) (fun _ => ?_) (fun h => absurd (nI_le (Nat.le_refl _) (by omega)) h)
      refine j_iload X (i := 5) dX1_countPairs_110 rfl ?_
      exact j_iret X dX1_countPairs_112 rfl rfl ⟨by rw [HiQ_end hH, iN_nI], rfl, rfl, fun c hc => by rw [jUf_ne _ _ (by omega)]; exact f5 c hc⟩
    · intro a ha ih D hh hD0 hH
      refine j_iload X (i := 6) dX1_countPairs_41 rfl ?_
      refine j_iload_n X (i := 3) dX1_countPairs_43 rfl rfl ?_
      refine j_icmp_ge X (tgt := 110) dX1_countPairs_44 (by decide) (fun h => absurd h (nI_ge ha (by omega))) (fun _ => ?_)
      refine j_iconst X (v := (nI 0)) dX1_countPairs_47 (by decide) ?_
      refine j_istore X (i := 7) dX1_countPairs_48 (by decide) rfl ?_
      have inner : ∀ b, b ≤ cntB U → ∀ (D : Nat → Int32) (hh : Nat), (∀ q, q < 49 → D q = nI (cntQ S U q a b)) → HiQ S U a b hh → J p l e (jR 3 0 0) s m args below meth c (jQm below args s g 0 0 (fun v2 z2 sk2 t2 => v2 = some (.int (iN (bst S U).1)) ∧ z = z2 ∧ sk = sk2 ∧ ∀ c, (c < f + 1 ∨ f + 5 < c) → t2 c = t c)) 8 g 0 0 z sk  (jUf t5 (f + 1) D) 50 [some (.ref (jb g + f)), some (.ref (jb g + i)), some (.ref (jb g + i2)), some (.int (nI (cntB S))), some (.int (nI (cntB U))), some (.int (nI hh)), some (.int (nI a)), some (.int (nI b))] [] := by
        refine up_loop ?_ ?_
        · intro D hh hD0 hH
          refine j_iload X (i := 7) dX1_countPairs_50 rfl ?_
          refine j_iload X (i := 4) dX1_countPairs_52 rfl ?_
          refine j_icmp_ge X (tgt := 104) dX1_countPairs_54 (by decide) (fun _ => ?_) (fun h => absurd (nI_le (Nat.le_refl _) (by omega)) h)
          refine j_iinc X (i := 6) (v := (nI (a + 1))) dX1_countPairs_104 rfl (nI_1 a) (by decide) rfl ?_
          refine j_goto X (tgt := 41) dX1_countPairs_107 (by decide) ?_
          refine j_drop 7 ?_
          exact ih D hh hD0 hH
        · intro b hb ih2 D hh hD0 hH
          obtain ⟨p1, p2, p3⟩ := plc_of S ha
          obtain ⟨r1, r2', r3⟩ := plc_of U hb
          have w1 := hI1 _ p1 p2
          have w2 := hI2 _ r1 r2'
          rw [p3] at w1
          rw [r3] at w2
          have hmx : ∀ c, c ≠ f + 1 → (jUf t5 (f + 1) D) c = t5 c := fun c hc => jUf_ne _ _ hc
          have hhb : hh ≤ 21 * 128 := by
            rcases hH.2 with z | ⟨q, -, z⟩
            · omega
            · have := cntQ_le S U q a b (by omega)
              have : (a + 1) * 128 ≤ 21 * 128 := Nat.mul_le_mul_right _ (by omega)
              omega
          refine j_iload X (i := 7) dX1_countPairs_50 rfl ?_
          refine j_iload X (i := 4) dX1_countPairs_52 rfl ?_
          refine j_icmp_ge X (tgt := 104) dX1_countPairs_54 (by decide) (fun h => absurd h (nI_ge hb (by omega))) (fun _ => ?_)
          refine j_iload X (i := 5) dX1_countPairs_57 rfl ?_
          refine j_aload_n X (i := 0) dX1_countPairs_59 rfl rfl ?_
          refine j_aload_n X (i := 0) dX1_countPairs_60 rfl rfl ?_
          refine jFd.get X fd_X1_21 hF rfl dX1_countPairs_61 ?_
          refine j_iload X (i := 7) dX1_countPairs_64 rfl ?_
          refine j_iald X hA3 rfl (show b < 20 by omega) (by decide) dX1_countPairs_66 ?_
          rw [hmx _ (by omega), x3, w2.1]
          refine j_aload_n X (i := 0) dX1_countPairs_67 rfl rfl ?_
          refine jFd.get X fd_X1_15 hF rfl dX1_countPairs_68 ?_
          refine j_iload X (i := 6) dX1_countPairs_71 rfl ?_
          refine j_iald X hA1 rfl (show a < 20 by omega) (by decide) dX1_countPairs_73 ?_
          rw [hmx _ (by omega), x1, w1.1]
          refine j_isub X dX1_countPairs_74 ?_
          refine j_aload_n X (i := 0) dX1_countPairs_75 rfl rfl ?_
          refine jFd.get X fd_X1_24 hF rfl dX1_countPairs_76 ?_
          refine j_iload X (i := 7) dX1_countPairs_79 rfl ?_
          refine j_iald X hA4 rfl (show b < 20 by omega) (by decide) dX1_countPairs_81 ?_
          rw [hmx _ (by omega), x4, w2.2]
          refine j_aload_n X (i := 0) dX1_countPairs_82 rfl rfl ?_
          refine jFd.get X fd_X1_18 hF rfl dX1_countPairs_83 ?_
          refine j_iload X (i := 6) dX1_countPairs_86 rfl ?_
          refine j_iald X hA2 rfl (show a < 20 by omega) (by decide) dX1_countPairs_88 ?_
          rw [hmx _ (by omega), x2, w1.2]
          refine j_isub X dX1_countPairs_89 ?_
          rw [← iN_nI (plc U b % 16), ← iN_nI (plc S a % 16), ← iN_nI (plc U b / 16), ← iN_nI (plc S a / 16), iN_sub, iN_sub]
          obtain ⟨dx, hdx⟩ : ∃ dx : Int, dx = ((plc U b % 16 : Nat) : Int) - (plc S a % 16 : Nat) := ⟨_, rfl⟩
          obtain ⟨dy, hdy⟩ : ∃ dy : Int, dy = ((plc U b / 16 : Nat) : Int) - (plc S a / 16 : Nat) := ⟨_, rfl⟩
          rw [← hdx, ← hdy]
          have nx : ∀ q, cntQ S U q a (b + 1) = cntQ S U q a b + (if hitQ S U q a b then 1 else 0) := fun q => by unfold cntQ; rw [fb_ct_succ]; omega
          by_cases hq : -3 ≤ dx ∧ dx ≤ 3 ∧ -3 ≤ dy ∧ dy ≤ 3
          · obtain ⟨q, hq1⟩ : ∃ q : Nat, q = ((dx + 3) * 7 + (dy + 3)).toNat := ⟨_, rfl⟩
            have qlt : q < 49 := by omega
            have qa : dx = ((q / 7 : Nat) : Int) - 3 := by omega
            have qb : dy = ((q % 7 : Nat) : Int) - 3 := by omega
            refine j_callV X (s_countPair_yes hok hst hF hD (by omega) (by omega) (by omega) (by omega) qlt qa qb) i_X1_countPair tw_2_101 tw_2_103 tp_2 hF rfl dX1_countPairs_90 ?_ 
            rw [jUf_eq, hD0 q qlt, nI_add]
            refine j_mmax X tw_2_108 tw_2_109 tw_1_25 tw_2_110  dX1_countPairs_93 ?_
            have hm : (if nI hh < nI (cntQ S U q a b + 1) then nI (cntQ S U q a b + 1) else nI hh) = nI (max hh (cntQ S U q a b + 1)) := by
              have := hH.1 q qlt
              by_cases z : hh < cntQ S U q a b + 1
              · rw [if_pos ((nI_ltI (by omega) (by omega)).mpr z)]; congr 1; omega
              · rw [if_neg (fun z2 => z ((nI_ltI (by omega) (by omega)).mp z2))]; congr 1; omega
            rw [hm]
            refine j_istore X (i := 5) dX1_countPairs_96 (by decide) rfl ?_
            refine j_iinc X (i := 7) (v := (nI (b + 1))) dX1_countPairs_98 rfl (nI_1 b) (by decide) rfl ?_
            refine j_goto X (tgt := 50) dX1_countPairs_101 (by decide) ?_
            rw [jU_row, jUf_eq, jUf_jUf]
            have hit : ∀ q2, q2 < 49 → hitQ S U q2 a b = decide (q2 = q) := fun q2 h2 => by
              unfold hitQ
              rw [← hdx, ← hdy]
              exact decide_eq_decide.mpr ⟨fun z => by omega, fun z => by omega⟩
            refine ih2 _ _ (fun q2 h2 => ?_) ⟨fun q2 h2 => ?_, Or.inr ?_⟩
            · rw [nx, hit q2 h2]
              unfold upd
              by_cases z : q2 = q
              · subst z; rw [if_pos rfl, decide_eq_true rfl]; rfl
              · rw [if_neg z, decide_eq_false z, hD0 q2 h2]; rfl
            · rw [nx, hit q2 h2]
              have := hH.1 q2 h2
              by_cases z : q2 = q
              · subst z; rw [decide_eq_true rfl]; simp; omega
              · rw [decide_eq_false z]; simp; omega
            · by_cases z : hh < cntQ S U q a b + 1
              · refine ⟨q, qlt, ?_⟩
                rw [nx, hit q qlt, decide_eq_true rfl]
                simp; omega
              · rcases hH.2 with z2 | ⟨q2, h2, z2⟩
                · omega
                · by_cases z3 : q2 = q
                  · subst z3
                    omega
                  · refine ⟨q2, h2, ?_⟩
                    rw [nx, hit q2 h2, decide_eq_false z3]
                    simp; omega
          · refine j_callV X (s_countPair_no hok hst hF hD (by omega) (by omega) (by omega) (by omega) hq) i_X1_countPair tw_2_101 tw_2_103 tp_2 hF rfl dX1_countPairs_90 ?_ 
            refine j_mmax X tw_2_108 tw_2_109 tw_1_25 tw_2_110  dX1_countPairs_93 ?_
            rw [if_neg (fun z => absurd ((nI_ltI (by omega) (by decide)).mp z) (Nat.not_lt_zero _))]
            refine j_istore X (i := 5) dX1_countPairs_96 (by decide) rfl ?_
            refine j_iinc X (i := 7) (v := (nI (b + 1))) dX1_countPairs_98 rfl (nI_1 b) (by decide) rfl ?_
            refine j_goto X (tgt := 50) dX1_countPairs_101 (by decide) ?_
            have hit : ∀ q2, q2 < 49 → hitQ S U q2 a b = false := fun q2 h2 => by
              unfold hitQ
              rw [← hdx, ← hdy]
              exact decide_eq_false (fun z => hq (by omega))
            have nx2 : ∀ q2, q2 < 49 → cntQ S U q2 a (b + 1) = cntQ S U q2 a b := fun q2 h2 => by rw [nx, hit q2 h2]; rfl
            refine ih2 D hh (fun q2 h2 => by rw [nx2 q2 h2]; exact hD0 q2 h2) ⟨fun q2 h2 => by rw [nx2 q2 h2]; exact hH.1 q2 h2, ?_⟩
            rcases hH.2 with z | ⟨q2, h2, z⟩
            · exact Or.inl z
            · exact Or.inr ⟨q2, h2, by rw [nx2 q2 h2]; exact z⟩
      exact inner 0 (Nat.zero_le _) D hh hD0 hH
  refine j_istore X (i := 4) dX1_countPairs_33 (by decide) rfl ?_
  refine j_iconst X (v := (nI 0)) dX1_countPairs_35 (by decide) ?_
  refine j_istore X (i := 5) dX1_countPairs_36 (by decide) rfl ?_
  refine j_iconst X (v := (nI 0)) dX1_countPairs_38 (by decide) ?_
  refine j_istore X (i := 6) dX1_countPairs_39 (by decide) rfl ?_
  have k0 := outer 0 (Nat.zero_le _) (t5 (f + 1)) 0 (fun q hq => x0 q hq) ⟨fun q _ => Nat.le_refl _, Or.inl rfl⟩
  rw [jUf_self] at k0
  exact k0

