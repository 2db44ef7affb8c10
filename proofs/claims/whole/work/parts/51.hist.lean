abbrev jHist (g : jG) : jK := kO 3 [fun _ => .ref (jb g + 82), .int, .int]
def isHist (g : jG) (sk : jS) : Prop := sk 81 = some (jHist g) ∧ sk 82 = some (kR "StarPress$Shop" 9 (fun s => some (jb g + (83 + 40 * s)))) ∧ ∀ s, s < 9 → isShop g sk (83 + 40 * s)
def slH (o i : Nat) : Nat := 83 + 40 * ((o + i) % 9)
def RcHo (t : jT) (o : Nat) (h : Nat × (Nat → SV)) : Prop := t 81 1 = nI o ∧ t 81 2 = nI h.1 ∧ o < 9 ∧ h.1 ≤ 8 ∧ ∀ i, i < h.1 → RcV t (slH o i) (h.2 i)
/-- what can be undone -/
def RcH (t : jT) (h : Nat × (Nat → SV)) : Prop := ∃ o, RcHo t o h
/-- .. and the shop before the change that runs -/
def RcHp (t : jT) (h : Nat × (Nat → SV)) (V : SV) : Prop := ∃ o, RcHo t o h ∧ RcV t (slH o h.1) V
theorem slH_lt (o i : Nat) : 83 ≤ slH o i ∧ slH o i + 40 ≤ 443 := by
  have := Nat.mod_lt (o + i) (show 0 < 9 by decide)
  unfold slH
  omega
theorem slH_ne {o i j : Nat} (hi : i < j) (hj : j ≤ 8) : slH o i + 40 ≤ slH o j ∨ slH o j + 40 ≤ slH o i := by
  unfold slH
  have a := Nat.mod_lt (o + i) (show 0 < 9 by decide)
  have b := Nat.mod_lt (o + j) (show 0 < 9 by decide)
  have : (o + i) % 9 ≠ (o + j) % 9 := by omega
  omega
theorem RcHo.cong {t u : jT} {o : Nat} {h : Nat × (Nat → SV)} (hh : RcHo t o h) (e : ∀ c, 81 ≤ c → c < 443 → u c = t c) : RcHo u o h := by
  obtain ⟨h1, h2, h3, h4, h5⟩ := hh
  refine ⟨by rw [e 81 (by omega) (by omega)]; exact h1, by rw [e 81 (by omega) (by omega)]; exact h2, h3, h4, fun i hi => (h5 i hi).cong fun c hc1 hc2 => e c ?_ ?_⟩
  · have := slH_lt o i; omega
  · have := slH_lt o i; omega
theorem RcH.cong {t u : jT} {h : Nat × (Nat → SV)} (hh : RcH t h) (e : ∀ c, 81 ≤ c → c < 443 → u c = t c) : RcH u h := by
  obtain ⟨o, h⟩ := hh
  exact ⟨o, h.cong e⟩
theorem RcHp.cong {t u : jT} {h : Nat × (Nat → SV)} {V : SV} (hh : RcHp t h V) (e : ∀ c, 81 ≤ c → c < 443 → u c = t c) : RcHp u h V := by
  obtain ⟨o, h1, h2⟩ := hh
  refine ⟨o, h1.cong e, h2.cong fun c hc1 hc2 => e c ?_ ?_⟩
  · have := slH_lt o h.1; omega
  · have := slH_lt o h.1; omega
theorem RcHp.h {t : jT} {h : Nat × (Nat → SV)} {V : SV} (hh : RcHp t h V) : RcH t h := by
  obtain ⟨o, h1, -⟩ := hh
  exact ⟨o, h1⟩
/-- one more that can be undone: in a slot of nine that turn -/
theorem RcHo.push {t u : jT} {o : Nat} {h : Nat × (Nat → SV)} {V : SV} (hh : RcHo t o h) (hV : RcV t (slH o h.1) V) (e : ∀ c, 83 ≤ c → c < 443 → u c = t c) (h1 : u 81 1 = nI (if h.1 < 8 then o else (o + 1) % 9)) (h2 : u 81 2 = nI (if h.1 < 8 then h.1 + 1 else 8)) : RcH u (pushH h V) := by
  obtain ⟨a1, a2, a3, a4, a5⟩ := hh
  have cg : ∀ (i : Nat) (W : SV), RcV t (slH o i) W → RcV u (slH o i) W := fun i W hW => hW.cong fun c hc1 hc2 => e c (by have := slH_lt o i; omega) (by have := slH_lt o i; omega)
  unfold pushH
  by_cases q : h.1 < 8
  · rw [if_pos q] at h1 h2 ⊢
    refine ⟨o, h1, h2, a3, by show h.1 + 1 ≤ 8; omega, fun i hi => ?_⟩
    have hi : i < h.1 + 1 := hi
    show RcV u (slH o i) (if i = h.1 then V else h.2 i)
    by_cases e2 : i = h.1
    · rw [if_pos e2, e2]; exact cg _ _ hV
    · rw [if_neg e2]; exact cg _ _ (a5 i (by omega))
  · rw [if_neg q] at h1 h2 ⊢
    refine ⟨(o + 1) % 9, h1, h2, Nat.mod_lt _ (by decide), Nat.le_refl 8, fun i hi => ?_⟩
    have hi : i < 8 := hi
    show RcV u (slH ((o + 1) % 9) i) (if i = 7 then V else h.2 (i + 1))
    have hs : slH ((o + 1) % 9) i = slH o (i + 1) := by unfold slH; omega
    rw [hs]
    by_cases e2 : i = 7
    · rw [if_pos e2, e2]
      have h8 : h.1 = 8 := by omega
      rw [h8] at hV
      exact cg _ _ hV
    · rw [if_neg e2]; exact cg _ _ (a5 (i + 1) (by omega))
theorem s_prepared {l : Launch} {g : jG} (hok : jOk g) (hst : l.stackTraces = false) {z : Option Nat} {sk : jS} {t : jT} (hD : isHist g sk) {o n : Nat} (h1 : t 81 1 = nI o) (h2 : t 81 2 = nI n) (ho : o < 9) (hn : n ≤ 8) : jMet l g mX2_prepared 1 0 0 [.ref (jb g + 81)] z sk t (jE (some (.ref (jb g + slH o n))) z sk t) := by
  refine j_body (lv := [some (.ref (jb g + 81))]) i_X2_prepared hok hst (fun p e s m args below meth c X => ?_)
  obtain ⟨D1, D2, D3⟩ := id hD
  refine j_aload_n X (i := 0) dX2_prepared_0 rfl rfl ?_
  refine jFd.get X fd_X2_13 D1 rfl dX2_prepared_1 ?_
  refine j_aload_n X (i := 0) dX2_prepared_4 rfl rfl ?_
  refine jFd.get X fd_X2_17 D1 rfl dX2_prepared_5 ?_
  refine j_aload_n X (i := 0) dX2_prepared_8 rfl rfl ?_
  refine jFd.get X fd_X2_21 D1 rfl dX2_prepared_9 ?_
  rw [h1, h2]
  refine j_iadd X dX2_prepared_12 ?_
  rw [nI_add]
  refine j_bipush X (v := (nI 9)) dX2_prepared_13 (by decide) ?_
  refine j_irem X dX2_prepared_15 (by decide) ?_
  rw [pk_rem2 (by omega) (by decide) (by decide)]
  refine j_aald X D2 (by decide) rfl (Nat.mod_lt _ (by decide)) (by decide) rfl dX2_prepared_16 ?_
  exact j_aret X dX2_prepared_17 rfl ⟨rfl, rfl, rfl, rfl⟩

theorem s_prepare {l : Launch} {g : jG} (hok : jOk g) (hst : l.stackTraces = false) {z : Option Nat} {sk : jS} {t : jT} (hD : isHist g sk) {o : Nat} {h : Nat × (Nat → SV)} {V : SV} (hH : RcHo t o h) (hB : isShop g sk 1) (hV : RcV t 1 V) : jMet l g mX2_prepare 4 0 0 [.ref (jb g + 81), .ref (jb g + 1)] z sk t (fun v2 z2 sk2 t2 => v2 = none ∧ z = z2 ∧ sk = sk2 ∧ RcV t2 (slH o h.1) V ∧ ∀ c, (c < slH o h.1 ∨ slH o h.1 + 40 ≤ c) → t2 c = t c) := by
  refine j_body (lv := [some (.ref (jb g + 81)), some (.ref (jb g + 1))]) i_X2_prepare hok hst (fun p e s m args below meth c X => ?_)
  obtain ⟨D1, D2, D3⟩ := id hD
  obtain ⟨h1, h2, h3, h4, h5⟩ := id hH
  have hs := slH_lt o h.1
  have hT : isShop g sk (slH o h.1) := D3 _ (Nat.mod_lt _ (by decide))
  refine j_aload_n X (i := 0) dX2_prepare_0 rfl rfl ?_
  refine j_callV X (s_prepared hok hst hD h1 h2 h3 h4) i_X2_prepared tw_2_193 tw_2_194 tw_2_195 D1 rfl dX2_prepare_1 ?_ 
  refine j_aload_n X (i := 1) dX2_prepare_4 rfl rfl ?_
  refine j_callV_p X (s_copyShop hok hst hT hB hV (by omega)) i_X8_copyFrom tw_2_197 tw_2_164 tw_2_165 hT.1 rfl dX2_prepare_5 (fun v2 z2 sk2 t2 hp => ?_) 
  obtain ⟨rfl, rfl, rfl, g1, g2⟩ := hp
  exact j_vret X dX2_prepare_8 rfl ⟨rfl, rfl, rfl, g1, g2⟩

theorem s_hkeep {l : Launch} {g : jG} (hok : jOk g) (hst : l.stackTraces = false) {z : Option Nat} {sk : jS} {t : jT} (hD : isHist g sk) {h : Nat × (Nat → SV)} {V : SV} (hH : RcHp t h V) : jMet l g mX2_keep 1 0 0 [.ref (jb g + 81)] z sk t (fun v2 z2 sk2 t2 => v2 = none ∧ z = z2 ∧ sk = sk2 ∧ RcH t2 (pushH h V) ∧ ∀ c, c ≠ 81 → t2 c = t c) := by
  refine j_body (lv := [some (.ref (jb g + 81))]) i_X2_keep hok hst (fun p e s m args below meth c X => ?_)
  obtain ⟨D1, D2, D3⟩ := id hD
  obtain ⟨o, hO, hV⟩ := hH
  obtain ⟨h1, h2, h3, h4, h5⟩ := id hO
  refine j_aload_n X (i := 0) dX2_keep_0 rfl rfl ?_
  refine jFd.get X fd_X2_21 D1 rfl dX2_keep_1 ?_
  refine j_bipush X (v := (nI 8)) dX2_keep_4 (by decide) ?_
  rw [h2]
  by_cases q : h.1 < 8
  · refine j_icmp_ge X (tgt := 22) dX2_keep_6 (by decide) (fun q9 => absurd q9 (nI_ge q (by decide))) (fun _ => ?_)
    refine j_aload_n X (i := 0) dX2_keep_9 rfl rfl ?_
    refine j_dup X dX2_keep_10 rfl ?_
    refine jFd.get X fd_X2_21 D1 rfl dX2_keep_11 ?_
    rw [h2]
    refine j_iconst X (v := (nI 1)) dX2_keep_14 (by decide) ?_
    refine j_iadd X dX2_keep_15 ?_
    rw [nI_add]
    refine jFd.put X fd_X2_21 D1 rfl rfl rfl rfl dX2_keep_16 ?_
    refine j_goto X (tgt := 35) dX2_keep_19 (by decide) ?_
    exact j_vret X dX2_keep_35 rfl ⟨rfl, rfl, rfl, hO.push hV (fun c h8 _ => jU_ne _ _ _ (by omega)) (by rw [if_pos q, jU_eq]; exact h1) (by rw [if_pos q, jU_eq]; rfl), fun c hc => jU_ne _ _ _ hc⟩
  · refine j_icmp_ge X (tgt := 22) dX2_keep_6 (by decide) (fun _ => ?_) (fun q9 => absurd (nI_le (by omega) (by omega)) q9)
    refine j_aload_n X (i := 0) dX2_keep_22 rfl rfl ?_
    refine j_aload_n X (i := 0) dX2_keep_23 rfl rfl ?_
    refine jFd.get X fd_X2_17 D1 rfl dX2_keep_24 ?_
    rw [h1]
    refine j_iconst X (v := (nI 1)) dX2_keep_27 (by decide) ?_
    refine j_iadd X dX2_keep_28 ?_
    rw [nI_add]
    refine j_bipush X (v := (nI 9)) dX2_keep_29 (by decide) ?_
    refine j_irem X dX2_keep_31 (by decide) ?_
    rw [pk_rem2 (by omega) (by decide) (by decide)]
    refine jFd.put X fd_X2_17 D1 rfl rfl rfl rfl dX2_keep_32 ?_
    exact j_vret X dX2_keep_35 rfl ⟨rfl, rfl, rfl, hO.push hV (fun c h8 _ => jU_ne _ _ _ (by omega)) (by rw [if_neg q, jU_eq]; rfl) (by rw [if_neg q, jU_eq]; exact h2.trans (congrArg nI (by omega))), fun c hc => jU_ne _ _ _ hc⟩

theorem s_takeLatest {l : Launch} {g : jG} (hok : jOk g) (hst : l.stackTraces = false) {z : Option Nat} {sk : jS} {t : jT} (hD : isHist g sk) {o n : Nat} (h1 : t 81 1 = nI o) (h2 : t 81 2 = nI (n + 1)) (ho : o < 9) (hn : n < 8) : jMet l g mX2_takeLatest 2 0 0 [.ref (jb g + 81)] z sk t (jE (some (.ref (jb g + slH o n))) z sk (jU t 81 2 (nI n))) := by
  refine j_body (lv := [some (.ref (jb g + 81))]) i_X2_takeLatest hok hst (fun p e s m args below meth c X => ?_)
  obtain ⟨D1, D2, D3⟩ := id hD
  refine j_aload_n X (i := 0) dX2_takeLatest_0 rfl rfl ?_
  refine j_dup X dX2_takeLatest_1 rfl ?_
  refine jFd.get X fd_X2_21 D1 rfl dX2_takeLatest_2 ?_
  rw [h2]
  refine j_iconst X (v := (nI 1)) dX2_takeLatest_5 (by decide) ?_
  refine j_isub X dX2_takeLatest_6 ?_
  rw [pk_sub (by omega), Nat.add_sub_cancel]
  refine jFd.put X fd_X2_21 D1 rfl rfl rfl rfl dX2_takeLatest_7 ?_
  refine j_aload_n X (i := 0) dX2_takeLatest_10 rfl rfl ?_
  refine j_callV X (s_prepared hok hst hD (o := o) (n := n) (by rw [jU_eq]; exact h1) (by rw [jU_eq]; rfl) ho (by omega)) i_X2_prepared tw_2_193 tw_2_194 tw_2_195 D1 rfl dX2_takeLatest_11 ?_ 
  exact j_aret X dX2_takeLatest_14 rfl ⟨rfl, rfl, rfl, rfl⟩

theorem s_hclear {l : Launch} {g : jG} (hok : jOk g) (hst : l.stackTraces = false) {z : Option Nat} {sk : jS} {t : jT} (hD : isHist g sk) : jMet l g mX2_clear 1 0 0 [.ref (jb g + 81)] z sk t (jE none z sk (jU t 81 2 (nI 0))) := by
  refine j_body (lv := [some (.ref (jb g + 81))]) i_X2_clear hok hst (fun p e s m args below meth c X => ?_)
  obtain ⟨D1, D2, D3⟩ := id hD
  refine j_aload_n X (i := 0) dX2_clear_0 rfl rfl ?_
  refine j_iconst X (v := (nI 0)) dX2_clear_1 (by decide) ?_
  refine jFd.put X fd_X2_21 D1 rfl rfl rfl rfl dX2_clear_2 ?_
  exact j_vret X dX2_clear_5 rfl ⟨rfl, rfl, rfl, rfl⟩

/-- the exception of a fault -/
def flN (m : Int) : Option String := if m = -1 then some "java/lang/IndexOutOfBoundsException" else if m = -2 then some "java/lang/IllegalArgumentException" else if m = -3 then some "java/lang/IllegalStateException" else if m = -4 then some "java/util/NoSuchElementException" else if m = -5 then some "java/lang/UnsupportedOperationException" else none
theorem s_throw {l : Launch} {g : jG} (hok : jOk g) (hst : l.stackTraces = false) {z : Option Nat} {sk : jS} {t : jT} {f0 : Int} (h1 : -5 ≤ f0) (h2 : f0 < 2147483648) : jMetX l g mX9_throwForFault 6 1 6 [.int (iN f0)] z sk t (fun v2 z2 sk2 t2 => 0 ≤ f0 ∧ v2 = none ∧ z = z2 ∧ sk = sk2 ∧ t = t2) (fun E z2 sk2 t2 => flN f0 = some E ∧ z2 = none ∧ sk2 = sk ∧ t2 = t) := by
  refine j_bodyX (lv := [some (.int (iN f0))]) i_X9_throwForFault hok hst (fun p e s m args below meth c X => ?_)
  have hi : (iN f0).toInt = f0 := iN_toInt (by omega) h2
  refine j_iload_n X (i := 0) dX9_throwForFault_0 rfl rfl ?_
  by_cases h0 : 0 ≤ f0
  · refine j_tableOut X (tgt := 91) dX9_throwForFault_1 (Or.inr (by rw [hi]; omega)) (by decide) ?_
    exact j_vret_x X dX9_throwForFault_91 rfl ⟨h0, rfl, rfl, rfl, rfl⟩
  · rcases (show f0 = -1 ∨ f0 = -2 ∨ f0 = -3 ∨ f0 = -4 ∨ f0 = -5 by omega) with rfl | rfl | rfl | rfl | rfl
    · refine j_tableIn X (off := 35) (tgt := 36) dX9_throwForFault_1 (by decide) (by decide) rfl (by decide) ?_
      exact j_throwSW X thr_IO hok.x343 dX9_throwForFault_36 dX9_throwForFault_39 dX9_throwForFault_40 dX9_throwForFault_43 dX9_throwForFault_46 (⟨rfl, rfl, rfl, rfl⟩)
    · refine j_tableIn X (off := 46) (tgt := 47) dX9_throwForFault_1 (by decide) (by decide) rfl (by decide) ?_
      exact j_throwSW X thr_IA hok.x345 dX9_throwForFault_47 dX9_throwForFault_50 dX9_throwForFault_51 dX9_throwForFault_54 dX9_throwForFault_57 (⟨rfl, rfl, rfl, rfl⟩)
    · refine j_tableIn X (off := 57) (tgt := 58) dX9_throwForFault_1 (by decide) (by decide) rfl (by decide) ?_
      exact j_throwSW X thr_IS hok.x347 dX9_throwForFault_58 dX9_throwForFault_61 dX9_throwForFault_62 dX9_throwForFault_65 dX9_throwForFault_68 (⟨rfl, rfl, rfl, rfl⟩)
    · refine j_tableIn X (off := 68) (tgt := 69) dX9_throwForFault_1 (by decide) (by decide) rfl (by decide) ?_
      exact j_throwNW X thr_NS hok.x349 dX9_throwForFault_69 dX9_throwForFault_72 dX9_throwForFault_73 dX9_throwForFault_76 dX9_throwForFault_79 (⟨rfl, rfl, rfl, rfl⟩)
    · refine j_tableIn X (off := 79) (tgt := 80) dX9_throwForFault_1 (by decide) (by decide) rfl (by decide) ?_
      exact j_throwSW X thr_UO hok.x351 dX9_throwForFault_80 dX9_throwForFault_83 dX9_throwForFault_84 dX9_throwForFault_87 dX9_throwForFault_90 (⟨rfl, rfl, rfl, rfl⟩)

