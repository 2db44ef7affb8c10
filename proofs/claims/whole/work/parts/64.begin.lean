/-- a press that is being made: its first n parts stand -/
def prI (g : jG) (kw : Nat → Nat) (sk : jS) (t : jT) (n : Nat) (k9 : jK) (sk1 : jS) (t1 : jT) : Prop := sk1 0 = some k9 ∧ (1 ≤ n → isShop g sk1 1 ∧ RcV t1 1 v0) ∧ (2 ≤ n → isShop g sk1 41) ∧ (3 ≤ n → isHist g sk1 ∧ t1 81 1 = nI 0 ∧ t1 81 2 = nI 0) ∧ (4 ≤ n → isFit sk1 g ∧ RcF t1 443) ∧ (5 ≤ n → sk1 449 = some jRef ∧ RcR t1 449 none) ∧ (6 ≤ n → (sk1 450 = some (jInp g kw) ∧ sk1 451 = some (kA .char 60)) ∧ t1 450 1 = nI 0) ∧ (7 ≤ n → sk1 452 = some (kA .char 16)) ∧ (8 ≤ n → sk1 453 = some (kA .int 8)) ∧ ∀ a, 454 ≤ a → sk1 a = sk a ∧ t1 a = t a
def prP (n : Nat) : Nat := if n = 0 then 1 else if n = 1 then 41 else if n = 2 then 81 else if n = 3 then 443 else if n = 4 then 449 else if n = 5 then 450 else if n = 6 then 452 else if n = 7 then 453 else 454
/-- what stood ahead of the next part stands on -/
theorem prI.keep {g : jG} {kw : Nat → Nat} {sk sk1 sk2 : jS} {t t1 t2 : jT} {n : Nat} {k9 k8 : jK} (I : prI g kw sk t n k9 sk1 t1) (hn : n ≤ 8) (h0 : sk2 0 = some k8) (e : ∀ a, (0 < a ∧ a < prP n ∨ 454 ≤ a) → sk2 a = sk1 a ∧ t2 a = t1 a) : prI g kw sk t n k8 sk2 t2 := by
  obtain ⟨i0, i1, i2, i3, i4, i5, i6, i7, i8, i9⟩ := I
  obtain ⟨p1, p2, p3, p4, p5, p6, p7, p8⟩ := (show ∀ n, n < 9 → (1 ≤ n → 41 ≤ prP n) ∧ (2 ≤ n → 81 ≤ prP n) ∧ (3 ≤ n → 443 ≤ prP n) ∧ (4 ≤ n → 449 ≤ prP n) ∧ (5 ≤ n → 450 ≤ prP n) ∧ (6 ≤ n → 452 ≤ prP n) ∧ (7 ≤ n → 453 ≤ prP n) ∧ (8 ≤ n → 454 ≤ prP n) by decide) n (by omega)
  refine ⟨h0, fun h => ?_, fun h => ?_, fun h => ?_, fun h => ?_, fun h => ?_, fun h => ?_, fun h => ?_, fun h => ?_, fun a ha => ⟨(e a (by omega)).1.trans (i9 a ha).1, (e a (by omega)).2.trans (i9 a ha).2⟩⟩
  · have q := p1 h
    exact ⟨(i1 h).1.cong fun c a b => (e c (by omega)).1, (i1 h).2.cong fun c a b => (e c (by omega)).2⟩
  · have q := p2 h
    exact (i2 h).cong fun c a b => (e c (by omega)).1
  · have q := p3 h
    obtain ⟨j1, j2, j3⟩ := i3 h
    exact ⟨j1.cong fun c a b => (e c (by omega)).1, by rw [(e 81 (by omega)).2]; exact j2, by rw [(e 81 (by omega)).2]; exact j3⟩
  · have q := p4 h
    obtain ⟨⟨j1, j2, j3, j4, j5, j6⟩, j7⟩ := i4 h
    exact ⟨⟨(e _ (by omega)).1.trans j1, (e _ (by omega)).1.trans j2, (e _ (by omega)).1.trans j3, (e _ (by omega)).1.trans j4, (e _ (by omega)).1.trans j5, (e _ (by omega)).1.trans j6⟩, j7.cong (e _ (by omega)).2⟩
  · have q := p5 h
    exact ⟨(e _ (by omega)).1.trans (i5 h).1, (i5 h).2.cong (e _ (by omega)).2⟩
  · have q := p6 h
    obtain ⟨⟨j1, j2⟩, j3⟩ := i6 h
    exact ⟨⟨(e _ (by omega)).1.trans j1, (e _ (by omega)).1.trans j2⟩, by rw [(e 450 (by omega)).2]; exact j3⟩
  · have q := p7 h
    exact (e _ (by omega)).1.trans (i7 h)
  · have q := p8 h
    exact (e _ (by omega)).1.trans (i8 h)
theorem c_Press {l : Launch} {g : jG} (hok : jOk g) (hst : l.stackTraces = false) {z : Option Nat} {sk : jS} {t : jT} (hz : z = some 1) (h0 : sk 0 = some k0_X9) {K w9 : Nat} {kw sa : Nat → Nat} (hK9 : oKw g K kw sa w9) : jMet l g mX9_init 5 453 5952 [.ref (jb g + 0)] z sk t (fun v2 z2 sk2 t2 => v2 = none ∧ z2 = some 454 ∧ isPr g kw sk2 ∧ RcG t2 g0 ∧ ∀ a, 454 ≤ a → sk2 a = sk a ∧ t2 a = t a) := by
  subst hz
  refine j_body (lv := [some (.ref (jb g + 0))]) i_X9_init hok hst (fun p e s m args below meth c X => ?_)
  refine j_aload_n X (i := 0) dX9_init_0 rfl rfl ?_
  refine j_objInit X tw_1_36 tw_1_37 tw_1_38 dX9_init_1 ?_
  refine j_gen (prI g kw sk t 0 k0_X9) ⟨h0, fun h => absurd h (by omega), fun h => absurd h (by omega), fun h => absurd h (by omega), fun h => absurd h (by omega), fun h => absurd h (by omega), fun h => absurd h (by omega), fun h => absurd h (by omega), fun h => absurd h (by omega), fun a _ => ⟨rfl, rfl⟩⟩ (fun sk1 t1 I => ?_)
  refine j_aload_n X (i := 0) dX9_init_4 rfl rfl ?_
  refine j_new X nw_X8 tw_1_39 dX9_init_5 ?_ 
  refine j_dup X dX9_init_8 rfl ?_
  refine j_callI_p X (c_Shop hok hst (b := 1) rfl (jN_eq _ _ _)) i_X8_init tw_1_41 tw_1_42 rfl rfl dX9_init_9 (fun v2 z2 sk2 t2 hp => ?_) 
  obtain ⟨rfl, rfl, p1, p2, p3⟩ := hp
  have z0 : sk2 0 = some (kO 9 [fun _ => .null, fun _ => .null, fun _ => .null, fun _ => .null, fun _ => .null, fun _ => .null, fun _ => .null, fun _ => .null, .int, .int, .int, .int]) := (p3 0 (by omega)).1.trans ((jN_ne _ _ (by omega)).trans I.1)
  refine jFd.putR X fd_X9_12 ⟨_, rfl, tw_2_2⟩ rfl rfl z0 (by exact Nat.le_of_ble_eq_true rfl) rfl rfl dX9_init_12 ?_
  refine j_gen (prI g kw sk t 1 (kO 9 [fun _ => .ref (jb g + 1), fun _ => .null, fun _ => .null, fun _ => .null, fun _ => .null, fun _ => .null, fun _ => .null, fun _ => .null, .int, .int, .int, .int])) ?_ (fun sk1 t1 I => ?_)
  · have J := I.keep (sk2 := jN sk2 0 (kO 9 [fun _ => .ref (jb g + 1), fun _ => .null, fun _ => .null, fun _ => .null, fun _ => .null, fun _ => .null, fun _ => .null, fun _ => .null, .int, .int, .int, .int])) (t2 := t2) (k8 := kO 9 [fun _ => .ref (jb g + 1), fun _ => .null, fun _ => .null, fun _ => .null, fun _ => .null, fun _ => .null, fun _ => .null, fun _ => .null, .int, .int, .int, .int]) (by omega) (jN_eq _ _ _) (fun a ha => by have ha : 0 < a ∧ a < 1 ∨ 454 ≤ a := ha; exact ⟨(jN_ne _ _ (by omega)).trans ((p3 a (by omega)).1.trans (jN_ne _ _ (by omega))), (p3 a (by omega)).2.trans (jT0_ne _ (by omega))⟩)
    exact ⟨J.1, fun _ => ⟨p1.cong fun c a b => (jN_ne _ _ (by omega)), p2⟩, fun h => absurd h (by omega), fun h => absurd h (by omega), fun h => absurd h (by omega), fun h => absurd h (by omega), fun h => absurd h (by omega), fun h => absurd h (by omega), fun h => absurd h (by omega), J.2.2.2.2.2.2.2.2.2⟩
  refine j_aload_n X (i := 0) dX9_init_15 rfl rfl ?_
  refine j_new X nw_X8 tw_1_39 dX9_init_16 ?_ 
  refine j_dup X dX9_init_19 rfl ?_
  refine j_callI_p X (c_Shop hok hst (b := 41) rfl (jN_eq _ _ _)) i_X8_init tw_1_41 tw_1_42 rfl rfl dX9_init_20 (fun v2 z2 sk2 t2 hp => ?_) 
  obtain ⟨rfl, rfl, p1, -, p3⟩ := hp
  have z0 : sk2 0 = some (kO 9 [fun _ => .ref (jb g + 1), fun _ => .null, fun _ => .null, fun _ => .null, fun _ => .null, fun _ => .null, fun _ => .null, fun _ => .null, .int, .int, .int, .int]) := (p3 0 (by omega)).1.trans ((jN_ne _ _ (by omega)).trans I.1)
  refine jFd.putR X fd_X9_16 ⟨_, rfl, tw_2_3⟩ rfl rfl z0 (by exact Nat.le_of_ble_eq_true rfl) rfl rfl dX9_init_23 ?_
  refine j_gen (prI g kw sk t 2 (kO 9 [fun _ => .ref (jb g + 1), fun _ => .ref (jb g + 41), fun _ => .null, fun _ => .null, fun _ => .null, fun _ => .null, fun _ => .null, fun _ => .null, .int, .int, .int, .int])) ?_ (fun sk1 t1 I => ?_)
  · have J := I.keep (sk2 := jN sk2 0 (kO 9 [fun _ => .ref (jb g + 1), fun _ => .ref (jb g + 41), fun _ => .null, fun _ => .null, fun _ => .null, fun _ => .null, fun _ => .null, fun _ => .null, .int, .int, .int, .int])) (t2 := t2) (k8 := kO 9 [fun _ => .ref (jb g + 1), fun _ => .ref (jb g + 41), fun _ => .null, fun _ => .null, fun _ => .null, fun _ => .null, fun _ => .null, fun _ => .null, .int, .int, .int, .int]) (by omega) (jN_eq _ _ _) (fun a ha => by have ha : 0 < a ∧ a < 41 ∨ 454 ≤ a := ha; exact ⟨(jN_ne _ _ (by omega)).trans ((p3 a (by omega)).1.trans (jN_ne _ _ (by omega))), (p3 a (by omega)).2.trans (jT0_ne _ (by omega))⟩)
    exact ⟨J.1, fun _ => (J.2.1 (by omega)), fun _ => p1.cong fun c a b => (jN_ne _ _ (by omega)), fun h => absurd h (by omega), fun h => absurd h (by omega), fun h => absurd h (by omega), fun h => absurd h (by omega), fun h => absurd h (by omega), fun h => absurd h (by omega), J.2.2.2.2.2.2.2.2.2⟩
  refine j_aload_n X (i := 0) dX9_init_26 rfl rfl ?_
  refine j_new X nw_X2 tw_1_131 dX9_init_27 ?_ 
  refine j_dup X dX9_init_30 rfl ?_
  refine j_callI_p X (c_History hok hst rfl (jN_eq _ _ _)) i_X2_init tw_1_133 tw_1_134 rfl rfl dX9_init_31 (fun v2 z2 sk2 t2 hp => ?_) 
  obtain ⟨rfl, rfl, p1⟩ := hp
  have z0 : sk2 0 = some (kO 9 [fun _ => .ref (jb g + 1), fun _ => .ref (jb g + 41), fun _ => .null, fun _ => .null, fun _ => .null, fun _ => .null, fun _ => .null, fun _ => .null, .int, .int, .int, .int]) := (p1.2.2.2.2 0 (by omega)).1.trans ((jN_ne _ _ (by omega)).trans I.1)
  refine jFd.putR X fd_X9_22 ⟨_, rfl, tw_2_4⟩ rfl rfl z0 (by exact Nat.le_of_ble_eq_true rfl) rfl rfl dX9_init_34 ?_
  refine j_gen (prI g kw sk t 3 (kO 9 [fun _ => .ref (jb g + 1), fun _ => .ref (jb g + 41), fun _ => .ref (jb g + 81), fun _ => .null, fun _ => .null, fun _ => .null, fun _ => .null, fun _ => .null, .int, .int, .int, .int])) ?_ (fun sk1 t1 I => ?_)
  · have J := I.keep (sk2 := jN sk2 0 (kO 9 [fun _ => .ref (jb g + 1), fun _ => .ref (jb g + 41), fun _ => .ref (jb g + 81), fun _ => .null, fun _ => .null, fun _ => .null, fun _ => .null, fun _ => .null, .int, .int, .int, .int])) (t2 := t2) (k8 := kO 9 [fun _ => .ref (jb g + 1), fun _ => .ref (jb g + 41), fun _ => .ref (jb g + 81), fun _ => .null, fun _ => .null, fun _ => .null, fun _ => .null, fun _ => .null, .int, .int, .int, .int]) (by omega) (jN_eq _ _ _) (fun a ha => by have ha : 0 < a ∧ a < 81 ∨ 454 ≤ a := ha; exact ⟨(jN_ne _ _ (by omega)).trans ((p1.2.2.2.2 a (by omega)).1.trans (jN_ne _ _ (by omega))), (p1.2.2.2.2 a (by omega)).2.trans (jT0_ne _ (by omega))⟩)
    exact ⟨J.1, fun _ => (J.2.1 (by omega)), fun _ => J.2.2.1 (by omega), fun _ => ⟨p1.hist.cong fun c a b => (jN_ne _ _ (by omega)), p1.2.2.1⟩, fun h => absurd h (by omega), fun h => absurd h (by omega), fun h => absurd h (by omega), fun h => absurd h (by omega), fun h => absurd h (by omega), J.2.2.2.2.2.2.2.2.2⟩
  refine j_aload_n X (i := 0) dX9_init_37 rfl rfl ?_
  refine j_new X nw_X1 tw_1_151 dX9_init_38 ?_ 
  refine j_dup X dX9_init_41 rfl ?_
  refine j_callIN_p X (c_Fitting hok hst (b := 443) rfl (jN_eq _ _ _)) i_X1_init tw_1_153 tw_1_154 rfl rfl dX9_init_42 (fun v2 z2 sk2 t2 hp => ?_) 
  obtain ⟨rfl, rfl, p1, p2, p3⟩ := hp
  have z0 : sk2 0 = some (kO 9 [fun _ => .ref (jb g + 1), fun _ => .ref (jb g + 41), fun _ => .ref (jb g + 81), fun _ => .null, fun _ => .null, fun _ => .null, fun _ => .null, fun _ => .null, .int, .int, .int, .int]) := (p3 0 (by omega)).1.trans ((jN_ne _ _ (by omega)).trans I.1)
  refine jFd.putR X fd_X9_29 ⟨_, rfl, tw_2_5⟩ rfl rfl z0 (by exact Nat.le_of_ble_eq_true rfl) rfl rfl dX9_init_45 ?_
  refine j_gen (prI g kw sk t 4 (kO 9 [fun _ => .ref (jb g + 1), fun _ => .ref (jb g + 41), fun _ => .ref (jb g + 81), fun _ => .ref (jb g + 443), fun _ => .null, fun _ => .null, fun _ => .null, fun _ => .null, .int, .int, .int, .int])) ?_ (fun sk1 t1 I => ?_)
  · have J := I.keep (sk2 := jN sk2 0 (kO 9 [fun _ => .ref (jb g + 1), fun _ => .ref (jb g + 41), fun _ => .ref (jb g + 81), fun _ => .ref (jb g + 443), fun _ => .null, fun _ => .null, fun _ => .null, fun _ => .null, .int, .int, .int, .int])) (t2 := t2) (k8 := kO 9 [fun _ => .ref (jb g + 1), fun _ => .ref (jb g + 41), fun _ => .ref (jb g + 81), fun _ => .ref (jb g + 443), fun _ => .null, fun _ => .null, fun _ => .null, fun _ => .null, .int, .int, .int, .int]) (by omega) (jN_eq _ _ _) (fun a ha => by have ha : 0 < a ∧ a < 443 ∨ 454 ≤ a := ha; exact ⟨(jN_ne _ _ (by omega)).trans ((p3 a (by omega)).1.trans (jN_ne _ _ (by omega))), (p3 a (by omega)).2.trans (jT0_ne _ (by omega))⟩)
    exact ⟨J.1, fun _ => (J.2.1 (by omega)), fun _ => J.2.2.1 (by omega), fun _ => J.2.2.2.1 (by omega), fun _ => ⟨⟨(jN_ne _ _ (by omega)).trans p1.1, (jN_ne _ _ (by omega)).trans p1.2.1, (jN_ne _ _ (by omega)).trans p1.2.2.1, (jN_ne _ _ (by omega)).trans p1.2.2.2.1, (jN_ne _ _ (by omega)).trans p1.2.2.2.2.1, (jN_ne _ _ (by omega)).trans p1.2.2.2.2.2⟩, p2⟩, fun h => absurd h (by omega), fun h => absurd h (by omega), fun h => absurd h (by omega), fun h => absurd h (by omega), J.2.2.2.2.2.2.2.2.2⟩
  refine j_aload_n X (i := 0) dX9_init_48 rfl rfl ?_
  refine j_new X nw_X6 tw_1_188 dX9_init_49 ?_ 
  refine j_dup X dX9_init_52 rfl ?_
  refine j_callIN_p X (c_Refusal hok hst (b := 449) (jN_eq _ _ _)) i_X6_init tw_1_190 tw_1_191 rfl rfl dX9_init_53 (fun v2 z2 sk2 t2 hp => ?_) 
  obtain ⟨rfl, rfl, rfl, p2, p3⟩ := hp
  have z0 : (jN sk1 449 jRef) 0 = some (kO 9 [fun _ => .ref (jb g + 1), fun _ => .ref (jb g + 41), fun _ => .ref (jb g + 81), fun _ => .ref (jb g + 443), fun _ => .null, fun _ => .null, fun _ => .null, fun _ => .null, .int, .int, .int, .int]) := (jN_ne _ _ (by omega)).trans I.1
  refine jFd.putR X fd_X9_36 ⟨_, rfl, tw_2_6⟩ rfl rfl z0 (by exact Nat.le_of_ble_eq_true rfl) rfl rfl dX9_init_56 ?_
  refine j_gen (prI g kw sk t 5 (kO 9 [fun _ => .ref (jb g + 1), fun _ => .ref (jb g + 41), fun _ => .ref (jb g + 81), fun _ => .ref (jb g + 443), fun _ => .ref (jb g + 449), fun _ => .null, fun _ => .null, fun _ => .null, .int, .int, .int, .int])) ?_ (fun sk1 t1 I => ?_)
  · have J := I.keep (sk2 := jN (jN sk1 449 jRef) 0 (kO 9 [fun _ => .ref (jb g + 1), fun _ => .ref (jb g + 41), fun _ => .ref (jb g + 81), fun _ => .ref (jb g + 443), fun _ => .ref (jb g + 449), fun _ => .null, fun _ => .null, fun _ => .null, .int, .int, .int, .int])) (t2 := t2) (k8 := kO 9 [fun _ => .ref (jb g + 1), fun _ => .ref (jb g + 41), fun _ => .ref (jb g + 81), fun _ => .ref (jb g + 443), fun _ => .ref (jb g + 449), fun _ => .null, fun _ => .null, fun _ => .null, .int, .int, .int, .int]) (by omega) (jN_eq _ _ _) (fun a ha => by have ha : 0 < a ∧ a < 449 ∨ 454 ≤ a := ha; exact ⟨(jN_ne _ _ (by omega)).trans ((jN_ne _ _ (by omega))), (p3 a (by omega)).trans (jT0_ne _ (by omega))⟩)
    exact ⟨J.1, fun _ => (J.2.1 (by omega)), fun _ => J.2.2.1 (by omega), fun _ => J.2.2.2.1 (by omega), fun _ => J.2.2.2.2.1 (by omega), fun _ => ⟨(jN_ne _ _ (by omega)).trans (jN_eq _ _ _), p2⟩, fun h => absurd h (by omega), fun h => absurd h (by omega), fun h => absurd h (by omega), J.2.2.2.2.2.2.2.2.2⟩
  refine j_aload_n X (i := 0) dX9_init_59 rfl rfl ?_
  refine j_new X nw_X3 tw_1_203 dX9_init_60 ?_ 
  refine j_dup X dX9_init_63 rfl ?_
  refine j_callIN_p X (c_Input hok hst rfl (jN_eq _ _ _) hK9) i_X3_init tw_1_205 tw_1_206 rfl rfl dX9_init_64 (fun v2 z2 sk2 t2 hp => ?_) 
  obtain ⟨rfl, rfl, p1, p2, p3⟩ := hp
  have z0 : sk2 0 = some (kO 9 [fun _ => .ref (jb g + 1), fun _ => .ref (jb g + 41), fun _ => .ref (jb g + 81), fun _ => .ref (jb g + 443), fun _ => .ref (jb g + 449), fun _ => .null, fun _ => .null, fun _ => .null, .int, .int, .int, .int]) := (p3 0 (by omega)).1.trans ((jN_ne _ _ (by omega)).trans I.1)
  refine jFd.putR X fd_X9_43 ⟨_, rfl, tw_2_7⟩ rfl rfl z0 (by exact Nat.le_of_ble_eq_true rfl) rfl rfl dX9_init_67 ?_
  refine j_gen (prI g kw sk t 6 (kO 9 [fun _ => .ref (jb g + 1), fun _ => .ref (jb g + 41), fun _ => .ref (jb g + 81), fun _ => .ref (jb g + 443), fun _ => .ref (jb g + 449), fun _ => .ref (jb g + 450), fun _ => .null, fun _ => .null, .int, .int, .int, .int])) ?_ (fun sk1 t1 I => ?_)
  · have J := I.keep (sk2 := jN sk2 0 (kO 9 [fun _ => .ref (jb g + 1), fun _ => .ref (jb g + 41), fun _ => .ref (jb g + 81), fun _ => .ref (jb g + 443), fun _ => .ref (jb g + 449), fun _ => .ref (jb g + 450), fun _ => .null, fun _ => .null, .int, .int, .int, .int])) (t2 := t2) (k8 := kO 9 [fun _ => .ref (jb g + 1), fun _ => .ref (jb g + 41), fun _ => .ref (jb g + 81), fun _ => .ref (jb g + 443), fun _ => .ref (jb g + 449), fun _ => .ref (jb g + 450), fun _ => .null, fun _ => .null, .int, .int, .int, .int]) (by omega) (jN_eq _ _ _) (fun a ha => by have ha : 0 < a ∧ a < 450 ∨ 454 ≤ a := ha; exact ⟨(jN_ne _ _ (by omega)).trans ((p3 a (by omega)).1.trans (jN_ne _ _ (by omega))), (p3 a (by omega)).2.trans (jT0_ne _ (by omega))⟩)
    exact ⟨J.1, fun _ => (J.2.1 (by omega)), fun _ => J.2.2.1 (by omega), fun _ => J.2.2.2.1 (by omega), fun _ => J.2.2.2.2.1 (by omega), fun _ => J.2.2.2.2.2.1 (by omega), fun _ => ⟨⟨(jN_ne _ _ (by omega)).trans p1.1, (jN_ne _ _ (by omega)).trans p1.2⟩, p2⟩, fun h => absurd h (by omega), fun h => absurd h (by omega), J.2.2.2.2.2.2.2.2.2⟩
  refine j_aload_n X (i := 0) dX9_init_70 rfl rfl ?_
  refine j_bipush X (v := (nI 16)) dX9_init_71 (by decide) ?_
  refine j_newarray X (ty := .char) (N := 16) (k9 := kA .char 16) rfl (by decide) tw_2_1 rfl (by decide) (by decide) dX9_init_73 ?_ 
  refine jFd.putR X fd_X9_47 ⟨_, rfl, tw_2_8⟩ rfl rfl ((jN_ne _ _ (by omega)).trans I.1) (by exact Nat.le_of_ble_eq_true rfl) rfl rfl dX9_init_75 ?_
  refine j_aload_n X (i := 0) dX9_init_78 rfl rfl ?_
  refine j_bipush X (v := (nI 8)) dX9_init_79 (by decide) ?_
  refine j_newarray X (ty := .int) (N := 8) (k9 := kA .int 8) rfl (by decide) tw_1_77 rfl (by decide) (by decide) dX9_init_81 ?_ 
  refine jFd.putR X fd_X9_51 ⟨_, rfl, tw_2_9⟩ rfl rfl ((jN_ne _ _ (by omega)).trans (jN_eq _ _ _)) (by exact Nat.le_of_ble_eq_true rfl) rfl rfl dX9_init_83 ?_
  refine j_gen (prI g kw sk t 8 (jPress g)) ?_ (fun sk1 t1 I => ?_)
  · have J := I.keep (sk2 := jN (jN (jN (jN sk1 452 (kA .char 16)) 0 (kO 9 [fun _ => .ref (jb g + 1), fun _ => .ref (jb g + 41), fun _ => .ref (jb g + 81), fun _ => .ref (jb g + 443), fun _ => .ref (jb g + 449), fun _ => .ref (jb g + 450), fun _ => .ref (jb g + 452), fun _ => .null, .int, .int, .int, .int])) 453 (kA .int 8)) 0 (jPress g)) (t2 := jT0 (jT0 t1 452) 453) (k8 := jPress g) (by omega) (jN_eq _ _ _) (fun a ha => by have ha : 0 < a ∧ a < 452 ∨ 454 ≤ a := ha; exact ⟨by rw [jN_ne _ _ (by omega), jN_ne _ _ (by omega), jN_ne _ _ (by omega), jN_ne _ _ (by omega)], by rw [jT0_ne _ (by omega), jT0_ne _ (by omega)]⟩)
    exact ⟨J.1, fun _ => J.2.1 (by omega), fun _ => J.2.2.1 (by omega), fun _ => J.2.2.2.1 (by omega), fun _ => J.2.2.2.2.1 (by omega), fun _ => J.2.2.2.2.2.1 (by omega), fun _ => J.2.2.2.2.2.2.1 (by omega), fun _ => ((jN_ne _ _ (by omega)).trans ((jN_ne _ _ (by omega)).trans ((jN_ne _ _ (by omega)).trans (jN_eq _ _ _)))), fun _ => ((jN_ne _ _ (by omega)).trans (jN_eq _ _ _)), J.2.2.2.2.2.2.2.2.2⟩
  obtain ⟨i0, i1, i2, i3, i4, i5, i6, i7, i8, i9⟩ := I
  refine j_aload_n X (i := 0) dX9_init_86 rfl rfl ?_
  refine j_iconst X (v := (nI 0)) dX9_init_87 (by decide) ?_
  refine jFd.put X fd_X9_55 i0 rfl rfl rfl rfl dX9_init_88 ?_
  refine j_aload_n X (i := 0) dX9_init_91 rfl rfl ?_
  refine j_iconst X (v := -1) dX9_init_92 (by decide) ?_
  refine jFd.put X fd_X9_59 i0 rfl rfl rfl rfl dX9_init_93 ?_
  refine j_aload_n X (i := 0) dX9_init_96 rfl rfl ?_
  refine j_iconst X (v := -1) dX9_init_97 (by decide) ?_
  refine jFd.put X fd_X9_62 i0 rfl rfl rfl rfl dX9_init_98 ?_
  refine j_aload_n X (i := 0) dX9_init_101 rfl rfl ?_
  refine j_iconst X (v := (nI 0)) dX9_init_102 (by decide) ?_
  refine jFd.put X fd_X9_65 i0 rfl rfl rfl rfl dX9_init_103 ?_
  have e0 : ∀ a, a ≠ 0 → jU (jU (jU (jU t1 0 8 (nI 0)) 0 9 (-1)) 0 10 (-1)) 0 11 (nI 0) a = t1 a := fun a ha => by rw [jU_ne _ _ _ ha, jU_ne _ _ _ ha, jU_ne _ _ _ ha, jU_ne _ _ _ ha]
  have e1 : jU (jU (jU (jU t1 0 8 (nI 0)) 0 9 (-1)) 0 10 (-1)) 0 11 (nI 0) 0 = upd (upd (upd (upd (t1 0) 8 (nI 0)) 9 (-1)) 10 (-1)) 11 (nI 0) := by rw [jU_eq, jU_eq, jU_eq, jU_eq]
  generalize jU (jU (jU (jU t1 0 8 (nI 0)) 0 9 (-1)) 0 10 (-1)) 0 11 (nI 0) = t3 at e0 e1 ⊢
  obtain ⟨a1, a2⟩ := i1 (by omega)
  obtain ⟨a3, a4, a5⟩ := i3 (by omega)
  obtain ⟨a6, a7⟩ := i4 (by omega)
  obtain ⟨a8, a9⟩ := i5 (by omega)
  obtain ⟨b1, b2⟩ := i6 (by omega)
  exact j_vret X dX9_init_106 rfl ⟨rfl, rfl, ⟨i0, a1, i2 (by omega), a3, a6, a8, b1, i7 (by omega), i8 (by omega)⟩, ⟨a2.cong fun c a b => e0 c (by omega), by show t3 0 11 = nI 0; rw [e1]; rfl, ⟨0, by rw [e0 81 (by decide)]; exact a4, by rw [e0 81 (by decide)]; exact a5, by decide, Nat.zero_le _, fun i hi => absurd hi (Nat.not_lt_zero i)⟩, a7.cong (e0 _ (by decide)), a9.cong (e0 _ (by decide)), ⟨by rw [e0 450 (by decide)]; exact b2, fun i hi => absurd hi (Nat.not_lt_zero i)⟩, ⟨by rw [e1]; rfl, fun i hi => absurd hi (Nat.not_lt_zero i)⟩, by rw [e1]; rfl, by rw [e1]; rfl⟩, fun a ha => ⟨(i9 a ha).1, (e0 a (by omega)).trans (i9 a ha).2⟩⟩

theorem c_Model {l : Launch} {g : jG} (hok : jOk g) (hst : l.stackTraces = false) {z : Option Nat} {sk : jS} {t : jT} {M : Nat} (hz : z = some (M + 1)) (h0 : sk M = some k0_X10) (hT : t M = fun _ => nI 0) : jMet l g mX10_init 1 7 3137 [.ref (jb g + M)] z sk t (fun v2 z2 sk2 t2 => v2 = none ∧ z2 = some (M + 8) ∧ isMod g sk2 M ∧ RmG t2 M (false, nI 0) g0 ∧ ∀ a, (a < M ∨ M + 8 ≤ a) → sk2 a = sk a ∧ t2 a = t a) := by
  subst hz
  refine j_body (lv := [some (.ref (jb g + M)), none]) i_X10_init hok hst (fun p e s m args below meth c X => ?_)
  refine j_aload_n X (i := 0) dX10_init_0 rfl rfl ?_
  refine j_objInit X tw_6_59 tw_1_37 tw_1_38 dX10_init_1 ?_
  refine j_aload_n X (i := 0) dX10_init_4 rfl rfl ?_
  refine j_sipush X (v := (nI 267)) dX10_init_5 (by decide) ?_
  refine j_newarray X (ty := .int) (N := 267) (k9 := kA .int 267) rfl (by decide) tw_1_77 rfl (by decide) (by decide) dX10_init_8 ?_ 
  refine jFd.putR X fd_X10_7 ⟨_, rfl, tw_6_60⟩ rfl rfl ((jN_ne _ _ (by omega)).trans h0) (by exact Nat.le_of_ble_eq_true rfl) rfl rfl dX10_init_10 ?_
  refine j_aload_n X (i := 0) dX10_init_13 rfl rfl ?_
  refine j_sipush X (v := (nI 2136)) dX10_init_14 (by decide) ?_
  refine j_newarray X (ty := .int) (N := 2136) (k9 := kA .int 2136) rfl (by decide) tw_1_77 rfl (by decide) (by decide) dX10_init_17 ?_ 
  refine jFd.putR X fd_X10_13 ⟨_, rfl, tw_6_61⟩ rfl rfl ((jN_ne _ _ (by omega)).trans (jN_eq _ _ _)) (by exact Nat.le_of_ble_eq_true rfl) rfl rfl dX10_init_19 ?_
  refine j_aload_n X (i := 0) dX10_init_22 rfl rfl ?_
  refine j_sipush X (v := (nI 267)) dX10_init_23 (by decide) ?_
  refine j_newarray X (ty := .int) (N := 267) (k9 := kA .int 267) rfl (by decide) tw_1_77 rfl (by decide) (by decide) dX10_init_26 ?_ 
  refine jFd.putR X fd_X10_16 ⟨_, rfl, tw_6_62⟩ rfl rfl ((jN_ne _ _ (by omega)).trans (jN_eq _ _ _)) (by exact Nat.le_of_ble_eq_true rfl) rfl rfl dX10_init_28 ?_
  refine j_aload_n X (i := 0) dX10_init_31 rfl rfl ?_
  refine j_sipush X (v := (nI 267)) dX10_init_32 (by decide) ?_
  refine j_newarray X (ty := .int) (N := 267) (k9 := kA .int 267) rfl (by decide) tw_1_77 rfl (by decide) (by decide) dX10_init_35 ?_ 
  refine jFd.putR X fd_X10_19 ⟨_, rfl, tw_6_63⟩ rfl rfl ((jN_ne _ _ (by omega)).trans (jN_eq _ _ _)) (by exact Nat.le_of_ble_eq_true rfl) rfl rfl dX10_init_37 ?_
  refine j_aload_n X (i := 0) dX10_init_40 rfl rfl ?_
  refine j_bipush X (v := (nI 60)) dX10_init_41 (by decide) ?_
  refine j_newarray X (ty := .int) (N := 60) (k9 := kA .int 60) rfl (by decide) tw_1_77 rfl (by decide) (by decide) dX10_init_43 ?_ 
  refine jFd.putR X fd_X10_22 ⟨_, rfl, tw_6_70⟩ rfl rfl ((jN_ne _ _ (by omega)).trans (jN_eq _ _ _)) (by exact Nat.le_of_ble_eq_true rfl) rfl rfl dX10_init_45 ?_
  refine j_aload_n X (i := 0) dX10_init_48 rfl rfl ?_
  refine j_iconst X (v := -1) dX10_init_49 (by decide) ?_
  refine jFd.put X fd_X10_25 (jN_eq _ _ _) rfl rfl rfl rfl dX10_init_50 ?_
  refine j_aload_n X (i := 0) dX10_init_53 rfl rfl ?_
  refine j_iconst X (v := -1) dX10_init_54 (by decide) ?_
  refine jFd.put X fd_X10_29 (jN_eq _ _ _) rfl rfl rfl rfl dX10_init_55 ?_
  refine j_aload_n X (i := 0) dX10_init_58 rfl rfl ?_
  refine j_bipush X (v := (nI 16)) dX10_init_59 (by decide) ?_
  refine j_newarray X (ty := .char) (N := 16) (k9 := kA .char 16) rfl (by decide) tw_2_1 rfl (by decide) (by decide) dX10_init_61 ?_ 
  refine jFd.putR X fd_X10_32 ⟨_, rfl, tw_6_74⟩ rfl rfl ((jN_ne _ _ (by omega)).trans (jN_eq _ _ _)) (by exact Nat.le_of_ble_eq_true rfl) rfl rfl dX10_init_63 ?_
  refine j_aload_n X (i := 0) dX10_init_66 rfl rfl ?_
  refine j_bipush X (v := (nI 124)) dX10_init_67 (by decide) ?_
  refine j_newarray X (ty := .int) (N := 124) (k9 := kA .int 124) rfl (by decide) tw_1_77 rfl (by decide) (by decide) dX10_init_69 ?_ 
  refine jFd.putR X fd_X10_36 ⟨_, rfl, tw_6_79⟩ rfl rfl ((jN_ne _ _ (by omega)).trans (jN_eq _ _ _)) (by exact Nat.le_of_ble_eq_true rfl) rfl rfl dX10_init_71 ?_
  refine j_gen (fun sk1 t1 => isMod g sk1 M ∧ (∀ j, t1 (M + 1) j = nI 0) ∧ t1 M = upd (upd (fun _ => nI 0) 12 (-1)) 13 (-1) ∧ ∀ a, (a < M ∨ M + 8 ≤ a) → sk1 a = sk a ∧ t1 a = t a) ⟨⟨(jN_eq _ _ _), ((jN_ne _ _ (by omega)).trans ((jN_ne _ _ (by omega)).trans ((jN_ne _ _ (by omega)).trans ((jN_ne _ _ (by omega)).trans ((jN_ne _ _ (by omega)).trans ((jN_ne _ _ (by omega)).trans ((jN_ne _ _ (by omega)).trans ((jN_ne _ _ (by omega)).trans ((jN_ne _ _ (by omega)).trans ((jN_ne _ _ (by omega)).trans ((jN_ne _ _ (by omega)).trans ((jN_ne _ _ (by omega)).trans ((jN_ne _ _ (by omega)).trans (jN_eq _ _ _)))))))))))))), ((jN_ne _ _ (by omega)).trans ((jN_ne _ _ (by omega)).trans ((jN_ne _ _ (by omega)).trans ((jN_ne _ _ (by omega)).trans ((jN_ne _ _ (by omega)).trans ((jN_ne _ _ (by omega)).trans ((jN_ne _ _ (by omega)).trans ((jN_ne _ _ (by omega)).trans ((jN_ne _ _ (by omega)).trans ((jN_ne _ _ (by omega)).trans ((jN_ne _ _ (by omega)).trans (jN_eq _ _ _)))))))))))), ((jN_ne _ _ (by omega)).trans ((jN_ne _ _ (by omega)).trans ((jN_ne _ _ (by omega)).trans ((jN_ne _ _ (by omega)).trans ((jN_ne _ _ (by omega)).trans ((jN_ne _ _ (by omega)).trans ((jN_ne _ _ (by omega)).trans ((jN_ne _ _ (by omega)).trans ((jN_ne _ _ (by omega)).trans (jN_eq _ _ _)))))))))), ((jN_ne _ _ (by omega)).trans ((jN_ne _ _ (by omega)).trans ((jN_ne _ _ (by omega)).trans ((jN_ne _ _ (by omega)).trans ((jN_ne _ _ (by omega)).trans ((jN_ne _ _ (by omega)).trans ((jN_ne _ _ (by omega)).trans (jN_eq _ _ _)))))))), ((jN_ne _ _ (by omega)).trans ((jN_ne _ _ (by omega)).trans ((jN_ne _ _ (by omega)).trans ((jN_ne _ _ (by omega)).trans ((jN_ne _ _ (by omega)).trans (jN_eq _ _ _)))))), ((jN_ne _ _ (by omega)).trans ((jN_ne _ _ (by omega)).trans ((jN_ne _ _ (by omega)).trans (jN_eq _ _ _)))), ((jN_ne _ _ (by omega)).trans (jN_eq _ _ _))⟩, fun j => by rw [jT0_ne _ (by omega), jT0_ne _ (by omega), jU_ne _ _ _ (by omega), jU_ne _ _ _ (by omega), jT0_ne _ (by omega), jT0_ne _ (by omega), jT0_ne _ (by omega), jT0_ne _ (by omega), jT0_eq], by rw [jT0_ne _ (by omega), jT0_ne _ (by omega), jU_eq, jU_eq, jT0_ne _ (by omega), jT0_ne _ (by omega), jT0_ne _ (by omega), jT0_ne _ (by omega), jT0_ne _ (by omega), hT], fun a ha => ⟨by rw [jN_ne _ _ (by omega), jN_ne _ _ (by omega), jN_ne _ _ (by omega), jN_ne _ _ (by omega), jN_ne _ _ (by omega), jN_ne _ _ (by omega), jN_ne _ _ (by omega), jN_ne _ _ (by omega), jN_ne _ _ (by omega), jN_ne _ _ (by omega), jN_ne _ _ (by omega), jN_ne _ _ (by omega), jN_ne _ _ (by omega), jN_ne _ _ (by omega)], by rw [jT0_ne _ (by omega), jT0_ne _ (by omega), jU_ne _ _ _ (by omega), jU_ne _ _ _ (by omega), jT0_ne _ (by omega), jT0_ne _ (by omega), jT0_ne _ (by omega), jT0_ne _ (by omega), jT0_ne _ (by omega)]⟩⟩ (fun sk1 t1 I => ?_)
  obtain ⟨hM, i1, i2, i3⟩ := I
  obtain ⟨M0, M1, M2, M3, M4, M5, M6, M7⟩ := id hM
  refine j_iconst X (v := (nI 0)) dX10_init_74 (by decide) ?_
  refine j_istore_n X (i := 1) dX10_init_75 rfl (by decide) rfl ?_
  have L1 : ∀ k, k ≤ 3 → ∀ t4 : jT, (∀ j, j < 3 → t4 (M + 1) j = nI 0) → (∀ j, j < k → t4 (M + 1) (3 + j) = nI 60 ∧ t4 (M + 1) (6 + j) = -1) → (∀ a, a ≠ M + 1 → t4 a = t1 a) → J p l e (jR 1 7 3137) s m args below meth c (jQm below args s g 7 3137 (fun v2 z2 sk2 t2 => v2 = none ∧ z2 = some (M + 8) ∧ isMod g sk2 M ∧ RmG t2 M (false, nI 0) g0 ∧ ∀ a, (a < M ∨ M + 8 ≤ a) → sk2 a = sk a ∧ t2 a = t a)) 2 g (0 + 1 + 1 + 1 + 1 + 1 + 1 + 1) (0 + 267 + 2136 + 267 + 267 + 60 + 16 + 124) (some (M + 1 + 1 + 1 + 1 + 1 + 1 + 1 + 1)) sk1 t4 76 [some (.ref (jb g + M)), some (.int (nI k))] [] := by
    refine up_loop ?_ ?_
    · intro t4 e1 e2 e3
      refine j_iload_n X (i := 1) dX10_init_76 rfl rfl ?_
      refine j_iconst X (v := (nI 3)) dX10_init_77 (by decide) ?_
      refine j_icmp_ge X (tgt := 107) dX10_init_78 (by decide) (fun _ => ?_) (fun q9 => absurd (nI_le (Nat.le_refl _) (by decide)) q9)
      have q : ∀ j, t4 M j = upd (upd (fun _ => nI 0) 12 (-1)) 13 (-1) j := fun j => by rw [e3 M (by omega), i2]
      exact j_vret X dX10_init_107 rfl ⟨rfl, rfl, hM, ⟨⟨e1 0 (by decide), e1 1 (by decide), e1 2 (by decide), fun i hi => (e2 i hi).1, fun a ha => (e2 a ha).2, fun k hk => absurd hk (Nat.not_lt_zero k), fun k hk => absurd hk (Nat.not_lt_zero k)⟩, by show t4 M 4 = nI 0; rw [q]; rfl, by rw [q]; rfl, ⟨Nat.zero_le _, fun i hi => absurd hi (Nat.not_lt_zero i)⟩, ⟨by rw [q]; rfl, by rw [q]; rfl⟩, by show t4 M 8 = nI 0; rw [q]; rfl, ⟨by rw [q]; rfl, fun i hi => absurd hi (Nat.not_lt_zero i)⟩, by rw [q]; rfl, by rw [q]; rfl, ⟨by rw [q]; rfl, fun i hi => absurd hi (Nat.not_lt_zero i)⟩, ⟨0, 0, by rw [q]; rfl, by rw [q]; rfl, by decide, by decide, by decide, by decide⟩⟩, fun a ha => ⟨(i3 a ha).1, (e3 a (by omega)).trans (i3 a ha).2⟩⟩
    · intro k hk ih t4 e1 e2 e3
      refine j_iload_n X (i := 1) dX10_init_76 rfl rfl ?_
      refine j_iconst X (v := (nI 3)) dX10_init_77 (by decide) ?_
      refine j_icmp_ge X (tgt := 107) dX10_init_78 (by decide) (fun q9 => absurd q9 (nI_ge hk (by decide))) (fun _ => ?_)
      refine j_aload_n X (i := 0) dX10_init_81 rfl rfl ?_
      refine jFd.get X fd_X10_7 M0 rfl dX10_init_82 ?_
      refine j_iconst X (v := (nI 3)) dX10_init_85 (by decide) ?_
      refine j_iload_n X (i := 1) dX10_init_86 rfl rfl ?_
      refine j_iadd X dX10_init_87 ?_
      rw [nI_add]
      refine j_bipush X (v := (nI 60)) dX10_init_88 (by decide) ?_
      refine j_iast X M1 rfl (show 3 + k < 267 by omega) (by decide) dX10_init_90 ?_
      refine j_aload_n X (i := 0) dX10_init_91 rfl rfl ?_
      refine jFd.get X fd_X10_7 M0 rfl dX10_init_92 ?_
      refine j_bipush X (v := (nI 6)) dX10_init_95 (by decide) ?_
      refine j_iload_n X (i := 1) dX10_init_97 rfl rfl ?_
      refine j_iadd X dX10_init_98 ?_
      rw [nI_add]
      refine j_iconst X (v := -1) dX10_init_99 (by decide) ?_
      refine j_iast X M1 rfl (show 6 + k < 267 by omega) (by decide) dX10_init_100 ?_
      refine j_iinc X (i := 1) (v := (nI (k + 1))) dX10_init_101 rfl (nI_1 k) (by decide) rfl ?_
      refine j_goto X (tgt := 76) dX10_init_104 (by decide) ?_
      have e : ∀ j, jU (jU t4 (M + 1) (3 + k) (nI 60)) (M + 1) (6 + k) (-1) (M + 1) j = if j = 6 + k then -1 else if j = 3 + k then nI 60 else t4 (M + 1) j := fun j => by rw [jU_eq, jU_eq]; rfl
      refine ih _ (fun j hj => by rw [e, if_neg (by omega), if_neg (by omega)]; exact e1 j hj) (fun j hj => ⟨?_, ?_⟩) (fun a ha => by rw [jU_ne _ _ _ ha, jU_ne _ _ _ ha]; exact e3 a ha)
      · rw [e, if_neg (by omega)]
        by_cases hjk : j = k
        · rw [if_pos (by omega)]
        · rw [if_neg (by omega)]; exact (e2 j (by omega)).1
      · rw [e]
        by_cases hjk : j = k
        · rw [if_pos (by omega)]
        · rw [if_neg (by omega), if_neg (by omega)]; exact (e2 j (by omega)).2
  exact L1 0 (Nat.zero_le _) t1 (fun j _ => i1 j) (fun j hj => absurd hj (Nat.not_lt_zero j)) (fun _ _ => rfl)

