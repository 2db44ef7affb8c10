section GEN
variable {p : Program} {l : Launch} {e : Env} {R : Room} {s : State} {m : MethodId} {args : Array Value} {below : List Frame} {meth : Method} {c : Code} {cells slots : Nat} {Q : State → Prop}
variable {nL : Nat} {g : jG} {z : Option Nat} {sk : jS} {t : jT} {pc : Nat} {lv : List (Option Value)} {st : List Value}
/-- the memory is forgotten but for P -/
theorem j_gen (P : jS → jT → Prop) (h : P sk t) (kk : ∀ sk1 t1, P sk1 t1 → J p l e R s m args below meth c Q nL g cells slots z sk1 t1 pc lv st) : J p l e R s m args below meth c Q nL g cells slots z sk t pc lv st := kk sk t h
end GEN
abbrev p0V : PV := (1, 0, 0, fun _ => false)
abbrev s0V : TV := ((0, 0, -1), (fun _ _ => false), fun _ _ => false)
def plA (g : jG) (b k : Nat) : Nat → Option Nat := fun j => if k ≤ j ∧ j < 6 then none else some (jb g + ((b + 4 + 2 * j)))
def shA (g : jG) (b k : Nat) : Nat → Option Nat := fun j => if k ≤ j ∧ j < 8 then none else some (jb g + ((b + 16 + 3 * j)))
def hsA (g : jG) (k : Nat) : Nat → Option Nat := fun j => if k ≤ j ∧ j < 9 then none else some (jb g + (83 + 40 * j))
theorem plA_step {g : jG} {b k : Nat} : va_up (plA g b k) k (some (jb g + ((b + 4 + 2 * k)))) = plA g b (k + 1) := funext fun j => by
  unfold va_up plA
  by_cases e : j = k
  · subst e
    rw [if_pos rfl, if_neg (by omega)]
  · rw [if_neg e]
    by_cases q : k ≤ j ∧ j < 6
    · rw [if_pos q, if_pos (by omega)]
    · rw [if_neg q, if_neg (by omega)]
theorem plA_end {g : jG} {b : Nat} : plA g b 6 = fun k => some (jb g + ((b + 4 + 2 * k))) := funext fun j => if_neg (by omega)
theorem shA_step {g : jG} {b k : Nat} : va_up (shA g b k) k (some (jb g + ((b + 16 + 3 * k)))) = shA g b (k + 1) := funext fun j => by
  unfold va_up shA
  by_cases e : j = k
  · subst e
    rw [if_pos rfl, if_neg (by omega)]
  · rw [if_neg e]
    by_cases q : k ≤ j ∧ j < 8
    · rw [if_pos q, if_pos (by omega)]
    · rw [if_neg q, if_neg (by omega)]
theorem shA_end {g : jG} {b : Nat} : shA g b 8 = fun k => some (jb g + ((b + 16 + 3 * k))) := funext fun j => if_neg (by omega)
theorem hsA_step {g : jG} {k : Nat} : va_up (hsA g  k) k (some (jb g + (83 + 40 * k))) = hsA g  (k + 1) := funext fun j => by
  unfold va_up hsA
  by_cases e : j = k
  · subst e
    rw [if_pos rfl, if_neg (by omega)]
  · rw [if_neg e]
    by_cases q : k ≤ j ∧ j < 9
    · rw [if_pos q, if_pos (by omega)]
    · rw [if_neg q, if_neg (by omega)]
theorem hsA_end {g : jG} : hsA g  9 = fun k => some (jb g + (83 + 40 * k)) := funext fun j => if_neg (by omega)
/-- a shop that is being made: k plates and q sheets stand -/
def shI (g : jG) (b k q : Nat) (sk : jS) (t : jT) (sk1 : jS) (t1 : jT) : Prop := sk1 b = some (jShop g b) ∧ sk1 (b + 1) = some (kR "StarPress$Plate" 6 (plA g b k)) ∧ sk1 (b + 2) = some (kR "StarPress$Sheet" 8 (shA g b q)) ∧ sk1 (b + 3) = some (kA .int 3) ∧ (t1 b 3 = nI 0 ∧ t1 b 4 = nI 0 ∧ t1 b 5 = nI 0) ∧ (∀ j, j < k → (sk1 ((b + 4 + 2 * j)) = some (jPlate g ((b + 4 + 2 * j) + 1)) ∧ sk1 ((b + 4 + 2 * j) + 1) = some (kA .int 8)) ∧ RcP t1 ((b + 4 + 2 * j)) ((b + 4 + 2 * j) + 1) p0V) ∧ (∀ j, j < q → (sk1 ((b + 16 + 3 * j)) = some (jSheet g ((b + 16 + 3 * j) + 1) ((b + 16 + 3 * j) + 2)) ∧ sk1 ((b + 16 + 3 * j) + 1) = some (kA .int 24) ∧ sk1 ((b + 16 + 3 * j) + 2) = some (kA .int 24)) ∧ RcS t1 ((b + 16 + 3 * j)) ((b + 16 + 3 * j) + 1) ((b + 16 + 3 * j) + 2) s0V) ∧ ∀ a, (a < b ∨ b + 40 ≤ a) → sk1 a = sk a ∧ t1 a = t a
theorem shI.plate {g : jG} {b k : Nat} {sk sk1 sk2 : jS} {t t1 t2 : jT} (I : shI g b k 0 sk t sk1 t1) (hk : k < 6) (p1 : sk2 ((b + 4 + 2 * k)) = some (jPlate g ((b + 4 + 2 * k) + 1)) ∧ sk2 ((b + 4 + 2 * k) + 1) = some (kA .int 8)) (p2 : RcP t2 ((b + 4 + 2 * k)) ((b + 4 + 2 * k) + 1) p0V) (p3 : ∀ a, (a < (b + 4 + 2 * k) ∨ (b + 4 + 2 * k) + 2 ≤ a) → sk2 a = jN sk1 ((b + 4 + 2 * k)) k0_X5 a ∧ t2 a = jT0 t1 ((b + 4 + 2 * k)) a) : shI g b (k + 1) 0 sk t (jN sk2 (b + 1) (kR "StarPress$Plate" 6 (va_up (plA g b k) k (some (jb g + ((b + 4 + 2 * k))))))) t2 := by
  have f : ∀ a, (a < (b + 4 + 2 * k) ∨ (b + 4 + 2 * k) + 2 ≤ a) → sk2 a = sk1 a ∧ t2 a = t1 a := fun a ha => ⟨(p3 a ha).1.trans (jN_ne _ _ (by omega)), (p3 a ha).2.trans (jT0_ne _ (by omega))⟩
  obtain ⟨i1, i2, i3, i4, ⟨i5, i6, i7⟩, i8, i9, i10⟩ := I
  refine ⟨(jN_ne _ _ (by omega)).trans ((f b (by omega)).1.trans i1), (jN_eq _ _ _).trans (by rw [plA_step]), (jN_ne _ _ (by omega)).trans ((f _ (by omega)).1.trans i3), (jN_ne _ _ (by omega)).trans ((f _ (by omega)).1.trans i4), ⟨by rw [(f b (by omega)).2]; exact i5, by rw [(f b (by omega)).2]; exact i6, by rw [(f b (by omega)).2]; exact i7⟩, fun j hj => ?_, fun j hj => absurd hj (Nat.not_lt_zero j), fun a ha => ⟨(jN_ne _ _ (by omega)).trans ((f a (by omega)).1.trans (i10 a ha).1), (f a (by omega)).2.trans (i10 a ha).2⟩⟩
  by_cases e : j = k
  · subst e
    exact ⟨⟨(jN_ne _ _ (by omega)).trans p1.1, (jN_ne _ _ (by omega)).trans p1.2⟩, p2⟩
  · obtain ⟨⟨q1, q2⟩, q3⟩ := i8 j (by omega)
    exact ⟨⟨(jN_ne _ _ (by omega)).trans ((f _ (by omega)).1.trans q1), (jN_ne _ _ (by omega)).trans ((f _ (by omega)).1.trans q2)⟩, q3.cong (f _ (by omega)).2 (f _ (by omega)).2⟩
theorem shI.sheet {g : jG} {b k : Nat} {sk sk1 sk2 : jS} {t t1 t2 : jT} (I : shI g b 6 k sk t sk1 t1) (hk : k < 8) (p1 : sk2 ((b + 16 + 3 * k)) = some (jSheet g ((b + 16 + 3 * k) + 1) ((b + 16 + 3 * k) + 2)) ∧ sk2 ((b + 16 + 3 * k) + 1) = some (kA .int 24) ∧ sk2 ((b + 16 + 3 * k) + 2) = some (kA .int 24)) (p2 : RcS t2 ((b + 16 + 3 * k)) ((b + 16 + 3 * k) + 1) ((b + 16 + 3 * k) + 2) s0V) (p3 : ∀ a, (a < (b + 16 + 3 * k) ∨ (b + 16 + 3 * k) + 3 ≤ a) → sk2 a = jN sk1 ((b + 16 + 3 * k)) k0_X7 a ∧ t2 a = jT0 t1 ((b + 16 + 3 * k)) a) : shI g b 6 (k + 1) sk t (jN sk2 (b + 2) (kR "StarPress$Sheet" 8 (va_up (shA g b k) k (some (jb g + ((b + 16 + 3 * k))))))) t2 := by
  have f : ∀ a, (a < (b + 16 + 3 * k) ∨ (b + 16 + 3 * k) + 3 ≤ a) → sk2 a = sk1 a ∧ t2 a = t1 a := fun a ha => ⟨(p3 a ha).1.trans (jN_ne _ _ (by omega)), (p3 a ha).2.trans (jT0_ne _ (by omega))⟩
  obtain ⟨i1, i2, i3, i4, ⟨i5, i6, i7⟩, i8, i9, i10⟩ := I
  refine ⟨(jN_ne _ _ (by omega)).trans ((f b (by omega)).1.trans i1), (jN_ne _ _ (by omega)).trans ((f _ (by omega)).1.trans i2), (jN_eq _ _ _).trans (by rw [shA_step]), (jN_ne _ _ (by omega)).trans ((f _ (by omega)).1.trans i4), ⟨by rw [(f b (by omega)).2]; exact i5, by rw [(f b (by omega)).2]; exact i6, by rw [(f b (by omega)).2]; exact i7⟩, fun j hj => ?_, fun j hj => ?_, fun a ha => ⟨(jN_ne _ _ (by omega)).trans ((f a (by omega)).1.trans (i10 a ha).1), (f a (by omega)).2.trans (i10 a ha).2⟩⟩
  · obtain ⟨⟨q1, q2⟩, q3⟩ := i8 j hj
    exact ⟨⟨(jN_ne _ _ (by omega)).trans ((f _ (by omega)).1.trans q1), (jN_ne _ _ (by omega)).trans ((f _ (by omega)).1.trans q2)⟩, q3.cong (f _ (by omega)).2 (f _ (by omega)).2⟩
  · by_cases e : j = k
    · subst e
      exact ⟨⟨(jN_ne _ _ (by omega)).trans p1.1, (jN_ne _ _ (by omega)).trans p1.2.1, (jN_ne _ _ (by omega)).trans p1.2.2⟩, p2⟩
    · obtain ⟨⟨q1, q2, q3⟩, q4⟩ := i9 j (by omega)
      exact ⟨⟨(jN_ne _ _ (by omega)).trans ((f _ (by omega)).1.trans q1), (jN_ne _ _ (by omega)).trans ((f _ (by omega)).1.trans q2), (jN_ne _ _ (by omega)).trans ((f _ (by omega)).1.trans q3)⟩, q4.cong (f _ (by omega)).2 (f _ (by omega)).2 (f _ (by omega)).2⟩
theorem isShop.cong {g : jG} {b : Nat} {sk1 sk2 : jS} (h : isShop g sk1 b) (e : ∀ c, b ≤ c → c < b + 40 → sk2 c = sk1 c) : isShop g sk2 b := by
  obtain ⟨h1, h2, h3, h4, h5, h6⟩ := h
  exact ⟨(e _ (by omega) (by omega)).trans h1, (e _ (by omega) (by omega)).trans h2, (e _ (by omega) (by omega)).trans h3, (e _ (by omega) (by omega)).trans h4, fun k hk => ⟨(e _ (by omega) (by omega)).trans (h5 k hk).1, (e _ (by omega) (by omega)).trans (h5 k hk).2⟩, fun k hk => ⟨(e _ (by omega) (by omega)).trans (h6 k hk).1, (e _ (by omega) (by omega)).trans (h6 k hk).2.1, (e _ (by omega) (by omega)).trans (h6 k hk).2.2⟩⟩
theorem shI.shop {g : jG} {b : Nat} {sk sk1 : jS} {t t1 : jT} (I : shI g b 6 8 sk t sk1 t1) : isShop g sk1 b := by
  obtain ⟨i1, i2, i3, i4, -, i8, i9, -⟩ := I
  exact ⟨i1, by rw [i2, plA_end], by rw [i3, shA_end], i4, fun k hk => (i8 k hk).1, fun k hk => (i9 k hk).1⟩
theorem c_Shop {l : Launch} {g : jG} (hok : jOk g) (hst : l.stackTraces = false) {z : Option Nat} {sk : jS} {t : jT} {b : Nat} (hz : z = some (b + 1)) (h0 : sk b = some k0_X8) : jMet l g mX8_init 3 39 513 [.ref (jb g + b)] z sk t (fun v2 z2 sk2 t2 => v2 = none ∧ z2 = some (b + 40) ∧ isShop g sk2 b ∧ RcV t2 b v0 ∧ ∀ a, (a < b ∨ b + 40 ≤ a) → sk2 a = sk a ∧ t2 a = t a) := by
  subst hz
  refine j_body (lv := [some (.ref (jb g + b)), none]) i_X8_init hok hst (fun p e s m args below meth c X => ?_)
  refine j_aload_n X (i := 0) dX8_init_0 rfl rfl ?_
  refine j_objInit X tw_1_44 tw_1_37 tw_1_38 dX8_init_1 ?_
  refine j_aload_n X (i := 0) dX8_init_4 rfl rfl ?_
  refine j_bipush X (v := (nI 6)) dX8_init_5 (by decide) ?_
  refine j_anewarray X (N := 6) (f9 := (plA g b 0)) (fun j hj => if_pos ⟨Nat.zero_le _, hj⟩) (by decide) tw_1_45 tw_1_46 rfl (by decide) dX8_init_7 ?_ 
  refine jFd.putR X fd_X8_11 ⟨_, rfl, tw_1_106⟩ rfl rfl ((jN_ne _ _ (by omega)).trans h0) (by exact Nat.le_of_ble_eq_true rfl) rfl rfl dX8_init_10 ?_
  refine j_aload_n X (i := 0) dX8_init_13 rfl rfl ?_
  refine j_bipush X (v := (nI 8)) dX8_init_14 (by decide) ?_
  refine j_anewarray X (N := 8) (f9 := (shA g b 0)) (fun j hj => if_pos ⟨Nat.zero_le _, hj⟩) (by decide) tw_1_47 tw_1_48 rfl (by decide) dX8_init_16 ?_ 
  refine jFd.putR X fd_X8_19 ⟨_, rfl, tw_1_108⟩ rfl rfl ((jN_ne _ _ (by omega)).trans (jN_eq _ _ _)) (by exact Nat.le_of_ble_eq_true rfl) rfl rfl dX8_init_19 ?_
  refine j_aload_n X (i := 0) dX8_init_22 rfl rfl ?_
  refine j_iconst X (v := (nI 3)) dX8_init_23 (by decide) ?_
  refine j_newarray X (ty := .int) (N := 3) (k9 := kA .int 3) rfl (by decide) tw_1_77 rfl (by decide) (by decide) dX8_init_24 ?_ 
  refine jFd.putR X fd_X8_23 ⟨_, rfl, tw_1_110⟩ rfl rfl ((jN_ne _ _ (by omega)).trans (jN_eq _ _ _)) (by exact Nat.le_of_ble_eq_true rfl) rfl rfl dX8_init_26 ?_
  refine j_aload_n X (i := 0) dX8_init_29 rfl rfl ?_
  refine j_iconst X (v := (nI 0)) dX8_init_30 (by decide) ?_
  refine jFd.put X fd_X8_27 (jN_eq _ _ _) rfl rfl rfl rfl dX8_init_31 ?_
  refine j_aload_n X (i := 0) dX8_init_34 rfl rfl ?_
  refine j_iconst X (v := (nI 0)) dX8_init_35 (by decide) ?_
  refine jFd.put X fd_X8_31 (jN_eq _ _ _) rfl rfl rfl rfl dX8_init_36 ?_
  refine j_aload_n X (i := 0) dX8_init_39 rfl rfl ?_
  refine j_iconst X (v := (nI 0)) dX8_init_40 (by decide) ?_
  refine jFd.put X fd_X8_34 (jN_eq _ _ _) rfl rfl rfl rfl dX8_init_41 ?_
  refine j_gen (shI g b 0 0 sk t) ⟨(jN_eq _ _ _), ((jN_ne _ _ (by omega)).trans ((jN_ne _ _ (by omega)).trans ((jN_ne _ _ (by omega)).trans ((jN_ne _ _ (by omega)).trans ((jN_ne _ _ (by omega)).trans (jN_eq _ _ _)))))), ((jN_ne _ _ (by omega)).trans ((jN_ne _ _ (by omega)).trans ((jN_ne _ _ (by omega)).trans (jN_eq _ _ _)))), ((jN_ne _ _ (by omega)).trans (jN_eq _ _ _)), ⟨by rw [jU3_eq]; rfl, by rw [jU3_eq]; rfl, by rw [jU3_eq]; rfl⟩, fun j hj => absurd hj (Nat.not_lt_zero j), fun j hj => absurd hj (Nat.not_lt_zero j), fun a ha => ⟨by rw [jN_ne _ _ (by omega), jN_ne _ _ (by omega), jN_ne _ _ (by omega), jN_ne _ _ (by omega), jN_ne _ _ (by omega), jN_ne _ _ (by omega)], by rw [jU3 (by omega), jT0_ne _ (by omega)]⟩⟩ (fun sk1 t1 I0 => ?_)
  refine j_iconst X (v := (nI 0)) dX8_init_44 (by decide) ?_
  refine j_istore_n X (i := 1) dX8_init_45 rfl (by decide) rfl ?_
  have L2 : ∀ k, k ≤ 8 → ∀ sk1 t1, shI g b 6 k sk t sk1 t1 → J p l e (jR 3 39 513) s m args below meth c (jQm below args s g 39 513 (fun v2 z2 sk2 t2 => v2 = none ∧ z2 = some (b + 40) ∧ isShop g sk2 b ∧ RcV t2 b v0 ∧ ∀ a, (a < b ∨ b + 40 ≤ a) → sk2 a = sk a ∧ t2 a = t a)) 2 g (15 + 3 * k) (89 + 53 * k) (some ((b + 16 + 3 * k))) sk1 t1 73 [some (.ref (jb g + b)), some (.int (nI k))] [] := by
    refine up_loop ?_ ?_
    · intro sk1 t1 I
      refine j_iload_n X (i := 1) dX8_init_73 rfl rfl ?_
      refine j_bipush X (v := (nI 8)) dX8_init_74 (by decide) ?_
      refine j_icmp_ge X (tgt := 98) dX8_init_76 (by decide) (fun _ => ?_) (fun q9 => absurd (nI_le (Nat.le_refl _) (by decide)) q9)
      refine j_aload_n X (i := 0) dX8_init_98 rfl rfl ?_
      refine jFd.get X fd_X8_23 I.1 rfl dX8_init_99 ?_
      refine j_bipush X (v := (nI 60)) dX8_init_102 (by decide) ?_
      refine j_callS X (s_fill hok hst I.2.2.2.1 (by decide) (nI 60)) i_J7_fill_53178 tw_1_103 tw_1_104 dX8_init_104 ?_ 
      obtain ⟨i1, i2, i3, i4, ⟨i5, i6, i7⟩, i8, i9, i10⟩ := id I
      have f : ∀ a, a ≠ b + 3 → jUf t1 (b + 3) (fun k => if k < 3 then nI 60 else t1 (b + 3) k) a = t1 a := fun a ha => jUf_ne _ _ ha
      exact j_vret X dX8_init_107 rfl ⟨rfl, rfl, I.shop, ⟨by rw [f b (by omega)]; exact i5, by rw [f b (by omega)]; exact i6, by rw [f b (by omega)]; exact i7, fun i hi => by rw [jUf_eq]; exact if_pos hi, fun j hj => (i8 j hj).2.cong (f _ (by omega)) (f _ (by omega)), fun j hj => (i9 j hj).2.cong (f _ (by omega)) (f _ (by omega)) (f _ (by omega))⟩, fun a ha => ⟨(i10 a ha).1, (f a (by omega)).trans (i10 a ha).2⟩⟩
    · intro k hk ih sk1 t1 I
      refine j_iload_n X (i := 1) dX8_init_73 rfl rfl ?_
      refine j_bipush X (v := (nI 8)) dX8_init_74 (by decide) ?_
      refine j_icmp_ge X (tgt := 98) dX8_init_76 (by decide) (fun q9 => absurd q9 (nI_ge hk (by decide))) (fun _ => ?_)
      refine j_aload_n X (i := 0) dX8_init_79 rfl rfl ?_
      refine jFd.get X fd_X8_19 I.1 rfl dX8_init_80 ?_
      refine j_iload_n X (i := 1) dX8_init_83 rfl rfl ?_
      refine j_new X nw_X7 tw_1_47 dX8_init_84 ?_ (by show 15 + 3 * k + 1 ≤ 39; omega) (by show 89 + 53 * k + 5 ≤ 513; omega)
      refine j_dup X dX8_init_87 rfl ?_
      refine j_callIN_p X (c_Sheet hok hst (b := (b + 16 + 3 * k)) rfl (jN_eq _ _ _)) i_X7_init tw_1_79 tw_1_80 rfl rfl dX8_init_88 (fun v2 z2 sk2 t2 hp => ?_) (hmc := by show 15 + 3 * k + 1 + 2 ≤ 39; omega) (hms := by show 89 + 53 * k + 5 + 48 ≤ 513; omega)
      obtain ⟨rfl, rfl, p1, p2, p3⟩ := hp
      refine j_aast X ((p3 _ (by omega)).1.trans ((jN_ne _ _ (by omega)).trans I.2.2.1)) (by decide) rfl ⟨hk, by decide⟩ p1.1 rfl dX8_init_91 ?_
      refine j_iinc X (i := 1) (v := (nI (k + 1))) dX8_init_92 rfl (nI_1 k) (by decide) rfl ?_
      refine j_goto X (tgt := 73) dX8_init_95 (by decide) ?_
      refine j_widen (k := 15 + 3 * (k + 1)) (n := 89 + 53 * (k + 1)) (by omega) (by omega) ?_
      have ih9 := ih _ _ (I.sheet hk p1 p2 p3)
      rw [show (b + 16 + 3 * (k + 1)) = (b + 16 + 3 * k) + 3 by omega] at ih9
      exact ih9
  have L1 : ∀ k, k ≤ 6 → ∀ sk1 t1, shI g b k 0 sk t sk1 t1 → J p l e (jR 3 39 513) s m args below meth c (jQm below args s g 39 513 (fun v2 z2 sk2 t2 => v2 = none ∧ z2 = some (b + 40) ∧ isShop g sk2 b ∧ RcV t2 b v0 ∧ ∀ a, (a < b ∨ b + 40 ≤ a) → sk2 a = sk a ∧ t2 a = t a)) 2 g (3 + 2 * k) (17 + 12 * k) (some ((b + 4 + 2 * k))) sk1 t1 46 [some (.ref (jb g + b)), some (.int (nI k))] [] := by
    refine up_loop ?_ ?_
    · intro sk1 t1 I
      refine j_iload_n X (i := 1) dX8_init_46 rfl rfl ?_
      refine j_bipush X (v := (nI 6)) dX8_init_47 (by decide) ?_
      refine j_icmp_ge X (tgt := 71) dX8_init_49 (by decide) (fun _ => ?_) (fun q9 => absurd (nI_le (Nat.le_refl _) (by decide)) q9)
      refine j_iconst X (v := (nI 0)) dX8_init_71 (by decide) ?_
      refine j_istore_n X (i := 1) dX8_init_72 rfl (by decide) rfl ?_
      have h9 := L2 0 (Nat.zero_le _) sk1 t1 I
      rw [show (b + 16 + 3 * 0) = (b + 4 + 2 * 6) by omega] at h9
      exact h9
    · intro k hk ih sk1 t1 I
      refine j_iload_n X (i := 1) dX8_init_46 rfl rfl ?_
      refine j_bipush X (v := (nI 6)) dX8_init_47 (by decide) ?_
      refine j_icmp_ge X (tgt := 71) dX8_init_49 (by decide) (fun q9 => absurd q9 (nI_ge hk (by decide))) (fun _ => ?_)
      refine j_aload_n X (i := 0) dX8_init_52 rfl rfl ?_
      refine jFd.get X fd_X8_11 I.1 rfl dX8_init_53 ?_
      refine j_iload_n X (i := 1) dX8_init_56 rfl rfl ?_
      refine j_new X nw_X5 tw_1_45 dX8_init_57 ?_ (by show 3 + 2 * k + 1 ≤ 39; omega) (by show 17 + 12 * k + 4 ≤ 513; omega)
      refine j_dup X dX8_init_60 rfl ?_
      refine j_callIN_p X (c_Plate hok hst (b := (b + 4 + 2 * k)) rfl (jN_eq _ _ _)) i_X5_init tw_1_50 tw_1_51 rfl rfl dX8_init_61 (fun v2 z2 sk2 t2 hp => ?_) (hmc := by show 3 + 2 * k + 1 + 1 ≤ 39; omega) (hms := by show 17 + 12 * k + 4 + 8 ≤ 513; omega)
      obtain ⟨rfl, rfl, p1, p2, p3⟩ := hp
      refine j_aast X ((p3 _ (by omega)).1.trans ((jN_ne _ _ (by omega)).trans I.2.1)) (by decide) rfl ⟨hk, by decide⟩ p1.1 rfl dX8_init_64 ?_
      refine j_iinc X (i := 1) (v := (nI (k + 1))) dX8_init_65 rfl (nI_1 k) (by decide) rfl ?_
      refine j_goto X (tgt := 46) dX8_init_68 (by decide) ?_
      refine j_widen (k := 3 + 2 * (k + 1)) (n := 17 + 12 * (k + 1)) (by omega) (by omega) ?_
      have ih9 := ih _ _ (I.plate hk p1 p2 p3)
      rw [show (b + 4 + 2 * (k + 1)) = (b + 4 + 2 * k) + 2 by omega] at ih9
      exact ih9
  have h9 := L1 0 (Nat.zero_le _) sk1 t1 I0
  rw [show (b + 4 + 2 * 0) = b + 1 + 1 + 1 + 1 by omega] at h9
  exact h9

theorem c_Fitting {l : Launch} {g : jG} (hok : jOk g) (hst : l.stackTraces = false) {z : Option Nat} {sk : jS} {t : jT} {b : Nat} (hz : z = some (b + 1)) (h0 : sk b = some k0_X1) : jMet l g mX1_init 1 5 129 [.ref (jb g + b)] z sk t (fun v2 z2 sk2 t2 => v2 = none ∧ z2 = some (b + 6) ∧ (sk2 b = some (jFit g b) ∧ sk2 (b + 1) = some (kA .int 49) ∧ sk2 (b + 2) = some (kA .int 20) ∧ sk2 (b + 3) = some (kA .int 20) ∧ sk2 (b + 4) = some (kA .int 20) ∧ sk2 (b + 5) = some (kA .int 20)) ∧ RcF t2 b ∧ ∀ a, (a < b ∨ b + 6 ≤ a) → sk2 a = sk a ∧ t2 a = t a) := by
  subst hz
  refine j_body (lv := [some (.ref (jb g + b))]) i_X1_init hok hst (fun p e s m args below meth c X => ?_)
  refine j_aload_n X (i := 0) dX1_init_0 rfl rfl ?_
  refine j_objInit X tw_1_156 tw_1_37 tw_1_38 dX1_init_1 ?_
  refine j_aload_n X (i := 0) dX1_init_4 rfl rfl ?_
  refine j_bipush X (v := (nI 49)) dX1_init_5 (by decide) ?_
  refine j_newarray X (ty := .int) (N := 49) (k9 := kA .int 49) rfl (by decide) tw_1_77 rfl (by decide) (by decide) dX1_init_7 ?_ 
  refine jFd.putR X fd_X1_9 ⟨_, rfl, tw_1_157⟩ rfl rfl ((jN_ne _ _ (by omega)).trans h0) (by exact Nat.le_of_ble_eq_true rfl) rfl rfl dX1_init_9 ?_
  refine j_aload_n X (i := 0) dX1_init_12 rfl rfl ?_
  refine j_bipush X (v := (nI 20)) dX1_init_13 (by decide) ?_
  refine j_newarray X (ty := .int) (N := 20) (k9 := kA .int 20) rfl (by decide) tw_1_77 rfl (by decide) (by decide) dX1_init_15 ?_ 
  refine jFd.putR X fd_X1_15 ⟨_, rfl, tw_1_158⟩ rfl rfl ((jN_ne _ _ (by omega)).trans (jN_eq _ _ _)) (by exact Nat.le_of_ble_eq_true rfl) rfl rfl dX1_init_17 ?_
  refine j_aload_n X (i := 0) dX1_init_20 rfl rfl ?_
  refine j_bipush X (v := (nI 20)) dX1_init_21 (by decide) ?_
  refine j_newarray X (ty := .int) (N := 20) (k9 := kA .int 20) rfl (by decide) tw_1_77 rfl (by decide) (by decide) dX1_init_23 ?_ 
  refine jFd.putR X fd_X1_18 ⟨_, rfl, tw_1_159⟩ rfl rfl ((jN_ne _ _ (by omega)).trans (jN_eq _ _ _)) (by exact Nat.le_of_ble_eq_true rfl) rfl rfl dX1_init_25 ?_
  refine j_aload_n X (i := 0) dX1_init_28 rfl rfl ?_
  refine j_bipush X (v := (nI 20)) dX1_init_29 (by decide) ?_
  refine j_newarray X (ty := .int) (N := 20) (k9 := kA .int 20) rfl (by decide) tw_1_77 rfl (by decide) (by decide) dX1_init_31 ?_ 
  refine jFd.putR X fd_X1_21 ⟨_, rfl, tw_1_160⟩ rfl rfl ((jN_ne _ _ (by omega)).trans (jN_eq _ _ _)) (by exact Nat.le_of_ble_eq_true rfl) rfl rfl dX1_init_33 ?_
  refine j_aload_n X (i := 0) dX1_init_36 rfl rfl ?_
  refine j_bipush X (v := (nI 20)) dX1_init_37 (by decide) ?_
  refine j_newarray X (ty := .int) (N := 20) (k9 := kA .int 20) rfl (by decide) tw_1_77 rfl (by decide) (by decide) dX1_init_39 ?_ 
  refine jFd.putR X fd_X1_24 ⟨_, rfl, tw_1_161⟩ rfl rfl ((jN_ne _ _ (by omega)).trans (jN_eq _ _ _)) (by exact Nat.le_of_ble_eq_true rfl) rfl rfl dX1_init_41 ?_
  refine j_aload_n X (i := 0) dX1_init_44 rfl rfl ?_
  refine j_iconst X (v := (nI 0)) dX1_init_45 (by decide) ?_
  refine jFd.put X fd_X1_27 (jN_eq _ _ _) rfl rfl rfl rfl dX1_init_46 ?_
  refine j_aload_n X (i := 0) dX1_init_49 rfl rfl ?_
  refine j_iconst X (v := (nI 0)) dX1_init_50 (by decide) ?_
  refine jFd.put X fd_X1_31 (jN_eq _ _ _) rfl rfl rfl rfl dX1_init_51 ?_
  refine j_aload_n X (i := 0) dX1_init_54 rfl rfl ?_
  refine j_iconst X (v := (nI 0)) dX1_init_55 (by decide) ?_
  refine jFd.put X fd_X1_34 (jN_eq _ _ _) rfl rfl rfl rfl dX1_init_56 ?_
  exact j_vret X dX1_init_59 rfl ⟨rfl, rfl, ⟨(jN_eq _ _ _), ((jN_ne _ _ (by omega)).trans ((jN_ne _ _ (by omega)).trans ((jN_ne _ _ (by omega)).trans ((jN_ne _ _ (by omega)).trans ((jN_ne _ _ (by omega)).trans ((jN_ne _ _ (by omega)).trans ((jN_ne _ _ (by omega)).trans ((jN_ne _ _ (by omega)).trans ((jN_ne _ _ (by omega)).trans (jN_eq _ _ _)))))))))), ((jN_ne _ _ (by omega)).trans ((jN_ne _ _ (by omega)).trans ((jN_ne _ _ (by omega)).trans ((jN_ne _ _ (by omega)).trans ((jN_ne _ _ (by omega)).trans ((jN_ne _ _ (by omega)).trans ((jN_ne _ _ (by omega)).trans (jN_eq _ _ _)))))))), ((jN_ne _ _ (by omega)).trans ((jN_ne _ _ (by omega)).trans ((jN_ne _ _ (by omega)).trans ((jN_ne _ _ (by omega)).trans ((jN_ne _ _ (by omega)).trans (jN_eq _ _ _)))))), ((jN_ne _ _ (by omega)).trans ((jN_ne _ _ (by omega)).trans ((jN_ne _ _ (by omega)).trans (jN_eq _ _ _)))), ((jN_ne _ _ (by omega)).trans (jN_eq _ _ _))⟩, ⟨0, 0, by rw [jU3_eq]; rfl, by rw [jU3_eq]; rfl, by decide, by decide, by decide, by decide⟩, fun a ha => ⟨by rw [jN_ne _ _ (by omega), jN_ne _ _ (by omega), jN_ne _ _ (by omega), jN_ne _ _ (by omega), jN_ne _ _ (by omega), jN_ne _ _ (by omega), jN_ne _ _ (by omega), jN_ne _ _ (by omega), jN_ne _ _ (by omega), jN_ne _ _ (by omega)], by rw [jU3 (by omega), jT0_ne _ (by omega), jT0_ne _ (by omega), jT0_ne _ (by omega), jT0_ne _ (by omega), jT0_ne _ (by omega)]⟩⟩

/-- a history that is being made -/
def hiI (g : jG) (k : Nat) (sk : jS) (t : jT) (sk1 : jS) (t1 : jT) : Prop := sk1 81 = some (jHist g) ∧ sk1 82 = some (kR "StarPress$Shop" 9 (hsA g k)) ∧ (t1 81 1 = nI 0 ∧ t1 81 2 = nI 0) ∧ (∀ j, j < k → isShop g sk1 (83 + 40 * j)) ∧ ∀ a, (a < 81 ∨ 443 ≤ a) → sk1 a = sk a ∧ t1 a = t a
theorem hiI.shop {g : jG} {k : Nat} {sk sk1 sk2 : jS} {t t1 t2 : jT} (I : hiI g k sk t sk1 t1) (hk : k < 9) (p1 : isShop g sk2 (83 + 40 * k)) (p3 : ∀ a, (a < 83 + 40 * k ∨ 83 + 40 * k + 40 ≤ a) → sk2 a = jN sk1 (83 + 40 * k) k0_X8 a ∧ t2 a = jT0 t1 (83 + 40 * k) a) : hiI g (k + 1) sk t (jN sk2 82 (kR "StarPress$Shop" 9 (va_up (hsA g k) k (some (jb g + (83 + 40 * k)))))) t2 := by
  have f : ∀ a, (a < 83 + 40 * k ∨ 83 + 40 * k + 40 ≤ a) → sk2 a = sk1 a ∧ t2 a = t1 a := fun a ha => ⟨(p3 a ha).1.trans (jN_ne _ _ (by omega)), (p3 a ha).2.trans (jT0_ne _ (by omega))⟩
  obtain ⟨i1, i2, ⟨i3, i4⟩, i5, i6⟩ := I
  refine ⟨(jN_ne _ _ (by omega)).trans ((f 81 (by omega)).1.trans i1), (jN_eq _ _ _).trans (by rw [hsA_step]), ⟨by rw [(f 81 (by omega)).2]; exact i3, by rw [(f 81 (by omega)).2]; exact i4⟩, fun j hj => ?_, fun a ha => ⟨(jN_ne _ _ (by omega)).trans ((f a (by omega)).1.trans (i6 a ha).1), (f a (by omega)).2.trans (i6 a ha).2⟩⟩
  by_cases e : j = k
  · subst e
    exact p1.cong fun c h1 h2 => jN_ne _ _ (by omega)
  · exact (i5 j (by omega)).cong fun c h1 h2 => (jN_ne _ _ (by omega)).trans (f c (by omega)).1
theorem isHist.cong {g : jG} {sk1 sk2 : jS} (h : isHist g sk1) (e : ∀ c, 81 ≤ c → c < 443 → sk2 c = sk1 c) : isHist g sk2 := by
  obtain ⟨h1, h2, h3⟩ := h
  exact ⟨(e _ (by omega) (by omega)).trans h1, (e _ (by omega) (by omega)).trans h2, fun k hk => (h3 k hk).cong fun c a b => e c (by omega) (by omega)⟩
theorem hiI.hist {g : jG} {sk sk1 : jS} {t t1 : jT} (I : hiI g 9 sk t sk1 t1) : isHist g sk1 := by
  obtain ⟨i1, i2, -, i5, -⟩ := I
  exact ⟨i1, by rw [i2, hsA_end], i5⟩
theorem c_History {l : Launch} {g : jG} (hok : jOk g) (hst : l.stackTraces = false) {z : Option Nat} {sk : jS} {t : jT} (hz : z = some 82) (h0 : sk 81 = some k0_X2) : jMet l g mX2_init 4 361 4680 [.ref (jb g + 81)] z sk t (fun v2 z2 sk2 t2 => v2 = none ∧ z2 = some 443 ∧ hiI g 9 sk t sk2 t2) := by
  subst hz
  refine j_body (lv := [some (.ref (jb g + 81)), none]) i_X2_init hok hst (fun p e s m args below meth c X => ?_)
  refine j_aload_n X (i := 0) dX2_init_0 rfl rfl ?_
  refine j_objInit X tw_1_136 tw_1_37 tw_1_38 dX2_init_1 ?_
  refine j_aload_n X (i := 0) dX2_init_4 rfl rfl ?_
  refine j_bipush X (v := (nI 9)) dX2_init_5 (by decide) ?_
  refine j_anewarray X (N := 9) (f9 := (hsA g 0)) (fun j hj => if_pos ⟨Nat.zero_le _, hj⟩) (by decide) tw_1_137 tw_1_138 rfl (by decide) dX2_init_7 ?_ 
  refine jFd.putR X fd_X2_13 ⟨_, rfl, tw_1_140⟩ rfl rfl ((jN_ne _ _ (by omega)).trans h0) (by exact Nat.le_of_ble_eq_true rfl) rfl rfl dX2_init_10 ?_
  refine j_aload_n X (i := 0) dX2_init_13 rfl rfl ?_
  refine j_iconst X (v := (nI 0)) dX2_init_14 (by decide) ?_
  refine jFd.put X fd_X2_17 (jN_eq _ _ _) rfl rfl rfl rfl dX2_init_15 ?_
  refine j_aload_n X (i := 0) dX2_init_18 rfl rfl ?_
  refine j_iconst X (v := (nI 0)) dX2_init_19 (by decide) ?_
  refine jFd.put X fd_X2_21 (jN_eq _ _ _) rfl rfl rfl rfl dX2_init_20 ?_
  refine j_gen (hiI g 0 sk t) ⟨(jN_eq _ _ _), ((jN_ne _ _ (by omega)).trans (jN_eq _ _ _)), ⟨by rw [jU_eq, jU_eq]; rfl, by rw [jU_eq, jU_eq]; rfl⟩, fun j hj => absurd hj (Nat.not_lt_zero j), fun a ha => ⟨by rw [jN_ne _ _ (by omega), jN_ne _ _ (by omega)], by rw [jU_ne _ _ _ (by omega), jU_ne _ _ _ (by omega)]⟩⟩ (fun sk1 t1 I0 => ?_)
  refine j_iconst X (v := (nI 0)) dX2_init_23 (by decide) ?_
  refine j_istore_n X (i := 1) dX2_init_24 rfl (by decide) rfl ?_
  have L1 : ∀ k, k ≤ 9 → ∀ sk1 t1, hiI g k sk t sk1 t1 → J p l e (jR 4 361 4680) s m args below meth c (jQm below args s g 361 4680 (fun v2 z2 sk2 t2 => v2 = none ∧ z2 = some 443 ∧ hiI g 9 sk t sk2 t2)) 2 g (1 + 40 * k) (9 + 519 * k) (some (83 + 40 * k)) sk1 t1 25 [some (.ref (jb g + 81)), some (.int (nI k))] [] := by
    refine up_loop ?_ ?_
    · intro sk1 t1 I
      refine j_iload_n X (i := 1) dX2_init_25 rfl rfl ?_
      refine j_bipush X (v := (nI 9)) dX2_init_26 (by decide) ?_
      refine j_icmp_ge X (tgt := 50) dX2_init_28 (by decide) (fun _ => ?_) (fun q9 => absurd (nI_le (Nat.le_refl _) (by decide)) q9)
      exact j_vret X dX2_init_50 rfl ⟨rfl, rfl, I⟩
    · intro k hk ih sk1 t1 I
      refine j_iload_n X (i := 1) dX2_init_25 rfl rfl ?_
      refine j_bipush X (v := (nI 9)) dX2_init_26 (by decide) ?_
      refine j_icmp_ge X (tgt := 50) dX2_init_28 (by decide) (fun q9 => absurd q9 (nI_ge hk (by decide))) (fun _ => ?_)
      refine j_aload_n X (i := 0) dX2_init_31 rfl rfl ?_
      refine jFd.get X fd_X2_13 I.1 rfl dX2_init_32 ?_
      refine j_iload_n X (i := 1) dX2_init_35 rfl rfl ?_
      refine j_new X nw_X8 tw_1_137 dX2_init_36 ?_ (by show 1 + 40 * k + 1 ≤ 361; omega) (by show 9 + 519 * k + 6 ≤ 4680; omega)
      refine j_dup X dX2_init_39 rfl ?_
      refine j_callI_p X (c_Shop hok hst (b := 83 + 40 * k) rfl (jN_eq _ _ _)) i_X8_init tw_1_139 tw_1_42 rfl rfl dX2_init_40 (fun v2 z2 sk2 t2 hp => ?_) (hmc := by show 1 + 40 * k + 1 + 39 ≤ 361; omega) (hms := by show 9 + 519 * k + 6 + 513 ≤ 4680; omega)
      obtain ⟨rfl, rfl, p1, -, p3⟩ := hp
      refine j_aast X ((p3 _ (by omega)).1.trans ((jN_ne _ _ (by omega)).trans I.2.1)) (by decide) rfl ⟨hk, by decide⟩ p1.1 rfl dX2_init_43 ?_
      refine j_iinc X (i := 1) (v := (nI (k + 1))) dX2_init_44 rfl (nI_1 k) (by decide) rfl ?_
      refine j_goto X (tgt := 25) dX2_init_47 (by decide) ?_
      refine j_widen (k := 1 + 40 * (k + 1)) (n := 9 + 519 * (k + 1)) (by omega) (by omega) ?_
      have ih9 := ih _ _ (I.shop hk p1 p3)
      rw [show 83 + 40 * (k + 1) = 83 + 40 * k + 40 by omega] at ih9
      exact ih9
  exact L1 0 (Nat.zero_le _) sk1 t1 I0

theorem c_Input {l : Launch} {g : jG} (hok : jOk g) (hst : l.stackTraces = false) {z : Option Nat} {sk : jS} {t : jT} (hz : z = some 451) (h0 : sk 450 = some k0_X3) {K w9 : Nat} {kw sa : Nat → Nat} (hK9 : oKw g K kw sa w9) : jMet l g mX3_init 1 1 60 [.ref (jb g + 450)] z sk t (fun v2 z2 sk2 t2 => v2 = none ∧ z2 = some 452 ∧ (sk2 450 = some (jInp g kw) ∧ sk2 451 = some (kA .char 60)) ∧ t2 450 1 = nI 0 ∧ ∀ a, (a < 450 ∨ 452 ≤ a) → sk2 a = sk a ∧ t2 a = t a) := by
  subst hz
  refine j_body (lv := [some (.ref (jb g + 450))]) i_X3_init hok hst (fun p e s m args below meth c X => ?_)
  refine j_aload_n X (i := 0) dX3_init_0 rfl rfl ?_
  refine j_objInit X tw_1_208 tw_1_37 tw_1_38 dX3_init_1 ?_
  refine j_aload_n X (i := 0) dX3_init_4 rfl rfl ?_
  refine j_bipush X (v := (nI 60)) dX3_init_5 (by decide) ?_
  refine j_newarray X (ty := .char) (N := 60) (k9 := kA .char 60) rfl (by decide) tw_2_1 rfl (by decide) (by decide) dX3_init_7 ?_ 
  refine jFd.putR X fd_X3_9 ⟨_, rfl, tw_1_211⟩ rfl rfl ((jN_ne _ _ (by omega)).trans h0) (by exact Nat.le_of_ble_eq_true rfl) rfl rfl dX3_init_9 ?_
  refine j_aload_n X (i := 0) dX3_init_12 rfl rfl ?_
  refine j_iconst X (v := (nI 0)) dX3_init_13 (by decide) ?_
  refine jFd.put X fd_X3_15 (jN_eq _ _ _) rfl rfl rfl rfl dX3_init_14 ?_
  refine j_aload_n X (i := 0) dX3_init_17 rfl rfl ?_
  refine j_iconst X (v := (nI 1)) dX3_init_18 (by decide) ?_
  refine jFd.put X fd_X3_19 (jN_eq _ _ _) rfl rfl rfl rfl dX3_init_19 ?_
  refine j_aload_n X (i := 0) dX3_init_22 rfl rfl ?_
  refine j_iconst X (v := (nI 0)) dX3_init_23 (by decide) ?_
  refine jFd.put X fd_X3_23 (jN_eq _ _ _) rfl rfl rfl rfl dX3_init_24 ?_
  refine j_gen (fun sk1 t1 => sk1 450 = some (kO 4 [fun _ => .ref (jb g + 451), .int, .int, .int, fun _ => .null, .int, .int, .int]) ∧ sk1 451 = some (kA .char 60) ∧ t1 450 1 = nI 0 ∧ ∀ a, (a < 450 ∨ 452 ≤ a) → sk1 a = sk a ∧ t1 a = t a) ⟨(jN_eq _ _ _), ((jN_ne _ _ (by omega)).trans (jN_eq _ _ _)), by rw [jU3_eq]; rfl, fun a ha => ⟨by rw [jN_ne _ _ (by omega), jN_ne _ _ (by omega)], by rw [jU3 (by omega), jT0_ne _ (by omega)]⟩⟩ (fun sk1 t1 I => ?_)
  obtain ⟨i1, i2, i3, i4⟩ := I
  refine j_aload_n X (i := 0) dX3_init_27 rfl rfl ?_
  refine j_gets X hK9.2.2.2.2.1 tw_1_209 dX3_init_28 ?_
  refine jFd.putG X fd_X3_32 rfl rfl ⟨_, rfl, tw_1_216⟩ i1 (by exact Nat.le_of_ble_eq_true rfl) rfl rfl dX3_init_31 (sk2 := jN sk1 450 (jInp g kw)) (t2 := jU t1 450 4 (nI 3)) (jN_eq _ _ _) (by rw [jU_eq]; rfl) (fun a ha => jN_ne _ _ ha) (fun a ha => jU_ne _ _ _ ha) ?_
  refine j_aload_n X (i := 0) dX3_init_34 rfl rfl ?_
  refine j_iconst X (v := (nI 0)) dX3_init_35 (by decide) ?_
  refine jFd.put X fd_X3_35 (jN_eq _ _ _) rfl rfl rfl rfl dX3_init_36 ?_
  refine j_aload_n X (i := 0) dX3_init_39 rfl rfl ?_
  refine j_iconst X (v := (nI 0)) dX3_init_40 (by decide) ?_
  refine jFd.put X fd_X3_38 (jN_eq _ _ _) rfl rfl rfl rfl dX3_init_41 ?_
  refine j_aload_n X (i := 0) dX3_init_44 rfl rfl ?_
  refine j_iconst X (v := (nI 0)) dX3_init_45 (by decide) ?_
  refine jFd.put X fd_X3_41 (jN_eq _ _ _) rfl rfl rfl rfl dX3_init_46 ?_
  exact j_vret X dX3_init_49 rfl ⟨rfl, rfl, ⟨(jN_eq _ _ _), (jN_ne _ _ (by omega)).trans i2⟩, by rw [jU3_eq, jU_eq]; exact i3, fun a ha => ⟨(jN_ne _ _ (by omega)).trans (i4 a ha).1, by rw [jU3 (by omega), jU_ne _ _ _ (by omega)]; exact (i4 a ha).2⟩⟩

