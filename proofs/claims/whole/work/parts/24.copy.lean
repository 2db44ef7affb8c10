theorem s_copyPlate {l : Launch} {g : jG} (hok : jOk g) (hst : l.stackTraces = false) {z : Option Nat} {sk : jS} {t : jT} {i r i2 r2 : Nat} {q : PV} (hT : sk i = some (jPlate g r)) (hR : sk r = some (kA .int 8)) (hT2 : sk i2 = some (jPlate g r2)) (hR2 : sk r2 = some (kA .int 8)) (hQ : RcP t i2 r2 q) (n1 : i ≠ r) (n2 : i ≠ i2) (n3 : i ≠ r2) (n4 : r ≠ i2) (n5 : r ≠ r2) : jMet l g mX5_copyFrom 2 0 0 [.ref (jb g + i), .ref (jb g + i2)] z sk t (fun v2 z2 sk2 t2 => v2 = none ∧ z = z2 ∧ sk = sk2 ∧ RcP t2 i r q ∧ (∀ c, c ≠ i → c ≠ r → t2 c = t c)) := by
  refine j_body (lv := [some (.ref (jb g + i)), some (.ref (jb g + i2))]) i_X5_copyFrom hok hst (fun p e s m args below meth c X => ?_)
  obtain ⟨q1, q2, q3, q4⟩ := id hQ
  refine j_aload_n X (i := 1) dX5_copyFrom_0 rfl rfl ?_
  refine jFd.get X fd_X5_9 hT2 rfl dX5_copyFrom_1 ?_
  refine j_iconst X (v := (nI 0)) dX5_copyFrom_4 (by decide) ?_
  refine j_aload_n X (i := 0) dX5_copyFrom_5 rfl rfl ?_
  refine jFd.get X fd_X5_9 hT rfl dX5_copyFrom_6 ?_
  refine j_iconst X (v := (nI 0)) dX5_copyFrom_9 (by decide) ?_
  refine j_bipush X (v := (nI 8)) dX5_copyFrom_10 (by decide) ?_
  refine j_copy X (q := 8) hR2 hR (by decide) (by decide) (by decide) tw_2_171 tw_2_173 tw_2_172 tw_1_13 dX5_copyFrom_12 ?_
  obtain ⟨t1, ht1⟩ : ∃ t1, t1 = jcp t r2 r 8 := ⟨_, rfl⟩
  have e0 : t1 r = (fun k => if k < 8 then t r2 k else t r k) := by rw [ht1]; exact jUf_eq _ _ _
  have eo : ∀ c, c ≠ r → t1 c = t c := fun c hc => by rw [ht1]; exact jUf_ne _ _ hc
  rw [← ht1]
  clear ht1
  refine j_aload_n X (i := 0) dX5_copyFrom_15 rfl rfl ?_
  refine j_aload_n X (i := 1) dX5_copyFrom_16 rfl rfl ?_
  refine jFd.get X fd_X5_15 hT2 rfl dX5_copyFrom_17 ?_
  rw [eo _ (Ne.symm n4), q1]
  refine jFd.put X fd_X5_15 hT rfl rfl rfl rfl dX5_copyFrom_20 ?_
  refine j_aload_n X (i := 0) dX5_copyFrom_23 rfl rfl ?_
  refine j_aload_n X (i := 1) dX5_copyFrom_24 rfl rfl ?_
  refine jFd.get X fd_X5_19 hT2 rfl dX5_copyFrom_25 ?_
  rw [jU_ne _ _ _ (Ne.symm n2), eo _ (Ne.symm n4), q2]
  refine jFd.put X fd_X5_19 hT rfl rfl rfl rfl dX5_copyFrom_28 ?_
  refine j_aload_n X (i := 0) dX5_copyFrom_31 rfl rfl ?_
  refine j_aload_n X (i := 1) dX5_copyFrom_32 rfl rfl ?_
  refine jFd.get X fd_X5_22 hT2 rfl dX5_copyFrom_33 ?_
  rw [jU_ne _ _ _ (Ne.symm n2), jU_ne _ _ _ (Ne.symm n2), eo _ (Ne.symm n4), q3]
  refine jFd.put X fd_X5_22 hT rfl rfl rfl rfl dX5_copyFrom_36 ?_
  refine j_vret X dX5_copyFrom_39 rfl ⟨rfl, rfl, rfl, ⟨by rw [jU_eq, jU_eq, jU_eq]; rfl, by rw [jU_eq, jU_eq]; rfl, by rw [jU_eq]; rfl, ?_⟩, fun c h1 h2 => by rw [jU_ne _ _ _ h1, jU_ne _ _ _ h1, jU_ne _ _ _ h1]; exact eo c h2⟩
  rw [jU_ne _ _ _ (Ne.symm n1), jU_ne _ _ _ (Ne.symm n1), jU_ne _ _ _ (Ne.symm n1), e0]
  intro y hy
  show (if y < 8 then _ else _) = _
  rw [if_pos hy]
  exact q4 y hy

theorem s_copySheet {l : Launch} {g : jG} (hok : jOk g) (hst : l.stackTraces = false) {z : Option Nat} {sk : jS} {t : jT} {i a b i2 a2 b2 : Nat} {q : TV} (hT : sk i = some (jSheet g a b)) (hA : sk a = some (kA .int 24)) (hB : sk b = some (kA .int 24)) (hT2 : sk i2 = some (jSheet g a2 b2)) (hA2 : sk a2 = some (kA .int 24)) (hB2 : sk b2 = some (kA .int 24)) (hQ : RcS t i2 a2 b2 q) (m1 : i ≠ a) (m2 : i ≠ b) (m3 : a ≠ b) (n1 : i ≠ i2) (n4 : a ≠ i2) (n5 : a ≠ a2) (n6 : a ≠ b2) (n7 : b ≠ i2) (n8 : b ≠ a2) (n9 : b ≠ b2) : jMet l g mX7_copyFrom 2 0 0 [.ref (jb g + i), .ref (jb g + i2)] z sk t (fun v2 z2 sk2 t2 => v2 = none ∧ z = z2 ∧ sk = sk2 ∧ RcS t2 i a b q ∧ (∀ c, c ≠ i → c ≠ a → c ≠ b → t2 c = t c)) := by
  refine j_body (lv := [some (.ref (jb g + i)), some (.ref (jb g + i2))]) i_X7_copyFrom hok hst (fun p e s m args below meth c X => ?_)
  obtain ⟨q1, q2, q3, q4, q5⟩ := id hQ
  refine j_aload_n X (i := 1) dX7_copyFrom_0 rfl rfl ?_
  refine jFd.get X fd_X7_9 hT2 rfl dX7_copyFrom_1 ?_
  refine j_iconst X (v := (nI 0)) dX7_copyFrom_4 (by decide) ?_
  refine j_aload_n X (i := 0) dX7_copyFrom_5 rfl rfl ?_
  refine jFd.get X fd_X7_9 hT rfl dX7_copyFrom_6 ?_
  refine j_iconst X (v := (nI 0)) dX7_copyFrom_9 (by decide) ?_
  refine j_bipush X (v := (nI 24)) dX7_copyFrom_10 (by decide) ?_
  refine j_copy X (q := 24) hA2 hA (by decide) (by decide) (by decide) tw_2_178 tw_2_173 tw_2_172 tw_1_13 dX7_copyFrom_12 ?_
  refine j_aload_n X (i := 1) dX7_copyFrom_15 rfl rfl ?_
  refine jFd.get X fd_X7_15 hT2 rfl dX7_copyFrom_16 ?_
  refine j_iconst X (v := (nI 0)) dX7_copyFrom_19 (by decide) ?_
  refine j_aload_n X (i := 0) dX7_copyFrom_20 rfl rfl ?_
  refine jFd.get X fd_X7_15 hT rfl dX7_copyFrom_21 ?_
  refine j_iconst X (v := (nI 0)) dX7_copyFrom_24 (by decide) ?_
  refine j_bipush X (v := (nI 24)) dX7_copyFrom_25 (by decide) ?_
  refine j_copy X (q := 24) hB2 hB (by decide) (by decide) (by decide) tw_2_178 tw_2_173 tw_2_172 tw_1_13 dX7_copyFrom_27 ?_
  obtain ⟨t1, ht1⟩ : ∃ t1, t1 = jcp (jcp t a2 a 24) b2 b 24 := ⟨_, rfl⟩
  have e0 : t1 a = (fun k => if k < 24 then t a2 k else t a k) := by rw [ht1]; exact (jUf_ne _ _ m3).trans (jUf_eq _ _ _)
  have e1 : t1 b = (fun k => if k < 24 then t b2 k else t b k) := by
    rw [ht1]
    refine (jUf_eq _ _ _).trans ?_
    rw [show jcp t a2 a 24 b2 = t b2 from jUf_ne _ _ (Ne.symm n6), show jcp t a2 a 24 b = t b from jUf_ne _ _ (Ne.symm m3)]
  have eo : ∀ c, c ≠ a → c ≠ b → t1 c = t c := fun c hc h2 => by rw [ht1]; exact (jUf_ne _ _ h2).trans (jUf_ne _ _ hc)
  rw [← ht1]
  clear ht1
  refine j_aload_n X (i := 0) dX7_copyFrom_30 rfl rfl ?_
  refine j_aload_n X (i := 1) dX7_copyFrom_31 rfl rfl ?_
  refine jFd.get X fd_X7_18 hT2 rfl dX7_copyFrom_32 ?_
  rw [eo _ (Ne.symm n4) (Ne.symm n7), q1]
  refine jFd.put X fd_X7_18 hT rfl rfl rfl rfl dX7_copyFrom_35 ?_
  refine j_aload_n X (i := 0) dX7_copyFrom_38 rfl rfl ?_
  refine j_aload_n X (i := 1) dX7_copyFrom_39 rfl rfl ?_
  refine jFd.get X fd_X7_22 hT2 rfl dX7_copyFrom_40 ?_
  rw [jU_ne _ _ _ (Ne.symm n1), eo _ (Ne.symm n4) (Ne.symm n7), q2]
  refine jFd.put X fd_X7_22 hT rfl rfl rfl rfl dX7_copyFrom_43 ?_
  refine j_aload_n X (i := 0) dX7_copyFrom_46 rfl rfl ?_
  refine j_aload_n X (i := 1) dX7_copyFrom_47 rfl rfl ?_
  refine jFd.get X fd_X7_25 hT2 rfl dX7_copyFrom_48 ?_
  rw [jU_ne _ _ _ (Ne.symm n1), jU_ne _ _ _ (Ne.symm n1), eo _ (Ne.symm n4) (Ne.symm n7), q3]
  refine jFd.put X fd_X7_25 hT rfl rfl rfl rfl dX7_copyFrom_51 ?_
  refine j_vret X dX7_copyFrom_54 rfl ⟨rfl, rfl, rfl, ⟨by rw [jU_eq, jU_eq, jU_eq]; rfl, by rw [jU_eq, jU_eq]; rfl, by rw [jU_eq]; rfl, ?_, ?_⟩, fun c h1 h2 h3 => by rw [jU_ne _ _ _ h1, jU_ne _ _ _ h1, jU_ne _ _ _ h1]; exact eo c h2 h3⟩
  · rw [jU_ne _ _ _ (Ne.symm m1), jU_ne _ _ _ (Ne.symm m1), jU_ne _ _ _ (Ne.symm m1), e0]
    intro j hj y hy
    show (if 8 * j + y < 24 then _ else _) = _
    rw [if_pos (by omega)]
    exact q4 j hj y hy
  · rw [jU_ne _ _ _ (Ne.symm m2), jU_ne _ _ _ (Ne.symm m2), jU_ne _ _ _ (Ne.symm m2), e1]
    intro j hj y hy
    show (if 8 * j + y < 24 then _ else _) = _
    rw [if_pos (by omega)]
    exact q5 j hj y hy

theorem s_copyShop {l : Launch} {g : jG} (hok : jOk g) (hst : l.stackTraces = false) {z : Option Nat} {sk : jS} {t : jT} {b d : Nat} {V : SV} (hB : isShop g sk b) (hD : isShop g sk d) (hV : RcV t d V) (hbd : b + 40 ≤ d ∨ d + 40 ≤ b) : jMet l g mX8_copyFrom 3 0 0 [.ref (jb g + b), .ref (jb g + d)] z sk t (fun v2 z2 sk2 t2 => v2 = none ∧ z = z2 ∧ sk = sk2 ∧ RcV t2 b V ∧ (∀ c, (c < b ∨ b + 40 ≤ c) → t2 c = t c)) := by
  refine j_body (lv := [some (.ref (jb g + b)), some (.ref (jb g + d)), none]) i_X8_copyFrom hok hst (fun p e s m args below meth c X => ?_)
  obtain ⟨B1, B2, B3, B4, B5, B6⟩ := id hB
  obtain ⟨D1, D2, D3, D4, D5, D6⟩ := id hD
  have src : ∀ t1 : jT, (∀ c, (c < b ∨ b + 40 ≤ c) → t1 c = t c) → RcV t1 d V := fun t1 h => hV.cong (fun c _ _ => h c (by omega))
  have second : ∀ k, k ≤ 8 → ∀ t1 : jT, (∀ c, (c < b ∨ b + 40 ≤ c) → t1 c = t c) → (∀ j, j < 6 → RcP t1 ((b + 4 + 2 * j)) ((b + 4 + 2 * j) + 1) (pl V j)) → (∀ j, j < k → RcS t1 ((b + 16 + 3 * j)) ((b + 16 + 3 * j) + 1) ((b + 16 + 3 * j) + 2) (sh V j)) → J p l e (jR 3 0 0) s m args below meth c (jQm below args s g 0 0 (fun v2 z2 sk2 t2 => v2 = none ∧ z = z2 ∧ sk = sk2 ∧ RcV t2 b V ∧ (∀ c, (c < b ∨ b + 40 ≤ c) → t2 c = t c))) 3 g 0 0 z sk  t1 31 [some (.ref (jb g + b)), some (.ref (jb g + d)), some (.int (nI k))] [] := by
    refine up_loop ?_ ?_
    · intro t1 hf hp hs
      obtain ⟨v1, v2, v3, v4, v5, v6⟩ := src t1 hf
      refine j_iload_n X (i := 2) dX8_copyFrom_31 rfl rfl ?_
      refine j_bipush X (v := (nI 8)) dX8_copyFrom_32 (by decide) ?_
      refine j_icmp_ge X (tgt := 58) dX8_copyFrom_34 (by decide) (fun _ => ?_) (fun q9 => absurd (nI_le (Nat.le_refl _) (by decide)) q9)
      refine j_aload_n X (i := 1) dX8_copyFrom_58 rfl rfl ?_
      refine jFd.get X fd_X8_23 D1 rfl dX8_copyFrom_59 ?_
      refine j_iconst X (v := (nI 0)) dX8_copyFrom_62 (by decide) ?_
      refine j_aload_n X (i := 0) dX8_copyFrom_63 rfl rfl ?_
      refine jFd.get X fd_X8_23 B1 rfl dX8_copyFrom_64 ?_
      refine j_iconst X (v := (nI 0)) dX8_copyFrom_67 (by decide) ?_
      refine j_iconst X (v := (nI 3)) dX8_copyFrom_68 (by decide) ?_
      refine j_copy X (q := 3) D4 B4 (by decide) (by decide) (by decide) tw_2_179 tw_2_173 tw_2_172 tw_1_13 dX8_copyFrom_69 ?_
      obtain ⟨t3, ht3⟩ : ∃ t3, t3 = jcp t1 (d + 3) (b + 3) 3 := ⟨_, rfl⟩
      have e0 : t3 (b + 3) = (fun k => if k < 3 then t1 (d + 3) k else t1 (b + 3) k) := by rw [ht3]; exact jUf_eq _ _ _
      have eo : ∀ c, c ≠ b + 3 → t3 c = t1 c := fun c hc => by rw [ht3]; exact jUf_ne _ _ hc
      rw [← ht3]
      clear ht3
      have nd : d ≠ b := by omega
      have nd3 : d ≠ b + 3 := by omega
      refine j_aload_n X (i := 0) dX8_copyFrom_72 rfl rfl ?_
      refine j_aload_n X (i := 1) dX8_copyFrom_73 rfl rfl ?_
      refine jFd.get X fd_X8_27 D1 rfl dX8_copyFrom_74 ?_
      rw [eo _ nd3, v1]
      refine jFd.put X fd_X8_27 B1 rfl rfl rfl rfl dX8_copyFrom_77 ?_
      refine j_aload_n X (i := 0) dX8_copyFrom_80 rfl rfl ?_
      refine j_aload_n X (i := 1) dX8_copyFrom_81 rfl rfl ?_
      refine jFd.get X fd_X8_31 D1 rfl dX8_copyFrom_82 ?_
      rw [jU_ne _ _ _ nd, eo _ nd3, v2]
      refine jFd.put X fd_X8_31 B1 rfl rfl rfl rfl dX8_copyFrom_85 ?_
      refine j_aload_n X (i := 0) dX8_copyFrom_88 rfl rfl ?_
      refine j_aload_n X (i := 1) dX8_copyFrom_89 rfl rfl ?_
      refine jFd.get X fd_X8_34 D1 rfl dX8_copyFrom_90 ?_
      rw [jU_ne _ _ _ nd, jU_ne _ _ _ nd, eo _ nd3, v3]
      refine jFd.put X fd_X8_34 B1 rfl rfl rfl rfl dX8_copyFrom_93 ?_
      have ef : ∀ c, c ≠ b → c ≠ b + 3 → jU (jU (jU t3 b 3 (nI (np V))) b 4 (nI (ns V))) b 5 (nI (hr V)) c = t1 c := fun c h1 h2 => by rw [jU_ne _ _ _ h1, jU_ne _ _ _ h1, jU_ne _ _ _ h1]; exact eo c h2
      refine j_vret X dX8_copyFrom_96 rfl ⟨rfl, rfl, rfl, ⟨by rw [jU_eq, jU_eq, jU_eq]; rfl, by rw [jU_eq, jU_eq]; rfl, by rw [jU_eq]; rfl, ?_, fun j hj => (hp j hj).cong (ef _ (by omega) (by omega)) (ef _ (by omega) (by omega)), fun j hj => (hs j hj).cong (ef _ (by omega) (by omega)) (ef _ (by omega) (by omega)) (ef _ (by omega) (by omega))⟩, fun c hc => (ef c (by omega) (by omega)).trans (hf c hc)⟩
      intro i hi
      rw [jU_ne _ _ _ (by omega), jU_ne _ _ _ (by omega), jU_ne _ _ _ (by omega), e0]
      show (if i < 3 then _ else _) = _
      rw [if_pos hi]
      exact v4 i hi
    · intro k hk ih t1 hf hp9 hs
      have v6 := (src t1 hf).2.2.2.2.2
      have B := B6 k hk
      have D := D6 k hk
      refine j_iload_n X (i := 2) dX8_copyFrom_31 rfl rfl ?_
      refine j_bipush X (v := (nI 8)) dX8_copyFrom_32 (by decide) ?_
      refine j_icmp_ge X (tgt := 58) dX8_copyFrom_34 (by decide) (fun q9 => absurd q9 (nI_ge hk (by decide))) (fun _ => ?_)
      refine j_aload_n X (i := 0) dX8_copyFrom_37 rfl rfl ?_
      refine jFd.get X fd_X8_19 B1 rfl dX8_copyFrom_38 ?_
      refine j_iload_n X (i := 2) dX8_copyFrom_41 rfl rfl ?_
      refine j_aald X B3 (by decide) rfl hk (by decide) rfl dX8_copyFrom_42 ?_
      refine j_aload_n X (i := 1) dX8_copyFrom_43 rfl rfl ?_
      refine jFd.get X fd_X8_19 D1 rfl dX8_copyFrom_44 ?_
      refine j_iload_n X (i := 2) dX8_copyFrom_47 rfl rfl ?_
      refine j_aald X D3 (by decide) rfl hk (by decide) rfl dX8_copyFrom_48 ?_
      refine j_callV_p X (s_copySheet hok hst B.1 B.2.1 B.2.2 D.1 D.2.1 D.2.2 (v6 k hk) (by omega) (by omega) (by omega) (by omega) (by omega) (by omega) (by omega) (by omega) (by omega) (by omega)) i_X7_copyFrom tw_2_174 tw_2_175 tw_2_176 B.1 rfl dX8_copyFrom_49 (fun v2 z2 sk2 t2 hp => ?_) 
      obtain ⟨rfl, rfl, rfl, hT2, hf2⟩ := hp
      refine j_iinc X (i := 2) (v := (nI (k + 1))) dX8_copyFrom_52 rfl (nI_1 k) (by decide) rfl ?_
      refine j_goto X (tgt := 31) dX8_copyFrom_55 (by decide) ?_
      refine ih t2 (fun c hc => (hf2 c (by omega) (by omega) (by omega)).trans (hf c hc)) (fun j hj => (hp9 j hj).cong (hf2 _ (by omega) (by omega) (by omega)) (hf2 _ (by omega) (by omega) (by omega))) (fun j hj => ?_)
      by_cases e : j = k
      · subst e; exact hT2
      · exact (hs j (by omega)).cong (hf2 _ (by omega) (by omega) (by omega)) (hf2 _ (by omega) (by omega) (by omega)) (hf2 _ (by omega) (by omega) (by omega))
  have first : ∀ k, k ≤ 6 → ∀ t1 : jT, (∀ c, (c < b ∨ b + 40 ≤ c) → t1 c = t c) → (∀ j, j < k → RcP t1 ((b + 4 + 2 * j)) ((b + 4 + 2 * j) + 1) (pl V j)) → J p l e (jR 3 0 0) s m args below meth c (jQm below args s g 0 0 (fun v2 z2 sk2 t2 => v2 = none ∧ z = z2 ∧ sk = sk2 ∧ RcV t2 b V ∧ (∀ c, (c < b ∨ b + 40 ≤ c) → t2 c = t c))) 3 g 0 0 z sk  t1 2 [some (.ref (jb g + b)), some (.ref (jb g + d)), some (.int (nI k))] [] := by
    refine up_loop ?_ ?_
    · intro t1 hf hp
      refine j_iload_n X (i := 2) dX8_copyFrom_2 rfl rfl ?_
      refine j_bipush X (v := (nI 6)) dX8_copyFrom_3 (by decide) ?_
      refine j_icmp_ge X (tgt := 29) dX8_copyFrom_5 (by decide) (fun _ => ?_) (fun q9 => absurd (nI_le (Nat.le_refl _) (by decide)) q9)
      refine j_iconst X (v := (nI 0)) dX8_copyFrom_29 (by decide) ?_
      refine j_istore_n X (i := 2) dX8_copyFrom_30 rfl (by decide) rfl ?_
      exact second 0 (Nat.zero_le _) t1 hf hp (fun j hj => absurd hj (Nat.not_lt_zero j))
    · intro k hk ih t1 hf hp9
      have v5 := (src t1 hf).2.2.2.2.1
      have B := B5 k hk
      have D := D5 k hk
      refine j_iload_n X (i := 2) dX8_copyFrom_2 rfl rfl ?_
      refine j_bipush X (v := (nI 6)) dX8_copyFrom_3 (by decide) ?_
      refine j_icmp_ge X (tgt := 29) dX8_copyFrom_5 (by decide) (fun q9 => absurd q9 (nI_ge hk (by decide))) (fun _ => ?_)
      refine j_aload_n X (i := 0) dX8_copyFrom_8 rfl rfl ?_
      refine jFd.get X fd_X8_11 B1 rfl dX8_copyFrom_9 ?_
      refine j_iload_n X (i := 2) dX8_copyFrom_12 rfl rfl ?_
      refine j_aald X B2 (by decide) rfl hk (by decide) rfl dX8_copyFrom_13 ?_
      refine j_aload_n X (i := 1) dX8_copyFrom_14 rfl rfl ?_
      refine jFd.get X fd_X8_11 D1 rfl dX8_copyFrom_15 ?_
      refine j_iload_n X (i := 2) dX8_copyFrom_18 rfl rfl ?_
      refine j_aald X D2 (by decide) rfl hk (by decide) rfl dX8_copyFrom_19 ?_
      refine j_callV_p X (s_copyPlate hok hst B.1 B.2 D.1 D.2 (v5 k hk) (by omega) (by omega) (by omega) (by omega) (by omega)) i_X5_copyFrom tw_2_167 tw_2_168 tw_2_169 B.1 rfl dX8_copyFrom_20 (fun v2 z2 sk2 t2 hp => ?_) 
      obtain ⟨rfl, rfl, rfl, hT2, hf2⟩ := hp
      refine j_iinc X (i := 2) (v := (nI (k + 1))) dX8_copyFrom_23 rfl (nI_1 k) (by decide) rfl ?_
      refine j_goto X (tgt := 2) dX8_copyFrom_26 (by decide) ?_
      refine ih t2 (fun c hc => (hf2 c (by omega) (by omega)).trans (hf c hc)) (fun j hj => ?_)
      by_cases e : j = k
      · subst e; exact hT2
      · exact (hp9 j (by omega)).cong (hf2 _ (by omega) (by omega)) (hf2 _ (by omega) (by omega))
  refine j_iconst X (v := (nI 0)) dX8_copyFrom_0 (by decide) ?_
  refine j_istore_n X (i := 2) dX8_copyFrom_1 rfl (by decide) rfl ?_
  exact first 0 (Nat.zero_le _) t (fun _ _ => rfl) (fun j hj => absurd hj (Nat.not_lt_zero j))

