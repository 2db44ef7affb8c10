theorem Rows3.same {f : Nat → Int32} {P P' : Nat → Nat → Bool} (h : Rows3 f P) (hp : ∀ j, j < 3 → ∀ k, k < 128 → P' j k = P j k) : Rows3 f P' := fun j hj y hy => by
  rw [h j hj y hy]
  exact congrArg nI (rN_cong fun x hx => (hp j hj (16 * y + x) (by omega)).symm)
theorem Rows3.put {f : Nat → Int32} {P P' : Nat → Nat → Bool} (h : Rows3 f P) {j0 y0 : Nat} (hy0 : y0 < 8) {q : Nat → Bool} (hq : ∀ x, x < 16 → P' j0 (16 * y0 + x) = q x) (ho : ∀ j, j < 3 → ∀ y, y < 8 → (j ≠ j0 ∨ y ≠ y0) → ∀ x, x < 16 → P' j (16 * y + x) = P j (16 * y + x)) : Rows3 (upd f (8 * j0 + y0) (nI (rN q))) P' := fun j hj y hy => by
  unfold upd
  by_cases e : 8 * j + y = 8 * j0 + y0
  · have e1 : j = j0 := by omega
    have e2 : y = y0 := by omega
    subst e1; subst e2
    rw [if_pos rfl]
    exact congrArg nI (rN_cong fun x hx => (hq x hx).symm)
  · rw [if_neg e, h j hj y hy]
    exact congrArg nI (rN_cong fun x hx => (ho j hj y hy (by omega) x hx).symm)
def smrP (P : Nat → Nat → Bool) (j k : Nat) : Bool := P j k || (decide (1 ≤ k % 16) && P j (k - 1))
def smV (v : TV) : TV := ((v.1.1, v.1.2.1 + 1, v.1.2.2), smrP v.2.1, v.2.2)
def hitB (S : Nat → Bool) (dx dy : Int) (k : Nat) : Bool := onB k (-dx) (-dy) && S (mvB k (-dx) (-dy))
def takeV (v : TV) (p : PV) : TV := let u := if 0 < v.1.1 then smV v else v
  (((cntB p.2.2.2 + 3) / 4, u.1.2.1, u.1.2.2), (fun j k => u.2.1 j k || (decide (j = p.1 / 2) && hitB p.2.2.2 p.2.1 p.2.2.1 k)), (fun j k => u.2.2 j k || (decide (j = p.1 / 2) && p.2.2.2 k)))
def smR (P : Nat → Nat → Bool) (r x : Nat) : Bool := smrP P (r / 8) (16 * (r % 8) + x)

theorem s_smear {l : Launch} {g : jG} (hok : jOk g) (hst : l.stackTraces = false) {z : Option Nat} {sk : jS} {t : jT} {i a b : Nat} {v : TV} (hT : sk i = some (jSheet g a b)) (hA : sk a = some (kA .int 24)) (hB : sk b = some (kA .int 24)) (hV : RcS t i a b v) (hia : i ≠ a) (hib : i ≠ b) (hab : a ≠ b) : jMet l g mX7_smear 1 0 0 [.ref (jb g + i)] z sk t (fun v2 z2 sk2 t2 => v2 = none ∧ z = z2 ∧ sk = sk2 ∧ RcS t2 i a b (smV v) ∧ ∀ c, c ≠ i → c ≠ a → c ≠ b → t2 c = t c) := by
  refine j_body (lv := [some (.ref (jb g + i)), none]) i_X7_smear hok hst (fun p e s m args below meth c X => ?_)
  obtain ⟨v1, v2, v3, v4, v5⟩ := id hV
  have row : ∀ r, r < 24 → t a r = nI (rN (fun x => v.2.1 (r / 8) (16 * (r % 8) + x))) := fun r hr => by
    have := v4 (r / 8) (by omega) (r % 8) (by omega)
    rwa [show 8 * (r / 8) + r % 8 = r by omega] at this
  have key : ∀ r, r ≤ 24 → J p l e (jR 1 0 0) s m args below meth c (jQm below args s g 0 0 (fun v2 z2 sk2 t2 => v2 = none ∧ z = z2 ∧ sk = sk2 ∧ RcS t2 i a b (smV v) ∧ ∀ c, c ≠ i → c ≠ a → c ≠ b → t2 c = t c)) 2 g 0 0 z sk  (jUf t a (fun k => if k < r then nI (rN (smR v.2.1 k)) else t a k)) 2 [some (.ref (jb g + i)), some (.int (nI r))] [] := by
    refine up_loop ?_ ?_
    · refine j_iload_n X (i := 1) dX7_smear_2 rfl rfl ?_
      refine j_bipush X (v := (nI 24)) dX7_smear_3 (by decide) ?_
      refine j_icmp_ge X (tgt := 34) dX7_smear_5 (by decide) (fun _ => ?_) (fun q9 => absurd (nI_le (Nat.le_refl _) (by decide)) q9)
      refine j_aload_n X (i := 0) dX7_smear_34 rfl rfl ?_
      refine j_dup X dX7_smear_35 rfl ?_
      refine jFd.get X fd_X7_22 hT rfl dX7_smear_36 ?_
      refine j_iconst X (v := (nI 1)) dX7_smear_39 (by decide) ?_
      rw [jUf_ne _ _ hia, v2]
      refine j_iadd X dX7_smear_40 ?_
      rw [nI_add]
      refine jFd.put X fd_X7_22 hT rfl rfl rfl rfl dX7_smear_41 ?_
      refine j_vret X dX7_smear_44 rfl ⟨rfl, rfl, rfl, ?_, ?_⟩
      · refine ⟨?_, ?_, ?_, ?_, ?_⟩
        · rw [jU_eq, jUf_ne _ _ hia]; exact v1
        · rw [jU_eq]; rfl
        · rw [jU_eq, jUf_ne _ _ hia]; exact v3
        · rw [jU_ne _ _ _ (Ne.symm hia), jUf_eq]
          intro j hj y hy
          show (if 8 * j + y < 24 then _ else _) = _
          rw [if_pos (by omega)]
          refine congrArg nI (rN_cong fun x hx => ?_)
          unfold smR
          rw [show (8 * j + y) / 8 = j by omega, show (8 * j + y) % 8 = y by omega]
          rfl
        · rw [jU_ne _ _ _ (Ne.symm hib), jUf_ne _ _ (Ne.symm hab)]; exact v5
      · intro c h1 h2 h3
        rw [jU_ne _ _ _ h1, jUf_ne _ _ h2]
    · intro r hr ih
      have e0 : (jUf t a (fun k => if k < r then nI (rN (smR v.2.1 k)) else t a k)) a r = nI (rN (fun x => v.2.1 (r / 8) (16 * (r % 8) + x))) := by
        rw [jUf_eq]
        show (if r < r then _ else _) = _
        rw [if_neg (Nat.lt_irrefl _), row r hr]
      refine j_iload_n X (i := 1) dX7_smear_2 rfl rfl ?_
      refine j_bipush X (v := (nI 24)) dX7_smear_3 (by decide) ?_
      refine j_icmp_ge X (tgt := 34) dX7_smear_5 (by decide) (fun q9 => absurd q9 (nI_ge hr (by decide))) (fun _ => ?_)
      refine j_aload_n X (i := 0) dX7_smear_8 rfl rfl ?_
      refine jFd.get X fd_X7_9 hT rfl dX7_smear_9 ?_
      refine j_iload_n X (i := 1) dX7_smear_12 rfl rfl ?_
      refine j_dup2 X dX7_smear_13 rfl rfl ?_
      refine j_iald X hA rfl hr (by decide) dX7_smear_14 ?_
      refine j_aload_n X (i := 0) dX7_smear_15 rfl rfl ?_
      refine jFd.get X fd_X7_9 hT rfl dX7_smear_16 ?_
      refine j_iload_n X (i := 1) dX7_smear_19 rfl rfl ?_
      refine j_iald X hA rfl hr (by decide) dX7_smear_20 ?_
      rw [e0]
      refine j_iconst X (v := (nI 1)) dX7_smear_21 (by decide) ?_
      refine j_ishl X dX7_smear_22 ?_
      rw [shl_N (rN_lt _) (by decide)]
      refine j_ldc X dX7_smear_23 tw_4_88 ?_
      rw [fa_lit 65535]
      refine j_iand X dX7_smear_25 ?_
      rw [nx_and, show (65535 : Nat) = 2 ^ 16 - 1 from rfl, Nat.and_two_pow_sub_one_eq_mod, show (2 ^ 16 : Nat) = 65536 from rfl, rN_shl]
      refine j_ior X dX7_smear_26 ?_
      rw [fa_or, rN_or]
      refine j_iast X hA rfl hr (by decide) dX7_smear_27 ?_
      refine j_iinc X (i := 1) (v := (nI (r + 1))) dX7_smear_28 rfl (nI_1 r) (by decide) rfl ?_
      refine j_goto X (tgt := 2) dX7_smear_31 (by decide) ?_
      have e1 : jU (jUf t a (fun k => if k < r then nI (rN (smR v.2.1 k)) else t a k)) a r (nI (rN (fun x => v.2.1 (r / 8) (16 * (r % 8) + x) || (decide (1 ≤ x) && v.2.1 (r / 8) (16 * (r % 8) + (x - 1)))))) = jUf t a (fun k => if k < r + 1 then nI (rN (smR v.2.1 k)) else t a k) := by
        rw [jU_row, jUf_eq, jUf_jUf]
        congr 1
        funext k
        unfold upd
        by_cases hk : k = r
        · subst hk
          rw [if_pos rfl, if_pos (by omega)]
          refine congrArg nI (rN_cong fun x hx => ?_)
          unfold smR smrP
          rw [show (16 * (k % 8) + x) % 16 = x by omega]
          by_cases hx1 : 1 ≤ x
          · rw [show 16 * (k % 8) + (x - 1) = 16 * (k % 8) + x - 1 by omega]
          · rw [decide_eq_false hx1]; rfl
        · rw [if_neg hk]
          show (if k < r then _ else _) = _
          by_cases h2 : k < r
          · rw [if_pos h2, if_pos (by omega)]
          · rw [if_neg h2, if_neg (by omega)]
      rw [e1]
      exact ih
  refine j_iconst X (v := (nI 0)) dX7_smear_0 (by decide) ?_
  refine j_istore_n X (i := 1) dX7_smear_1 rfl (by decide) rfl ?_
  have k0 := key 0 (Nat.zero_le _)
  rw [show (fun k => if k < 0 then nI (rN (smR v.2.1 k)) else t a k) = t a from funext fun k => if_neg (Nat.not_lt_zero k), jUf_self] at k0
  exact k0

theorem s_inkIndex {l : Launch} {g : jG} (hok : jOk g) (hst : l.stackTraces = false) {z : Option Nat} {sk : jS} {t : jT} (n : Nat) (hn : n < 2 ^ 31) : jMet l g mX9_inkIndex 1 0 0 [.int (nI n)] z sk t (jE (some (.int (nI (n / 2)))) z sk t) := by
  refine j_body (lv := [some (.int (nI n))]) i_X9_inkIndex hok hst (fun p e s m args below meth c X => ?_)
  refine j_iload_n X (i := 0) dX9_inkIndex_0 rfl rfl ?_
  refine j_iconst X (v := (nI 2)) dX9_inkIndex_1 (by decide) ?_
  refine j_idiv X dX9_inkIndex_2 (by decide) ?_
  rw [pk_div hn (by decide) (by decide)]
  exact j_iret X dX9_inkIndex_3 rfl rfl ⟨rfl, rfl, rfl, rfl⟩

theorem s_take {l : Launch} {g : jG} (hok : jOk g) (hst : l.stackTraces = false) {z : Option Nat} {sk : jS} {t : jT} {i a b : Nat} {v : TV} (hT : sk i = some (jSheet g a b)) (hA : sk a = some (kA .int 24)) (hB : sk b = some (kA .int 24)) (hV : RcS t i a b v) (hia : i ≠ a) (hib : i ≠ b) (hab : a ≠ b) {i2 r2 : Nat} {q : PV} (hT2 : sk i2 = some (jPlate g r2)) (hR2 : sk r2 = some (kA .int 8)) (hQ : RcP t i2 r2 q) (n1 : i2 ≠ i) (n2 : i2 ≠ a) (n3 : i2 ≠ b) (n4 : r2 ≠ i) (n5 : r2 ≠ a) (n6 : r2 ≠ b) (hw : v.1.1 < 2 ^ 31) (hk : q.1 / 2 < 3) (a1 : -3 ≤ q.2.1) (a2 : q.2.1 ≤ 3) (a3 : -3 ≤ q.2.2.1) (a4 : q.2.2.1 ≤ 3) : jMet l g mX7_take 3 0 0 [.ref (jb g + i), .ref (jb g + i2)] z sk t (fun v2 z2 sk2 t2 => v2 = none ∧ z = z2 ∧ sk = sk2 ∧ RcS t2 i a b (takeV v q) ∧ ∀ c, c ≠ i → c ≠ a → c ≠ b → t2 c = t c) := by
  refine j_body (lv := [some (.ref (jb g + i)), some (.ref (jb g + i2)), none, none]) i_X7_take hok hst (fun p e s m args below meth c X => ?_)
  obtain ⟨ink, dx, dy, S⟩ := q
  dsimp only at hk a1 a2 a3 a4
  obtain ⟨q1, q2, q3, q4⟩ := id hQ
  dsimp only at q1 q2 q3 q4
  have main : ∀ t1, RcS t1 i a b (if 0 < v.1.1 then smV v else v) → (∀ c, c ≠ i → c ≠ a → c ≠ b → t1 c = t c) → J p l e (jR 3 0 0) s m args below meth c (jQm below args s g 0 0 (fun v2 z2 sk2 t2 => v2 = none ∧ z = z2 ∧ sk = sk2 ∧ RcS t2 i a b (takeV v (ink, dx, dy, S)) ∧ ∀ c, c ≠ i → c ≠ a → c ≠ b → t2 c = t c)) 4 g 0 0 z sk  t1 11 [some (.ref (jb g + i)), some (.ref (jb g + i2)), none, none] [] := by
    intro t1 hV1 hfr1
    obtain ⟨u, hu⟩ : ∃ u, u = (if 0 < v.1.1 then smV v else v) := ⟨_, rfl⟩
    rw [← hu] at hV1
    obtain ⟨v1, v2, v3, v4, v5⟩ := hV1
    have loop : ∀ Y : Nat, Y ≤ 8 → ∀ tY, tY i = t1 i → (∀ c, c ≠ i → c ≠ a → c ≠ b → tY c = t c) → Rows3 (tY a) (fun j k => u.2.1 j k || (decide (j = ink / 2) && (decide (((k / 16 : Nat) : Int) - dy < Y) && hitB S dx dy k))) → Rows3 (tY b) (fun j k => u.2.2 j k || (decide (j = ink / 2) && (decide (k / 16 < Y) && S k))) → J p l e (jR 3 0 0) s m args below meth c (jQm below args s g 0 0 (fun v2 z2 sk2 t2 => v2 = none ∧ z = z2 ∧ sk = sk2 ∧ RcS t2 i a b (takeV v (ink, dx, dy, S)) ∧ ∀ c, c ≠ i → c ≠ a → c ≠ b → t2 c = t c)) 4 g 0 0 z sk  tY 24 [some (.ref (jb g + i)), some (.ref (jb g + i2)), some (.int (nI (ink / 2 * 8))), some (.int (nI Y))] [] := by
      refine up_loop ?_ ?_
      · intro tY ei ef ep em
        have eR : Rows (tY r2) S := by rw [ef r2 n4 n5 n6]; exact q4
        refine j_iload_n X (i := 3) dX7_take_24 rfl rfl ?_
        refine j_bipush X (v := (nI 8)) dX7_take_25 (by decide) ?_
        refine j_icmp_ge X (tgt := 91) dX7_take_27 (by decide) (fun _ => ?_) (fun q9 => absurd (nI_le (Nat.le_refl _) (by decide)) q9)
        refine j_aload_n X (i := 0) dX7_take_91 rfl rfl ?_
        refine j_aload_n X (i := 1) dX7_take_92 rfl rfl ?_
        refine j_callV X (s_countStars hok hst hT2 hR2 eR) i_X5_countStars tw_4_92 tw_3_151 tw_3_152 hT2 rfl dX7_take_93 ?_ 
        refine j_iconst X (v := (nI 4)) dX7_take_96 (by decide) ?_
        refine j_iadd X dX7_take_97 ?_
        rw [nI_add]
        refine j_iconst X (v := (nI 1)) dX7_take_98 (by decide) ?_
        refine j_isub X dX7_take_99 ?_
        rw [pk_sub (by omega)]
        refine j_iconst X (v := (nI 4)) dX7_take_100 (by decide) ?_
        have hcl : cntB S ≤ 128 := fb_ct_le _ _
        refine j_idiv X dX7_take_101 (by decide) ?_
        rw [pk_div (by omega) (by decide) (by decide), show (cntB S + 4 - 1) = cntB S + 3 by omega]
        refine jFd.put X fd_X7_18 hT rfl rfl rfl rfl dX7_take_102 ?_
        refine j_vret X dX7_take_105 rfl ⟨rfl, rfl, rfl, ?_, ?_⟩
        · unfold takeV
          rw [← hu]
          refine ⟨?_, ?_, ?_, ?_, ?_⟩
          · rw [jU_eq]; rfl
          · rw [jU_eq, ei]; exact v2
          · rw [jU_eq, ei]; exact v3
          · rw [jU_ne _ _ _ (Ne.symm hia)]
            refine ep.same fun j hj k hk => ?_
            have : hitB S dx dy k = (decide (((k / 16 : Nat) : Int) - dy < (8 : Nat)) && hitB S dx dy k) := by
              unfold hitB onB
              by_cases z : ((k / 16 : Nat) : Int) - dy < (8 : Nat)
              · rw [decide_eq_true z]; rfl
              · rw [decide_eq_false z, decide_eq_false (fun z2 => z (by have := z2.2.2.2; omega))]; rfl
            rw [← this]
          · rw [jU_ne _ _ _ (Ne.symm hib)]
            refine em.same fun j hj k hk => ?_
            rw [decide_eq_true (show k / 16 < 8 by omega), Bool.true_and]
        · intro c h1 h2 h3
          rw [jU_ne _ _ _ h1]
          exact ef c h1 h2 h3
      · intro Y hY ih tY ei ef ep em
        have eR : Rows (tY r2) S := by rw [ef r2 n4 n5 n6]; exact q4
        have eI : tY i2 = t i2 := ef i2 n1 n2 n3
        refine j_iload_n X (i := 3) dX7_take_24 rfl rfl ?_
        refine j_bipush X (v := (nI 8)) dX7_take_25 (by decide) ?_
        refine j_icmp_ge X (tgt := 91) dX7_take_27 (by decide) (fun q9 => absurd q9 (nI_ge hY (by decide))) (fun _ => ?_)
        refine j_aload_n X (i := 0) dX7_take_30 rfl rfl ?_
        refine jFd.get X fd_X7_15 hT rfl dX7_take_31 ?_
        refine j_iload_n X (i := 2) dX7_take_34 rfl rfl ?_
        refine j_iload_n X (i := 3) dX7_take_35 rfl rfl ?_
        refine j_iadd X dX7_take_36 ?_
        rw [nI_add, show ink / 2 * 8 + Y = 8 * (ink / 2) + Y by omega]
        refine j_dup2 X dX7_take_37 rfl rfl ?_
        refine j_iald X hB rfl (by omega) (by decide) dX7_take_38 ?_
        refine j_aload_n X (i := 1) dX7_take_39 rfl rfl ?_
        refine jFd.get X fd_X7_66 hT2 rfl dX7_take_40 ?_
        refine j_iload_n X (i := 3) dX7_take_43 rfl rfl ?_
        refine j_iald X hR2 rfl hY (by decide) dX7_take_44 ?_
        rw [em (ink / 2) hk Y hY, eR Y hY]
        refine j_ior X dX7_take_45 ?_
        rw [fa_or, rN_or]
        refine j_iast X hB rfl (by omega) (by decide) dX7_take_46 ?_
        have em2 : Rows3 (jU tY b (8 * (ink / 2) + Y) (nI (rN (fun x => (u.2.2 (ink / 2) (16 * Y + x) || (decide (ink / 2 = ink / 2) && (decide ((16 * Y + x) / 16 < Y) && S (16 * Y + x)))) || S (16 * Y + x)))) b) (fun j k => u.2.2 j k || (decide (j = ink / 2) && (decide (k / 16 < Y + 1) && S k))) := by
          rw [jU_eq]
          refine em.put hY (fun x hx => ?_) (fun j hj y hy hne x hx => ?_)
          · rw [show (16 * Y + x) / 16 = Y by omega, decide_eq_true (show Y < Y + 1 by omega), decide_eq_false (Nat.lt_irrefl Y), decide_eq_true (rfl : ink / 2 = ink / 2)]
            simp
          · rw [show (16 * y + x) / 16 = y by omega]
            by_cases hj2 : j = ink / 2
            · have : y ≠ Y := by rcases hne with h | h; exact absurd hj2 h; exact h
              rw [show decide (y < Y + 1) = decide (y < Y) from decide_eq_decide.mpr (by omega)]
            · rw [decide_eq_false hj2]; rfl
        have ei2 := jU_ne tY (8 * (ink / 2) + Y) (nI (rN (fun x => (u.2.2 (ink / 2) (16 * Y + x) || (decide (ink / 2 = ink / 2) && (decide ((16 * Y + x) / 16 < Y) && S (16 * Y + x)))) || S (16 * Y + x)))) (show i ≠ b from hib)
        have eo2 : ∀ c, c ≠ b → jU tY b (8 * (ink / 2) + Y) (nI (rN (fun x => (u.2.2 (ink / 2) (16 * Y + x) || (decide (ink / 2 = ink / 2) && (decide ((16 * Y + x) / 16 < Y) && S (16 * Y + x)))) || S (16 * Y + x)))) c = tY c := fun c hc => jU_ne _ _ _ hc
        generalize jU tY b (8 * (ink / 2) + Y) (nI (rN (fun x => (u.2.2 (ink / 2) (16 * Y + x) || (decide (ink / 2 = ink / 2) && (decide ((16 * Y + x) / 16 < Y) && S (16 * Y + x)))) || S (16 * Y + x)))) = tZ at em2 ei2 eo2 ⊢
        have eI2 : tZ i2 = t i2 := by rw [eo2 i2 n3]; exact eI
        have eR2 : Rows (tZ r2) S := by rw [eo2 r2 n6]; exact eR
        have ep2 : Rows3 (tZ a) (fun j k => u.2.1 j k || (decide (j = ink / 2) && (decide (((k / 16 : Nat) : Int) - dy < Y) && hitB S dx dy k))) := by rw [eo2 a hab]; exact ep
        have ef2 : ∀ c, c ≠ i → c ≠ a → c ≠ b → tZ c = t c := fun c h1 h2 h3 => (eo2 c h3).trans (ef c h1 h2 h3)
        have hkd : nI Y + iN dy = iN ((Y : Int) + dy) := by rw [← iN_nI, iN_add]
        have hp : isPl (nI 0) (nI Y + iN dy) = decide (0 ≤ (Y : Int) + dy ∧ (Y : Int) + dy < 8) := by
          rw [hkd]
          unfold isPl
          rw [iN_toInt (by omega) (by omega), nI_0]
          congr 1
          simp
        refine j_iconst X (v := (nI 0)) dX7_take_47 (by decide) ?_
        refine j_iload_n X (i := 3) dX7_take_48 rfl rfl ?_
        refine j_aload_n X (i := 1) dX7_take_49 rfl rfl ?_
        refine jFd.get X fd_X7_69 hT2 rfl dX7_take_50 ?_
        rw [eI2, q3]
        refine j_iadd X dX7_take_53 ?_
        refine j_callSN X (s_isPlace hok hst _ _) i_X9_isPlace tw_4_90 tw_2_68 dX7_take_54 ?_ 
        rw [hp]
        by_cases hq : 0 ≤ (Y : Int) + dy ∧ (Y : Int) + dy < 8
        · rw [decide_eq_true hq]
          refine j_if_eq X (tgt := 85) dX7_take_57 (by decide) (fun q9 => absurd q9 (by decide)) (fun _ => ?_)
          obtain ⟨d, hd⟩ : ∃ d : Nat, (Y : Int) + dy = d := ⟨((Y : Int) + dy).toNat, by omega⟩
          refine j_aload_n X (i := 0) dX7_take_60 rfl rfl ?_
          refine jFd.get X fd_X7_9 hT rfl dX7_take_61 ?_
          refine j_iload_n X (i := 2) dX7_take_64 rfl rfl ?_
          refine j_iload_n X (i := 3) dX7_take_65 rfl rfl ?_
          refine j_iadd X dX7_take_66 ?_
          rw [nI_add]
          refine j_aload_n X (i := 1) dX7_take_67 rfl rfl ?_
          refine jFd.get X fd_X7_69 hT2 rfl dX7_take_68 ?_
          rw [eI2, q3]
          refine j_iadd X dX7_take_71 ?_
          rw [← iN_nI (ink / 2 * 8 + Y), iN_add, show ((ink / 2 * 8 + Y : Nat) : Int) + dy = ((8 * (ink / 2) + d : Nat) : Int) by omega, iN_nI]
          refine j_dup2 X dX7_take_72 rfl rfl ?_
          refine j_iald X hA rfl (by omega) (by decide) dX7_take_73 ?_
          refine j_aload_n X (i := 1) dX7_take_74 rfl rfl ?_
          refine j_iload_n X (i := 3) dX7_take_75 rfl rfl ?_
          refine j_aload_n X (i := 1) dX7_take_76 rfl rfl ?_
          refine jFd.get X fd_X7_76 hT2 rfl dX7_take_77 ?_
          rw [eI2, q2, ep2 (ink / 2) hk d (by omega)]
          refine j_callV X (s_movedRow hok hst hT2 hR2 eR2 hY a1 a2) i_X5_movedRow tw_4_91 tw_2_71 tw_2_72 hT2 rfl dX7_take_80 ?_ 
          refine j_ior X dX7_take_83 ?_
          rw [fa_or, rN_or]
          refine j_iast X hA rfl (by omega) (by decide) dX7_take_84 ?_
          refine j_iinc X (i := 3) (v := (nI (Y + 1))) dX7_take_85 rfl (nI_1 Y) (by decide) rfl ?_
          refine j_goto X (tgt := 24) dX7_take_88 (by decide) ?_
          refine ih _ ?_ ?_ ?_ ?_
          · rw [jU_ne _ _ _ hia, ei2]; exact ei
          · intro c h1 h2 h3
            rw [jU_ne _ _ _ h2]; exact ef2 c h1 h2 h3
          · rw [jU_eq]
            refine ep2.put (by omega) (fun x hx => ?_) (fun j hj y hy hne x hx => ?_)
            · have f1 : (16 * d + x) / 16 = d := by omega
              have f2 : (16 * d + x) % 16 = x := by omega
              dsimp only
              rw [f1, decide_eq_true (rfl : ink / 2 = ink / 2), decide_eq_true (show (d : Int) - dy < ((Y + 1 : Nat) : Int) by omega), decide_eq_false (show ¬ (d : Int) - dy < (Y : Int) by omega)]
              have f3 : hitB S dx dy (16 * d + x) = mrB (fun x => S (16 * Y + x)) dx x := by
                unfold hitB onB mvB mrB
                rw [f1, f2]
                by_cases z : 0 ≤ (x : Int) - dx ∧ (x : Int) - dx < 16
                · rw [decide_eq_true z, decide_eq_true (show 0 ≤ (x : Int) + -dx ∧ (x : Int) + -dx < 16 ∧ 0 ≤ (d : Int) + -dy ∧ (d : Int) + -dy < 8 by omega), show ((d : Int) + -dy).toNat = Y by omega, show (x : Int) + -dx = (x : Int) - dx by omega]
                · rw [decide_eq_false z, decide_eq_false (show ¬ (0 ≤ (x : Int) + -dx ∧ (x : Int) + -dx < 16 ∧ 0 ≤ (d : Int) + -dy ∧ (d : Int) + -dy < 8) by omega)]; rfl
              rw [f3]
              simp
            · have f1 : (16 * y + x) / 16 = y := by omega
              rw [f1]
              by_cases hj2 : j = ink / 2
              · have : y ≠ d := by rcases hne with h | h; exact absurd hj2 h; exact h
                rw [show decide ((y : Int) - dy < ((Y + 1 : Nat) : Int)) = decide ((y : Int) - dy < (Y : Int)) from decide_eq_decide.mpr (by omega)]
              · rw [decide_eq_false hj2]; rfl
          · rw [jU_ne _ _ _ (Ne.symm hab)]; exact em2
        · rw [decide_eq_false hq]
          refine j_if_eq X (tgt := 85) dX7_take_57 (by decide) (fun _ => ?_) (fun q9 => absurd (rfl) q9)
          refine j_iinc X (i := 3) (v := (nI (Y + 1))) dX7_take_85 rfl (nI_1 Y) (by decide) rfl ?_
          refine j_goto X (tgt := 24) dX7_take_88 (by decide) ?_
          refine ih _ (ei2.trans ei) ef2 ?_ em2
          refine ep2.same fun j hj k hk => ?_
          by_cases z : ((k / 16 : Nat) : Int) - dy = Y
          · have : hitB S dx dy k = false := by
              unfold hitB onB
              rw [decide_eq_false (fun z2 => hq (by omega))]; rfl
            rw [this]
            simp
          · rw [show decide (((k / 16 : Nat) : Int) - dy < ((Y + 1 : Nat) : Int)) = decide (((k / 16 : Nat) : Int) - dy < (Y : Int)) from decide_eq_decide.mpr (by omega)]
    refine j_aload_n X (i := 1) dX7_take_11 rfl rfl ?_
    refine jFd.get X fd_X7_58 hT2 rfl dX7_take_12 ?_
    rw [hfr1 i2 n1 n2 n3, q1]
    refine j_callSN X (s_inkIndex hok hst ink (by omega)) i_X9_inkIndex tw_4_89 tw_4_78 dX7_take_15 ?_ 
    refine j_bipush X (v := (nI 8)) dX7_take_18 (by decide) ?_
    refine j_imul X dX7_take_20 ?_
    rw [pk_mul]
    refine j_istore_n X (i := 2) dX7_take_21 rfl (by decide) rfl ?_
    refine j_iconst X (v := (nI 0)) dX7_take_22 (by decide) ?_
    refine j_istore_n X (i := 3) dX7_take_23 rfl (by decide) rfl ?_
    refine loop 0 (Nat.zero_le _) t1 rfl hfr1 (v4.same fun j hj k hk => ?_) (v5.same fun j hj k hk => ?_)
    · have : (decide (((k / 16 : Nat) : Int) - dy < (0 : Nat)) && hitB S dx dy k) = false := by
        unfold hitB onB
        by_cases z : ((k / 16 : Nat) : Int) - dy < (0 : Nat)
        · rw [decide_eq_false (show ¬ (0 ≤ ((k % 16 : Nat) : Int) + -dx ∧ ((k % 16 : Nat) : Int) + -dx < 16 ∧ 0 ≤ ((k / 16 : Nat) : Int) + -dy ∧ ((k / 16 : Nat) : Int) + -dy < 8) by omega)]
          simp
        · rw [decide_eq_false z]; rfl
      rw [this, Bool.and_false, Bool.or_false]
    · rw [decide_eq_false (Nat.not_lt_zero _)]; simp
  refine j_aload_n X (i := 0) dX7_take_0 rfl rfl ?_
  refine j_callV X (s_isWet hok hst hT hV.1 hw) i_X7_isWet tw_2_151 tw_2_152 tw_2_153 hT rfl dX7_take_1 ?_ 
  by_cases hwet : 0 < v.1.1
  · rw [if_pos hwet] at main
    rw [decide_eq_true hwet]
    refine j_if_eq X (tgt := 11) dX7_take_4 (by decide) (fun q9 => absurd q9 (by decide)) (fun _ => ?_)
    refine j_aload_n X (i := 0) dX7_take_7 rfl rfl ?_
    refine j_callV_p X (s_smear hok hst hT hA hB hV hia hib hab) i_X7_smear tw_4_84 tw_4_86 tp_8 hT rfl dX7_take_8 (fun v2 z2 sk2 t2 h => ?_)
    obtain ⟨rfl, rfl, rfl, hV2, hf2⟩ := h
    exact main t2 hV2 hf2
  · rw [if_neg hwet] at main
    rw [decide_eq_false hwet]
    refine j_if_eq X (tgt := 11) dX7_take_4 (by decide) (fun _ => ?_) (fun q9 => absurd (rfl) q9)
    exact main t hV (fun c _ _ _ => rfl)

