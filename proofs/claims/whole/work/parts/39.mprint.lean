theorem mv_bk {c : Nat} {a b : Int} (hc : c < 128) (h : onB c a b = true) : onB (mvB c a b) (-a) (-b) = true ∧ mvB (mvB c a b) (-a) (-b) = c ∧ mvB c a b < 128 := by
  obtain ⟨h1, h2, h3, h4⟩ : 0 ≤ ((c % 16 : Nat) : Int) + a ∧ ((c % 16 : Nat) : Int) + a < 16 ∧ 0 ≤ ((c / 16 : Nat) : Int) + b ∧ ((c / 16 : Nat) : Int) + b < 8 := of_decide_eq_true h
  obtain ⟨x, hx⟩ : ∃ x : Nat, ((c % 16 : Nat) : Int) + a = x := ⟨(((c % 16 : Nat) : Int) + a).toNat, by omega⟩
  obtain ⟨y, hy⟩ : ∃ y : Nat, ((c / 16 : Nat) : Int) + b = y := ⟨(((c / 16 : Nat) : Int) + b).toNat, by omega⟩
  have e : mvB c a b = 16 * y + x := by unfold mvB; rw [hx, hy]; rfl
  have e1 : (16 * y + x) % 16 = x := by omega
  have e2 : (16 * y + x) / 16 = y := by omega
  rw [e]
  refine ⟨?_, ?_, by omega⟩
  · unfold onB
    rw [e1, e2]
    exact decide_eq_true (by omega)
  · unfold mvB
    rw [e1, e2]
    omega
/-- a moved star of the first k places -/
def hitK (S : Nat → Bool) (dx dy : Int) (K c : Nat) : Bool := onB c (-dx) (-dy) && (decide (mvB c (-dx) (-dy) < K) && S (mvB c (-dx) (-dy)))
theorem hitK_0 (S : Nat → Bool) (dx dy : Int) (c : Nat) : hitK S dx dy 0 c = false := by
  unfold hitK
  rw [decide_eq_false (Nat.not_lt_zero _), Bool.false_and, Bool.and_false]
theorem hitK_end (S : Nat → Bool) (dx dy : Int) {c : Nat} (hc : c < 128) : hitK S dx dy 128 c = hitB S dx dy c := by
  unfold hitK hitB
  cases h : onB c (-dx) (-dy) with
  | false => rfl
  | true => rw [decide_eq_true (mv_bk hc h).2.2, Bool.true_and]
theorem hitK_no {S : Nat → Bool} {dx dy : Int} {K : Nat} (h : (S K && onB K dx dy) = false) {c : Nat} (hc : c < 128) : hitK S dx dy (K + 1) c = hitK S dx dy K c := by
  unfold hitK
  cases ho : onB c (-dx) (-dy) with
  | false => rfl
  | true =>
    obtain ⟨b1, b2, b3⟩ := mv_bk hc ho
    rw [Int.neg_neg, Int.neg_neg] at b1
    by_cases e : mvB c (-dx) (-dy) = K
    · rw [e] at b1 ⊢
      rw [b1, Bool.and_true] at h
      rw [h]
      simp
    · rw [show decide (mvB c (-dx) (-dy) < K + 1) = decide (mvB c (-dx) (-dy) < K) from decide_eq_decide.mpr (by omega)]
theorem hitK_yes {S : Nat → Bool} {dx dy : Int} {K : Nat} (hK : K < 128) (hS : S K = true) (hO : onB K dx dy = true) {c : Nat} (hc : c < 128) : hitK S dx dy (K + 1) c = (hitK S dx dy K c || decide (c = mvB K dx dy)) := by
  obtain ⟨a1, a2, a3⟩ := mv_bk hK hO
  unfold hitK
  by_cases e : c = mvB K dx dy
  · rw [decide_eq_true e, Bool.or_true, e, a1, a2, hS, decide_eq_true (Nat.lt_succ_self K)]
    rfl
  · rw [decide_eq_false e, Bool.or_false]
    cases ho : onB c (-dx) (-dy) with
    | false => rfl
    | true =>
      obtain ⟨b1, b2, b3⟩ := mv_bk hc ho
      rw [Int.neg_neg, Int.neg_neg] at b2
      have hne : mvB c (-dx) (-dy) ≠ K := fun q => e (by rw [← q, b2])
      rw [show decide (mvB c (-dx) (-dy) < K + 1) = decide (mvB c (-dx) (-dy) < K) from decide_eq_decide.mpr (by omega)]
theorem Wd.cut {f f2 : Nat → Int32} {o : Nat} {S : Nat → Bool} (h : Wd f o S) (e : ∀ w, w < 4 → f2 (o + w) = f (o + w)) : Wd f2 o S := h.cong e
/-- what the model's print has done after k places -/
def PrI (t3 tk : jT) (M sx px i2 : Nat) (u : TV) (S : Nat → Bool) (dx dy : Int) (k : Nat) : Prop := (∀ c, c ≠ M + 1 → tk c = t3 c) ∧ (∀ q, (q < 51 + 27 * sx + 3 + 4 * i2 ∨ 51 + 27 * sx + 3 + 4 * i2 + 4 ≤ q) → (q < 51 + 27 * sx + 15 + 4 * i2 ∨ 51 + 27 * sx + 15 + 4 * i2 + 4 ≤ q) → tk (M + 1) q = t3 (M + 1) q) ∧ Wd (tk (M + 1)) (51 + 27 * sx + 3 + 4 * i2) (fun c => u.2.1 i2 c || hitK S dx dy k c) ∧ Wd (tk (M + 1)) (51 + 27 * sx + 15 + 4 * i2) (fun c => u.2.2 i2 c || (decide (c < k) && S c))
theorem m_print {l : Launch} {g : jG} (hok : jOk g) (hst : l.stackTraces = false) {z : Option Nat} {sk : jS} {t : jT} {M : Nat} (hM : isMod g sk M) {w : WB} {G : GS} (hG : RmG t M w G) (hK : okG G) (q o : Int32) : jMet l g mX10_print 4 0 0 [.ref (jb g + M), .int q, .int o] z sk t (mP M w (a_print w.1 G q o) z sk t) := by
  refine j_body (lv := [some (.ref (jb g + M)), some (.int q), some (.int o), none, none, none, none, none, none, none]) i_X10_print hok hst (fun p e s m args below meth c X => ?_)
  obtain ⟨M0, M1, M2, M3, M4, M5, M6, M7⟩ := id hM
  obtain ⟨r1, r2, r3, r4, r5, r6, r7, r8, r9, r10, r11⟩ := id hG
  obtain ⟨u1, u2, u3, u4, u5, u6, u7⟩ := id r1
  obtain ⟨k1, k2, k3, k4, k5, k6, k7, k8⟩ := id hK.1
  have no : (pIx (np (gV G)) q && pIx (ns (gV G)) o) = false → J p l e (jR 4 0 0) s m args below meth c (jQm below args s g 0 0 (mP M w (a_print w.1 G q o) z sk t)) 10 g 0 0 z sk t 21 [some (.ref (jb g + M)), some (.int q), some (.int o), none, none, none, none, none, none, none] [.ref (jb g + M)] := fun hn => by
    have hn2 : pIx (np (gV G)) q = false ∨ pIx (ns (gV G)) o = false := by
      cases hq : pIx (np (gV G)) q with
      | false => exact Or.inl rfl
      | true => rw [hq] at hn; exact Or.inr hn
    refine j_iconst X (v := (nI 1)) dX10_print_21 (by decide) ?_
    refine j_callV X (m_fails hok hst hM (n := 1) (by decide)) i_X10_fails tw_6_135 tw_6_137 tp_25 M0 rfl dX10_print_22 ?_ 
    refine j_if_eq X (tgt := 30) dX10_print_25 (by decide) (fun q9 => absurd q9 (by decide)) (fun _ => ?_)
    refine j_iconst X (v := (nI 0)) dX10_print_28 (by decide) ?_
    exact j_iret X dX10_print_29 rfl rfl (mP_no hG (by rw [a_print, show vPrint (gV G) (gR G) q o = (-1, gV G, gR G) by unfold vPrint; rw [if_pos hn2], ch_noR (by decide)]; rfl))
  refine j_aload_n X (i := 0) dX10_print_0 rfl rfl ?_
  refine j_aload_n X (i := 0) dX10_print_1 rfl rfl ?_
  refine j_iload_n X (i := 1) dX10_print_2 rfl rfl ?_
  refine j_callV X (m_isPlate hok hst hM u1 (by omega) q) i_X10_isPlate tw_6_150 tw_6_152 tp_27 M0 rfl dX10_print_3 ?_ 
  cases hq : pIx (np (gV G)) q with
  | false =>
    refine j_if_eq X (tgt := 21) dX10_print_6 (by decide) (fun _ => ?_) (fun q9 => absurd (rfl) q9)
    exact no (by rw [hq]; rfl)
  | true =>
    refine j_if_eq X (tgt := 21) dX10_print_6 (by decide) (fun q9 => absurd q9 (by decide)) (fun _ => ?_)
    refine j_aload_n X (i := 0) dX10_print_9 rfl rfl ?_
    refine j_iload_n X (i := 2) dX10_print_10 rfl rfl ?_
    refine j_callV X (m_isSheet hok hst hM u2 (by omega) o) i_X10_isSheet tw_7_41 tw_7_43 tp_40 M0 rfl dX10_print_11 ?_ 
    cases ho : pIx (ns (gV G)) o with
    | false =>
      refine j_if_eq X (tgt := 21) dX10_print_14 (by decide) (fun _ => ?_) (fun q9 => absurd (rfl) q9)
      exact no (by rw [hq, ho]; rfl)
    | true =>
      clear no
      have hneg : ¬ (pIx (np (gV G)) q = false ∨ pIx (ns (gV G)) o = false) := by rw [hq, ho]; decide
      obtain ⟨k, hk1, rfl, hkn⟩ := pIx_of (by omega) hq
      obtain ⟨j, hj1, rfl, hjn⟩ := pIx_of (by omega) ho
      have hk6 : k < 6 := by omega
      have hj8 : j < 8 := by omega
      have oP := k3 k hk6
      have oS := k4 j hj8
      have hi3 : (pl (gV G) k).1 / 2 < 3 := oP.bd.1
      obtain ⟨i1, i2⟩ := iN_neg1 oS.2.1 oS.2.2
      have ev0 : vPrint (gV G) (gR G) (nI k) (nI j) = if 0 ≤ (sh (gV G) j).1.2.2 then (-5, gV G, some (1, (sh (gV G) j).1.2.2.toNat)) else
          if dr (gV G) ((pl (gV G) k).1 / 2) < cntB (pl (gV G) k).2.2.2 then (-5, gV G, some (2, cntB (pl (gV G) k).2.2.2 - dr (gV G) ((pl (gV G) k).1 / 2))) else
          ((besB (pl (gV G) k).2.2.2 (pl (gV G) k).2.1 (pl (gV G) k).2.2.1 : Int), upD (upS (gV G) j (takeV (sh (gV G) j) (pl (gV G) k))) ((pl (gV G) k).1 / 2) (dr (gV G) ((pl (gV G) k).1 / 2) - cntB (pl (gV G) k).2.2.2), gR G) := by
        unfold vPrint
        rw [if_neg hneg, pAt_nI hkn, sAt_nI hjn, hjn]
      refine j_if_eq X (tgt := 21) dX10_print_14 (by decide) (fun q9 => absurd q9 (by decide)) (fun _ => ?_)
      refine j_iconst X (v := (nI 0)) dX10_print_17 (by decide) ?_
      refine j_goto X (tgt := 22) dX10_print_18 (by decide) ?_
      refine j_callV X (m_fails hok hst hM (n := 0) (by decide)) i_X10_fails tw_6_135 tw_6_137 tp_25 M0 rfl dX10_print_22 ?_ 
      refine j_if_eq X (tgt := 30) dX10_print_25 (by decide) (fun _ => ?_) (fun q9 => absurd (rfl) q9)
      have hG1 := hG.jcode (nI 0)
      have c1 : jU t M 7 (nI 0) M 7 = nI 0 := by rw [jU_eq]; rfl
      have f1 : ∀ c, (c < M ∨ M + 8 ≤ c ∨ c = M + 4 ∨ c = M + 7) → jU t M 7 (nI 0) c = t c := fun c hc => jU_ne _ _ _ (by omega)
      generalize jU t M 7 (nI 0) = t1 at hG1 c1 f1 ⊢
      obtain ⟨w1, w2, w3, w4, w5, w6, w7⟩ := id hG1.1
      obtain ⟨p1, p2, p3, p4⟩ := id (w6 k hk1)
      obtain ⟨s1, s2, s3, s4, s5⟩ := id (w7 j hj1)
      have hik : isIk (nI (pl (gV G) k).1) = true := decide_eq_true (by rcases oP.1 with e | e | e <;> rw [e] <;> decide)
      have hwh : whI (nI (pl (gV G) k).1) = (((pl (gV G) k).1 / 2 : Nat) : Int) := by
        unfold whI
        rw [if_pos hik, nI_toInt (Nat.lt_trans oP.bd.2 (by decide))]
        rfl
      have hcl := cntB_le (pl (gV G) k).2.2.2
      have hdr := k5 _ hi3
      refine j_aload_n X (i := 0) dX10_print_30 rfl rfl ?_
      refine j_iload_n X (i := 1) dX10_print_31 rfl rfl ?_
      refine j_callV X (m_starred hok hst hM hk6 p4) i_X10_starred tw_6_168 tw_6_170 tp_30 M0 rfl dX10_print_32 ?_ 
      refine j_istore_n X (i := 3) dX10_print_35 rfl (by decide) rfl ?_
      refine j_aload_n X (i := 0) dX10_print_36 rfl rfl ?_
      refine j_iload_n X (i := 1) dX10_print_37 rfl rfl ?_
      refine j_iconst X (v := (nI 0)) dX10_print_38 (by decide) ?_
      refine j_callV X (m_of hok hst (k := k) (w := 0) hM (by omega)) i_X10_of tw_6_198 tw_6_200 tp_34 M0 rfl dX10_print_39 ?_ 
      rw [show t1 (M + 1) (9 + 7 * k + 0) = nI (pl (gV G) k).1 from p1]
      refine j_callS X (m_which hok hst _) i_X10_which tw_6_132 tw_6_133 dX10_print_42 ?_ 
      rw [hwh, iN_nI]
      refine j_istore X (i := 4) dX10_print_45 (by decide) rfl ?_
      refine j_aload_n X (i := 0) dX10_print_47 rfl rfl ?_
      refine j_iload_n X (i := 2) dX10_print_48 rfl rfl ?_
      refine j_iconst X (v := (nI 2)) dX10_print_49 (by decide) ?_
      refine j_callV X (m_on hok hst (k := j) (w := 2) hM (by omega)) i_X10_on tw_7_45 tw_7_47 tp_41 M0 rfl dX10_print_50 ?_ 
      rw [show t1 (M + 1) (51 + 27 * j + 2) = _ from s3]
      by_cases h0 : 0 ≤ (sh (gV G) j).1.2.2
      · rw [if_pos h0] at ev0
        refine j_if_lt X (tgt := 69) dX10_print_53 (by decide) (fun q9 => absurd q9 ((fun z9 => by have := i2.mp z9; omega))) (fun _ => ?_)
        refine j_aload_n X (i := 0) dX10_print_56 rfl rfl ?_
        refine j_iconst X (v := (nI 2)) dX10_print_57 (by decide) ?_
        refine j_iconst X (v := (nI 1)) dX10_print_58 (by decide) ?_
        refine j_aload_n X (i := 0) dX10_print_59 rfl rfl ?_
        refine j_iload_n X (i := 2) dX10_print_60 rfl rfl ?_
        refine j_iconst X (v := (nI 2)) dX10_print_61 (by decide) ?_
        refine j_callV X (m_on hok hst (k := j) (w := 2) hM (by omega)) i_X10_on tw_7_45 tw_7_47 tp_41 M0 rfl dX10_print_62 ?_ 
        rw [show t1 (M + 1) (51 + 27 * j + 2) = nI (sh (gV G) j).1.2.2.toNat by rw [← iN_nI, Int.toNat_of_nonneg h0]; exact s3]
        refine j_callV X (m_refuses hok hst hM _ _ _) i_X10_refuses tw_7_49 tw_7_51 tp_42 M0 rfl dX10_print_65 ?_ 
        exact j_iret X dX10_print_68 rfl rfl (mP_mk (by rw [a_print, ev0, ch_ref (by decide)]; rfl) (ref_7 _ _ _ _ _) (hG1.ref _ (by decide) (by decide)) (fun c hc => (ref_o _ _ _ _ _ (by omega)).trans (f1 c hc)))
      · rw [if_neg h0] at ev0
        refine j_if_lt X (tgt := 69) dX10_print_53 (by decide) (fun _ => ?_) (fun q9 => absurd (i2.mpr (by omega)) q9)
        refine j_aload_n X (i := 0) dX10_print_69 rfl rfl ?_
        refine jFd.get X fd_X10_7 M0 rfl dX10_print_70 ?_
        refine j_iconst X (v := (nI 3)) dX10_print_73 (by decide) ?_
        refine j_iload X (i := 4) dX10_print_74 rfl ?_
        refine j_iadd X dX10_print_76 ?_
        rw [nI_add]
        refine j_iald X M1 rfl (by omega) (by decide) dX10_print_77 ?_
        rw [w4 _ hi3]
        refine j_iload_n X (i := 3) dX10_print_78 rfl rfl ?_
        by_cases hd : dr (gV G) ((pl (gV G) k).1 / 2) < cntB (pl (gV G) k).2.2.2
        · rw [if_pos hd] at ev0
          refine j_icmp_ge X (tgt := 100) dX10_print_79 (by decide) (fun q9 => absurd q9 (nI_ge hd (by omega))) (fun _ => ?_)
          refine j_aload_n X (i := 0) dX10_print_82 rfl rfl ?_
          refine j_iconst X (v := (nI 2)) dX10_print_83 (by decide) ?_
          refine j_iconst X (v := (nI 2)) dX10_print_84 (by decide) ?_
          refine j_iload_n X (i := 3) dX10_print_85 rfl rfl ?_
          refine j_aload_n X (i := 0) dX10_print_86 rfl rfl ?_
          refine jFd.get X fd_X10_7 M0 rfl dX10_print_87 ?_
          refine j_iconst X (v := (nI 3)) dX10_print_90 (by decide) ?_
          refine j_iload X (i := 4) dX10_print_91 rfl ?_
          refine j_iadd X dX10_print_93 ?_
          rw [nI_add]
          refine j_iald X M1 rfl (by omega) (by decide) dX10_print_94 ?_
          rw [w4 _ hi3]
          refine j_isub X dX10_print_95 ?_
          rw [pk_sub (Nat.le_of_lt hd)]
          refine j_callV X (m_refuses hok hst hM _ _ _) i_X10_refuses tw_7_49 tw_7_51 tp_42 M0 rfl dX10_print_96 ?_ 
          exact j_iret X dX10_print_99 rfl rfl (mP_mk (by rw [a_print, ev0, ch_ref (by decide)]; rfl) (ref_7 _ _ _ _ _) (hG1.ref _ (by decide) (by decide)) (fun c hc => (ref_o _ _ _ _ _ (by omega)).trans (f1 c hc)))
        · rw [if_neg hd] at ev0
          have hd := Nat.le_of_not_lt hd
          refine j_icmp_ge X (tgt := 100) dX10_print_79 (by decide) (fun _ => ?_) (fun q9 => absurd (nI_le hd (by omega)) q9)
          refine j_aload_n X (i := 0) dX10_print_100 rfl rfl ?_
          refine j_aload_n X (i := 0) dX10_print_101 rfl rfl ?_
          refine jFd.get X fd_X10_7 M0 rfl dX10_print_102 ?_
          refine j_callV_p X (m_keepG hok hst hM hG1 hK) i_X10_keeps tw_6_139 tw_6_141 tp_26 M0 rfl dX10_print_105 (fun v2 z2 sk2 t2 hp => ?_) 
          obtain ⟨rfl, rfl, rfl, hG2, c2, f2a⟩ := hp
          have f2 : ∀ c, (c < M ∨ M + 8 ≤ c ∨ c = M + 4 ∨ c = M + 7) → t2 c = t c := fun c hc => (f2a c (by omega) (by omega)).trans (f1 c hc)
          have x2 : RmV (t2 (M + 1)) (gV G) := hG2.1
          have W2 := x2.2.2.2.2.2.2 j hj1
          obtain ⟨u, hu⟩ : ∃ u, u = (if 0 < (sh (gV G) j).1.1 then smV (sh (gV G) j) else sh (gV G) j) := ⟨_, rfl⟩
          obtain ⟨S, hS⟩ : ∃ S, S = (pl (gV G) k).2.2.2 := ⟨_, rfl⟩
          obtain ⟨dx, hdx⟩ : ∃ dx, dx = (pl (gV G) k).2.1 := ⟨_, rfl⟩
          obtain ⟨dy, hdy⟩ : ∃ dy, dy = (pl (gV G) k).2.2.1 := ⟨_, rfl⟩
          obtain ⟨i9, hi9⟩ : ∃ i9, i9 = (pl (gV G) k).1 / 2 := ⟨_, rfl⟩
          have hu2 : u.1.2.2 = (sh (gV G) j).1.2.2 := by rw [hu]; split <;> rfl
          obtain ⟨s9, hs9⟩ : ∃ s9 : TV, s9 = takeV (sh (gV G) j) (pl (gV G) k) := ⟨_, rfl⟩
          have htk : s9 = (((cntB S + 3) / 4, u.1.2.1, u.1.2.2), (fun j k => u.2.1 j k || (decide (j = i9) && hitB S dx dy k)), (fun j k => u.2.2 j k || (decide (j = i9) && S k))) := by
            rw [hs9, hu, hS, hdx, hdy, hi9]; rfl
          rw [← hs9] at ev0
          have h91 : s9.1.1 = (cntB S + 3) / 4 := by rw [htk]
          have h92 : s9.1.2.1 = u.1.2.1 := by rw [htk]
          have h93 : s9.1.2.2 = u.1.2.2 := by rw [htk]
          have h94 : ∀ b c, s9.2.1 b c = (u.2.1 b c || (decide (b = i9) && hitB S dx dy c)) := fun b c => by rw [htk]
          have h95 : ∀ b c, s9.2.2 b c = (u.2.2 b c || (decide (b = i9) && S c)) := fun b c => by rw [htk]
          have hcS : cntB S ≤ 128 := cntB_le S
          clear htk
          have a1 := oP.2.1
          have a2 := oP.2.2.1
          have a3 := oP.2.2.2.1
          have a4 := oP.2.2.2.2.1
          have hc20 := oP.2.2.2.2.2
          rw [← hdx] at a1 a2
          rw [← hdy] at a3 a4
          have main : ∀ t3 : jT, RmS (t3 (M + 1)) (51 + 27 * j) u → (∀ q, (q < 51 + 27 * j ∨ 51 + 27 * j + 27 ≤ q) → t3 (M + 1) q = t2 (M + 1) q) → (∀ c, c ≠ M + 1 → t3 c = t2 c) → J p l e (jR 4 0 0) s m args below meth c (jQm below args s g 0 0 (mP M w (a_print w.1 G (nI k) (nI j)) z sk t)) 10 g 0 0 z sk  t3 122 [some (.ref (jb g + M)), some (.int (nI k)), some (.int (nI j)), some (.int (nI (cntB S))), some (.int (nI i9)), none, none, none, none, none] [] := by
            intro t3 hu3 n3 o3
            have P3 : RmP (t3 (M + 1)) (9 + 7 * k) (pl (gV G) k) := (x2.2.2.2.2.2.1 k hk1).cong fun i hi => n3 _ (by omega)
            obtain ⟨y1, y2, y3, y4⟩ := id P3
            rw [← hdx] at y2
            rw [← hdy] at y3
            rw [← hS] at y4
            obtain ⟨z1, z2', z3, z4, z5⟩ := id hu3
            have fin : ∀ tk, PrI t3 tk M j k i9 u S dx dy 128 → J p l e (jR 4 0 0) s m args below meth c (jQm below args s g 0 0 (mP M w (a_print w.1 G (nI k) (nI j)) z sk t)) 10 g 0 0 z sk  tk 261 [some (.ref (jb g + M)), some (.int (nI k)), some (.int (nI j)), some (.int (nI (cntB S))), some (.int (nI i9)), some (.int (nI (51 + 27 * j + 3 + 4 * i9))), some (.int (nI (51 + 27 * j + 15 + 4 * i9))), some (.int (nI 128)), none, none] [] := by
              intro tk ⟨g1, g2, g3, g4⟩
              have e3 : tk (M + 1) (3 + i9) = nI (dr (gV G) i9) := by rw [g2 _ (by omega) (by omega), n3 _ (by omega)]; exact x2.2.2.2.1 i9 (by omega)
              refine j_aload_n X (i := 0) dX10_print_261 rfl rfl ?_
              refine jFd.get X fd_X10_7 M0 rfl dX10_print_262 ?_
              refine j_iconst X (v := (nI 3)) dX10_print_265 (by decide) ?_
              refine j_iload X (i := 4) dX10_print_266 rfl ?_
              refine j_iadd X dX10_print_268 ?_
              rw [nI_add]
              refine j_dup2 X dX10_print_269 rfl rfl ?_
              refine j_iald X M1 rfl (by omega) (by decide) dX10_print_270 ?_
              rw [e3]
              refine j_iload_n X (i := 3) dX10_print_271 rfl rfl ?_
              refine j_isub X dX10_print_272 ?_
              rw [pk_sub (by rw [hi9, hS]; exact hd)]
              refine j_iast X M1 rfl (by omega) (by decide) dX10_print_273 ?_
              refine j_aload_n X (i := 0) dX10_print_274 rfl rfl ?_
              refine j_iload_n X (i := 2) dX10_print_275 rfl rfl ?_
              refine j_iconst X (v := (nI 0)) dX10_print_276 (by decide) ?_
              refine j_iload_n X (i := 3) dX10_print_277 rfl rfl ?_
              refine j_iconst X (v := (nI 3)) dX10_print_278 (by decide) ?_
              refine j_iadd X dX10_print_279 ?_
              rw [nI_add]
              refine j_iconst X (v := (nI 4)) dX10_print_280 (by decide) ?_
              refine j_idiv X dX10_print_281 (by decide) ?_
              rw [pk_div (by omega) (by decide) (by decide)]
              refine j_callV X (m_lays hok hst (k := j) (w := 0) hM (by omega) _) i_X10_lays tw_7_33 tw_7_35 tp_39 M0 rfl dX10_print_282 ?_ 
              obtain ⟨t5, ht5⟩ : ∃ t5, t5 = jU (jU tk (M + 1) (3 + i9) (nI (dr (gV G) i9 - cntB S))) (M + 1) (51 + 27 * j + 0) (nI ((cntB S + 3) / 4)) := ⟨_, rfl⟩
              have o5 : ∀ c, c ≠ M + 1 → t5 c = t2 c := fun c hc => by rw [ht5, jU_ne _ _ _ hc, jU_ne _ _ _ hc, g1 c hc]; exact o3 c hc
              have e5 : t5 (M + 1) = upd (upd (tk (M + 1)) (3 + i9) (nI (dr (gV G) i9 - cntB S))) (51 + 27 * j + 0) (nI ((cntB S + 3) / 4)) := by rw [ht5, jU_eq, jU_eq]
              have n5 : ∀ q, q ≠ 3 + i9 → q ≠ 51 + 27 * j → t5 (M + 1) q = tk (M + 1) q := fun q h1 h2 => by rw [e5]; unfold upd; rw [if_neg (show ¬ q = 51 + 27 * j + 0 from h2), if_neg h1]
              rw [← ht5]
              clear ht5
              have g9 : ∀ q, q ≠ 3 + i9 → (q < 51 + 27 * j ∨ 51 + 27 * j + 27 ≤ q) → t5 (M + 1) q = t2 (M + 1) q := fun q h1 h2 => by rw [n5 q h1 (by omega), g2 _ (by omega) (by omega)]; exact n3 q h2
              have P5 : RmP (t5 (M + 1)) (9 + 7 * k) (pl (gV G) k) := (x2.2.2.2.2.2.1 k hk1).cong fun i hi => g9 _ (by omega) (by omega)
              obtain ⟨-, y2', y3', y4'⟩ := P5
              rw [← hdx] at y2'
              rw [← hdy] at y3'
              rw [← hS] at y4'
              refine j_aload_n X (i := 0) dX10_print_285 rfl rfl ?_
              refine j_iload_n X (i := 1) dX10_print_286 rfl rfl ?_
              refine j_callV X (m_beside hok hst hM hk6 y4' y2' y3' a1 a2 a3 a4) i_X10_beside tw_6_194 tw_6_196 tp_33 M0 rfl dX10_print_287 ?_ 
              have hr2 : a_print w.1 G (nI k) (nI j) = (0, nI (besB S dx dy), (upD (upS (gV G) j s9) i9 (dr (gV G) i9 - cntB S), (kpG w.1 G).2)) := by
                rw [a_print, ev0, ch_yesR (by omega) (by decide) (by decide) (by decide), iN_nI, ← hS, ← hdx, ← hdy, ← hi9]
              refine j_iret X dX10_print_290 rfl rfl (mP_mk hr2 ?_ (hG2.g ?_ o5) ?_)
              · rw [o5 _ (by omega)]; exact c2
              · refine x2.upSD k1 k2 hj1 (k := j) (s := s9) rfl rfl rfl (fun i hi => ?_) (fun a ha => ?_) ⟨?_, ?_, ?_, fun b hb => ?_, fun b hb => ?_⟩ (fun q h1 h2 => g9 q (by omega) h2)
                · show _ = nI (if i = i9 then _ else _)
                  by_cases e : i = i9
                  · rw [if_pos e, e, e5]
                    unfold upd
                    rw [if_neg (by omega), if_pos rfl]
                  · rw [if_neg e, g9 _ (by omega) (by omega)]
                    exact x2.2.2.2.1 i hi
                · rw [g9 _ (by omega) (by omega), x2.2.2.2.2.1 a ha]
                  exact congrArg iN (rkV_same (V := gV G) (k := j) (s := s9) (h93.trans hu2) (a : Int)).symm
                · rw [e5, h91]; exact if_pos rfl
                · rw [n5 _ (by omega) (by omega), g2 _ (by omega) (by omega), h92]; exact z2'
                · rw [n5 _ (by omega) (by omega), g2 _ (by omega) (by omega), h93]; exact z3
                · by_cases e : b = i9
                  · rw [e]
                    refine (g3.cong fun w9 hw => n5 _ (by omega) (by omega)).same fun c hc => ?_
                    show _ = (u.2.1 i9 c || hitK S dx dy 128 c)
                    rw [h94, decide_eq_true (rfl : i9 = i9), Bool.true_and, hitK_end _ _ _ hc]
                  · refine ((z4 b hb).cong fun w9 hw => ?_).same fun c hc => ?_
                    · rw [n5 _ (by omega) (by omega), g2 _ (by omega) (by omega)]
                    · rw [h94, decide_eq_false e, Bool.false_and, Bool.or_false]
                · by_cases e : b = i9
                  · rw [e]
                    refine (g4.cong fun w9 hw => n5 _ (by omega) (by omega)).same fun c hc => ?_
                    show _ = (u.2.2 i9 c || (decide (c < 128) && S c))
                    rw [h95, decide_eq_true (rfl : i9 = i9), Bool.true_and, decide_eq_true hc, Bool.true_and]
                  · refine ((z5 b hb).cong fun w9 hw => ?_).same fun c hc => ?_
                    · rw [n5 _ (by omega) (by omega), g2 _ (by omega) (by omega)]
                    · rw [h95, decide_eq_false e, Bool.false_and, Bool.or_false]
              · intro c hc
                rw [o5 c (by omega)]
                exact f2 c hc
            have loop : ∀ kk, kk ≤ 128 → ∀ tk, PrI t3 tk M j k i9 u S dx dy kk → J p l e (jR 4 0 0) s m args below meth c (jQm below args s g 0 0 (mP M w (a_print w.1 G (nI k) (nI j)) z sk t)) 10 g 0 0 z sk  tk 158 [some (.ref (jb g + M)), some (.int (nI k)), some (.int (nI j)), some (.int (nI (cntB S))), some (.int (nI i9)), some (.int (nI (51 + 27 * j + 3 + 4 * i9))), some (.int (nI (51 + 27 * j + 15 + 4 * i9))), some (.int (nI kk)), none, none] [] := by
              refine up_loop ?_ ?_
              · intro tk hI
                refine j_iload X (i := 7) dX10_print_158 rfl ?_
                refine j_sipush X (v := (nI 128)) dX10_print_160 (by decide) ?_
                refine j_icmp_ge X (tgt := 261) dX10_print_163 (by decide) (fun _ => ?_) (fun q9 => absurd (nI_le (Nat.le_refl _) (by decide)) q9)
                exact fin tk hI
              · intro kk hkk ih tk ⟨g1, g2, g3, g4⟩
                have hWs : Wd (tk (M + 1)) (9 + 7 * k + 3) S := y4.cong fun w9 hw => g2 _ (by omega) (by omega)
                refine j_iload X (i := 7) dX10_print_158 rfl ?_
                refine j_sipush X (v := (nI 128)) dX10_print_160 (by decide) ?_
                refine j_icmp_ge X (tgt := 261) dX10_print_163 (by decide) (fun q9 => absurd q9 (nI_ge hkk (by decide))) (fun _ => ?_)
                refine j_aload_n X (i := 0) dX10_print_166 rfl rfl ?_
                refine j_aload_n X (i := 0) dX10_print_167 rfl rfl ?_
                refine j_iload_n X (i := 1) dX10_print_168 rfl rfl ?_
                refine j_callV X (m_stars hok hst (M := M)) i_X10_stars tw_6_160 tw_6_162 tp_28 M0 rfl dX10_print_169 ?_ 
                refine j_iload X (i := 7) dX10_print_172 rfl ?_
                refine j_bipush X (v := (nI 16)) dX10_print_174 (by decide) ?_
                refine j_irem X dX10_print_176 (by decide) ?_
                rw [pk_rem2 (a := kk) (d := 16) (by omega) (by decide) (by decide)]
                refine j_iload X (i := 7) dX10_print_177 rfl ?_
                refine j_bipush X (v := (nI 16)) dX10_print_179 (by decide) ?_
                refine j_idiv X dX10_print_181 (by decide) ?_
                rw [pk_div (a := kk) (d := 16) (by omega) (by decide) (by decide)]
                refine j_callV X (m_has hok hst (x := kk % 16) (y := kk / 16) hM hWs (by omega) (by omega) (by omega)) i_X10_has tw_6_164 tw_6_166 tp_29 M0 rfl dX10_print_182 ?_ 
                rw [show 16 * (kk / 16) + kk % 16 = kk by omega]
                cases hs : S kk with
                | false =>
                  refine j_if_ne X (tgt := 191) dX10_print_185 (by decide) (fun q9 => absurd (rfl) q9) (fun _ => ?_)
                  refine j_goto X (tgt := 255) dX10_print_188 (by decide) ?_
                  refine j_iinc X (i := 7) (v := (nI (kk + 1))) dX10_print_255 rfl (nI_1 kk) (by decide) rfl ?_
                  refine j_goto X (tgt := 158) dX10_print_258 (by decide) ?_
                  refine ih tk ⟨g1, g2, g3.same fun c hc => ?_, g4.same fun c hc => ?_⟩
                  · show _ = _
                    rw [hitK_no (by rw [hs]; rfl) hc]
                  · show _ = _
                    by_cases e : c = kk
                    · rw [e, hs, Bool.and_false, Bool.and_false]
                    · rw [show decide (c < kk + 1) = decide (c < kk) from decide_eq_decide.mpr (by omega)]
                | true =>
                  have e1 : tk (M + 1) (9 + 7 * k + 1) = iN dx := by rw [g2 _ (by omega) (by omega)]; exact y2
                  have e2 : tk (M + 1) (9 + 7 * k + 2) = iN dy := by rw [g2 _ (by omega) (by omega)]; exact y3
                  refine j_if_ne X (tgt := 191) dX10_print_185 (by decide) (fun _ => ?_) (fun q9 => absurd q9 (by decide))
                  refine j_iload X (i := 7) dX10_print_191 rfl ?_
                  refine j_bipush X (v := (nI 16)) dX10_print_193 (by decide) ?_
                  refine j_irem X dX10_print_195 (by decide) ?_
                  rw [pk_rem2 (a := kk) (d := 16) (by omega) (by decide) (by decide)]
                  refine j_aload_n X (i := 0) dX10_print_196 rfl rfl ?_
                  refine j_iload_n X (i := 1) dX10_print_197 rfl rfl ?_
                  refine j_iconst X (v := (nI 1)) dX10_print_198 (by decide) ?_
                  refine j_callV X (m_of hok hst (k := k) (w := 1) hM (by omega)) i_X10_of tw_6_198 tw_6_200 tp_34 M0 rfl dX10_print_199 ?_ 
                  rw [e1]
                  refine j_iadd X dX10_print_202 ?_
                  rw [nI_iN]
                  refine j_istore X (i := 8) dX10_print_203 (by decide) rfl ?_
                  refine j_iload X (i := 7) dX10_print_205 rfl ?_
                  refine j_bipush X (v := (nI 16)) dX10_print_207 (by decide) ?_
                  refine j_idiv X dX10_print_209 (by decide) ?_
                  rw [pk_div (a := kk) (d := 16) (by omega) (by decide) (by decide)]
                  refine j_aload_n X (i := 0) dX10_print_210 rfl rfl ?_
                  refine j_iload_n X (i := 1) dX10_print_211 rfl rfl ?_
                  refine j_iconst X (v := (nI 2)) dX10_print_212 (by decide) ?_
                  refine j_callV X (m_of hok hst (k := k) (w := 2) hM (by omega)) i_X10_of tw_6_198 tw_6_200 tp_34 M0 rfl dX10_print_213 ?_ 
                  rw [e2]
                  refine j_iadd X dX10_print_216 ?_
                  rw [nI_iN]
                  refine j_istore X (i := 9) dX10_print_217 (by decide) rfl ?_
                  refine j_aload_n X (i := 0) dX10_print_219 rfl rfl ?_
                  refine j_iload X (i := 6) dX10_print_220 rfl ?_
                  refine j_iload X (i := 7) dX10_print_222 rfl ?_
                  refine j_bipush X (v := (nI 16)) dX10_print_224 (by decide) ?_
                  refine j_irem X dX10_print_226 (by decide) ?_
                  rw [pk_rem2 (a := kk) (d := 16) (by omega) (by decide) (by decide)]
                  refine j_iload X (i := 7) dX10_print_227 rfl ?_
                  refine j_bipush X (v := (nI 16)) dX10_print_229 (by decide) ?_
                  refine j_idiv X dX10_print_231 (by decide) ?_
                  rw [pk_div (a := kk) (d := 16) (by omega) (by decide) (by decide)]
                  refine j_callV_p X (m_gives hok hst (x := kk % 16) (y := kk / 16) hM g4 (by omega) (by omega) (by omega)) i_X10_gives tw_7_58 tw_7_60 tp_44 M0 rfl dX10_print_232 (fun v2 z2 sk2 t2 hp => ?_) 
                  obtain ⟨rfl, rfl, rfl, g5, g6, g7⟩ := hp
                  rw [show 16 * (kk / 16) + kk % 16 = kk by omega] at g5
                  generalize t2 = t6 at g5 g6 g7 ⊢
                  have g8 : Wd (t6 (M + 1)) (51 + 27 * j + 15 + 4 * i9) (fun c => u.2.2 i9 c || (decide (c < kk + 1) && S c)) := g5.same fun c hc => by
                    unfold addS
                    show _ = _
                    by_cases e : c = kk
                    · rw [e, hs, decide_eq_true (Nat.lt_succ_self kk), decide_eq_true rfl]
                      simp
                    · rw [decide_eq_false e, show decide (c < kk + 1) = decide (c < kk) from decide_eq_decide.mpr (by omega), Bool.or_false]
                  have g3' : Wd (t6 (M + 1)) (51 + 27 * j + 3 + 4 * i9) (fun c => u.2.1 i9 c || hitK S dx dy kk c) := g3.cong fun w9 hw => g6 _ (by omega)
                  refine j_iload X (i := 8) dX10_print_235 rfl ?_
                  refine j_iload X (i := 9) dX10_print_237 rfl ?_
                  refine j_callS X (m_isOn hok hst _ _) i_X10_isOn tw_6_157 tw_6_158 dX10_print_239 ?_ 
                  rw [isPl_iN hkk a1 a2 a3 a4]
                  cases hon : onB kk dx dy with
                  | false =>
                    refine j_if_eq X (tgt := 255) dX10_print_242 (by decide) (fun _ => ?_) (fun q9 => absurd (rfl) q9)
                    refine j_iinc X (i := 7) (v := (nI (kk + 1))) dX10_print_255 rfl (nI_1 kk) (by decide) rfl ?_
                    refine j_goto X (tgt := 158) dX10_print_258 (by decide) ?_
                    refine j_drop 8 (j_drop 9 ?_)
                    refine ih t6 ⟨fun c hc => (g7 c hc).trans (g1 c hc), fun q h1 h2 => (g6 q h2).trans (g2 q h1 h2), g3'.same fun c hc => ?_, g8⟩
                    show _ = _
                    rw [hitK_no (by rw [hon, Bool.and_false]) hc]
                  | true =>
                    obtain ⟨b1, b2, b3, b4⟩ : 0 ≤ ((kk % 16 : Nat) : Int) + dx ∧ ((kk % 16 : Nat) : Int) + dx < 16 ∧ 0 ≤ ((kk / 16 : Nat) : Int) + dy ∧ ((kk / 16 : Nat) : Int) + dy < 8 := of_decide_eq_true hon
                    obtain ⟨x, hx⟩ : ∃ x : Nat, ((kk % 16 : Nat) : Int) + dx = x := ⟨(((kk % 16 : Nat) : Int) + dx).toNat, by omega⟩
                    obtain ⟨y, hy⟩ : ∃ y : Nat, ((kk / 16 : Nat) : Int) + dy = y := ⟨(((kk / 16 : Nat) : Int) + dy).toNat, by omega⟩
                    have hmv : mvB kk dx dy = 16 * y + x := by unfold mvB; rw [hx, hy]; rfl
                    rw [hx, hy, iN_nI, iN_nI]
                    refine j_if_eq X (tgt := 255) dX10_print_242 (by decide) (fun q9 => absurd q9 (by decide)) (fun _ => ?_)
                    refine j_aload_n X (i := 0) dX10_print_245 rfl rfl ?_
                    refine j_iload X (i := 5) dX10_print_246 rfl ?_
                    refine j_iload X (i := 8) dX10_print_248 rfl ?_
                    refine j_iload X (i := 9) dX10_print_250 rfl ?_
                    refine j_callV_p X (m_gives hok hst (x := x) (y := y) hM g3' (by omega) (by omega) (by omega)) i_X10_gives tw_7_58 tw_7_60 tp_44 M0 rfl dX10_print_252 (fun v2 z2 sk2 t2 hp => ?_) 
                    obtain ⟨rfl, rfl, rfl, g10, g11, g12⟩ := hp
                    rw [← hmv] at g10
                    generalize t2 = t7 at g10 g11 g12 ⊢
                    refine j_iinc X (i := 7) (v := (nI (kk + 1))) dX10_print_255 rfl (nI_1 kk) (by decide) rfl ?_
                    refine j_goto X (tgt := 158) dX10_print_258 (by decide) ?_
                    refine j_drop 8 (j_drop 9 ?_)
                    refine ih t7 ⟨fun c hc => (g12 c hc).trans ((g7 c hc).trans (g1 c hc)), fun q h1 h2 => (g11 q h1).trans ((g6 q h2).trans (g2 q h1 h2)), g10.same fun c hc => ?_, g8.cong fun w9 hw => g11 _ (by omega)⟩
                    unfold addS
                    show _ = _
                    rw [hitK_yes hkk hs hon hc, Bool.or_assoc]
            refine j_bipush X (v := (nI 51)) dX10_print_122 (by decide) ?_
            refine j_bipush X (v := (nI 27)) dX10_print_124 (by decide) ?_
            refine j_iload_n X (i := 2) dX10_print_126 rfl rfl ?_
            refine j_imul X dX10_print_127 ?_
            rw [pk_mul]
            refine j_iadd X dX10_print_128 ?_
            rw [nI_add]
            refine j_iconst X (v := (nI 3)) dX10_print_129 (by decide) ?_
            refine j_iadd X dX10_print_130 ?_
            rw [nI_add]
            refine j_iconst X (v := (nI 4)) dX10_print_131 (by decide) ?_
            refine j_iload X (i := 4) dX10_print_132 rfl ?_
            refine j_imul X dX10_print_134 ?_
            rw [pk_mul]
            refine j_iadd X dX10_print_135 ?_
            rw [nI_add]
            refine j_istore X (i := 5) dX10_print_136 (by decide) rfl ?_
            refine j_bipush X (v := (nI 51)) dX10_print_138 (by decide) ?_
            refine j_bipush X (v := (nI 27)) dX10_print_140 (by decide) ?_
            refine j_iload_n X (i := 2) dX10_print_142 rfl rfl ?_
            refine j_imul X dX10_print_143 ?_
            rw [pk_mul]
            refine j_iadd X dX10_print_144 ?_
            rw [nI_add]
            refine j_bipush X (v := (nI 15)) dX10_print_145 (by decide) ?_
            refine j_iadd X dX10_print_147 ?_
            rw [nI_add]
            refine j_iconst X (v := (nI 4)) dX10_print_148 (by decide) ?_
            refine j_iload X (i := 4) dX10_print_149 rfl ?_
            refine j_imul X dX10_print_151 ?_
            rw [pk_mul]
            refine j_iadd X dX10_print_152 ?_
            rw [nI_add]
            refine j_istore X (i := 6) dX10_print_153 (by decide) rfl ?_
            refine j_iconst X (v := (nI 0)) dX10_print_155 (by decide) ?_
            refine j_istore X (i := 7) dX10_print_156 (by decide) rfl ?_
            refine loop 0 (Nat.zero_le _) t3 ⟨fun _ _ => rfl, fun _ _ _ => rfl, (z4 i9 (by omega)).same fun c hc => ?_, (z5 i9 (by omega)).same fun c hc => ?_⟩
            · show _ = _
              rw [hitK_0, Bool.or_false]
            · show _ = _
              rw [decide_eq_false (Nat.not_lt_zero c), Bool.false_and, Bool.or_false]
          refine j_aload_n X (i := 0) dX10_print_108 rfl rfl ?_
          refine j_iload_n X (i := 2) dX10_print_109 rfl rfl ?_
          refine j_iconst X (v := (nI 0)) dX10_print_110 (by decide) ?_
          refine j_callV X (m_on hok hst (k := j) (w := 0) hM (by omega)) i_X10_on tw_7_45 tw_7_47 tp_41 M0 rfl dX10_print_111 ?_ 
          rw [show t2 (M + 1) (51 + 27 * j + 0) = _ from W2.1]
          rw [← hS, ← hi9]
          by_cases hwet : 0 < (sh (gV G) j).1.1
          · rw [if_pos hwet] at hu
            refine j_if_le X (tgt := 122) dX10_print_114 (by decide) (fun q9 => absurd q9 ((show ¬ nI (sh (gV G) j).1.1 ≤ nI 0 from nI_ge hwet (Nat.lt_trans oS.bd (by decide))))) (fun _ => ?_)
            refine j_aload_n X (i := 0) dX10_print_117 rfl rfl ?_
            refine j_iload_n X (i := 2) dX10_print_118 rfl rfl ?_
            refine j_callV_p X (m_smear hok hst hM hj8 W2) i_X10_smear tw_7_53 tw_7_55 tp_43 M0 rfl dX10_print_119 (fun v2 z2 sk2 t2 hp => ?_) 
            obtain ⟨rfl, rfl, rfl, h3a, h3b, h3c⟩ := hp
            exact main t2 (by rw [hu]; exact h3a) h3b h3c
          · rw [if_neg hwet] at hu
            refine j_if_le X (tgt := 122) dX10_print_114 (by decide) (fun _ => ?_) (fun q9 => absurd ((show nI (sh (gV G) j).1.1 ≤ nI 0 from nI_le (by omega) (by decide))) q9)
            exact main t2 (by rw [hu]; exact W2) (fun _ _ => rfl) (fun _ _ => rfl)

