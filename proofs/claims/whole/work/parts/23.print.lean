theorem jU_self {t : jT} {i k : Nat} {v : Int32} (h : t i k = v) : jU t i k v = t := by
  rw [jU_row, fa_upd_same h, jUf_self]
theorem jU_jU (t : jT) (i k : Nat) (v w : Int32) : jU (jU t i k v) i k w = jU t i k w := by
  rw [jU_row (jU t i k v), jU_eq, fa_upd_twice, jU_row t i k v, jUf_jUf, ← jU_row]
abbrev RF : Type := Option (Nat × Nat)
abbrev jRef : jK := kO 6 [.int, .int]
/-- the latest refusal in the memory -/
def RcR (t : jT) (r : Nat) : RF → Prop
  | none => t r 0 = -1
  | some (a, d) => t r 0 = nI a ∧ t r 1 = nI d ∧ 1 ≤ a ∧ a ≤ 3
theorem RcR.cong {t u : jT} {r : Nat} {f : RF} (h : RcR t r f) (hc : u r = t r) : RcR u r f := by
  cases f with
  | none => unfold RcR at *; rw [hc]; exact h
  | some q => unfold RcR at *; rw [hc]; exact h
def vPrint (V : SV) (f : RF) (q o : Int32) : Int × SV × RF :=
  if pIx (np V) q = false ∨ pIx (ns V) o = false then (-1, V, f) else
  if 0 ≤ (sAt V o).1.2.2 then (-5, V, some (1, (sAt V o).1.2.2.toNat)) else
  if dr V ((pAt V q).1 / 2) < cntB (pAt V q).2.2.2 then (-5, V, some (2, cntB (pAt V q).2.2.2 - dr V ((pAt V q).1 / 2))) else
  ((besB (pAt V q).2.2.2 (pAt V q).2.1 (pAt V q).2.2.1 : Int), upD (upS V o.toInt.toNat (takeV (sAt V o) (pAt V q))) ((pAt V q).1 / 2) (dr V ((pAt V q).1 / 2) - cntB (pAt V q).2.2.2), f)
/-- the first sheet from k on, of n, at a place; -1: none -/
def rkG (P : Nat → TV) (a : Int) : Nat → Nat → Int
  | 0, _ => -1
  | n + 1, k => if (P k).1.2.2 = a then (k : Int) else rkG P a n (k + 1)
def rkV (V : SV) (a : Int) : Int := rkG (sh V) a (ns V) 0
/-- the first free place from k on, of n; else k + n -/
def frG (V : SV) : Nat → Nat → Nat
  | 0, k => k
  | n + 1, k => if rkV V (k : Int) = -1 then k else frG V n (k + 1)
def frV (V : SV) : Nat := frG V 3 0
def tvP (s : TV) (a : Int) : TV := ((s.1.1, s.1.2.1, a), s.2)
def vRack (V : SV) (f : RF) (o : Int32) : Int × SV × RF :=
  if pIx (ns V) o = false then (-1, V, f) else
  if 0 ≤ (sAt V o).1.2.2 then (-3, V, f) else
  if frV V < 3 then ((frV V : Int), upS V o.toInt.toNat (tvP (sAt V o) (frV V)), f) else (-5, V, some (3, 3))
def vUnrack (V : SV) (o : Int32) : VR :=
  if pIx (ns V) o = false then (-1, V) else
  if (sAt V o).1.2.2 < 0 then (-3, V) else ((sAt V o).1.2.2, upS V o.toInt.toNat (tvP (sAt V o) (-1)))
def vRefill (V : SV) (x n : Int32) : VR :=
  if isIk x = false ∨ n.toInt < 1 ∨ 99 < n.toInt then (-2, V) else
  if 500 < dr V (x.toInt.toNat / 2) + n.toInt.toNat then (-3, V) else (((dr V (x.toInt.toNat / 2) + n.toInt.toNat : Nat) : Int), upD V (x.toInt.toNat / 2) (dr V (x.toInt.toNat / 2) + n.toInt.toNat))
def hrS (s : TV) (a h : Nat) : TV := ((s.1.1 - dryS s.1.2.2 a h, s.1.2.1, s.1.2.2), s.2)
/-- the first k sheets have dried for h hours -/
def hrV (V : SV) (h k : Nat) : SV := (V.1, dr V, pl V, fun j => if j < k then hrS (sh V j) (hr V) h else sh V j)
def drB (V : SV) (h k : Nat) : Bool := decide (0 < (sh V k).1.1 ∧ (sh V k).1.1 ≤ dryS (sh V k).1.2.2 (hr V) h)
def vHours (V : SV) (x : Int32) : VR :=
  if x.toInt < 1 ∨ 50 < x.toInt then (-2, V) else
  ((fb_ct (drB V x.toInt.toNat) (ns V) : Int), ((np V, ns V, hr V + x.toInt.toNat), dr V, pl V, (hrV V x.toInt.toNat (ns V)).2.2.2))
theorem okS.bd {s : TV} (h : okS s) : s.1.1 < 2 ^ 28 := Nat.lt_of_le_of_lt h.1 (by decide)
theorem rkG_ge (P : Nat → TV) (a : Int) : ∀ n k, -1 ≤ rkG P a n k ∧ rkG P a n k < (k + n : Nat)
  | 0, k => ⟨Int.le_refl _, by show (-1 : Int) < _; omega⟩
  | n + 1, k => by
    unfold rkG
    split
    · constructor <;> omega
    · have := rkG_ge P a n (k + 1)
      constructor <;> omega
theorem frG_le (V : SV) : ∀ n k, k ≤ frG V n k ∧ frG V n k ≤ k + n
  | 0, k => ⟨Nat.le_refl _, Nat.le_refl _⟩
  | n + 1, k => by
    unfold frG
    split
    · omega
    · have := frG_le V n (k + 1)
      omega
theorem s_refKeep {l : Launch} {g : jG} (hok : jOk g) (hst : l.stackTraces = false) {z : Option Nat} {sk : jS} {t : jT} {r : Nat} (hR : sk r = some jRef) (a d : Int32) : jMet l g mX6_keep 1 0 0 [.ref (jb g + r), .int a, .int d] z sk t (jE (some (.int (iN (-5)))) z sk (jU (jU t r 0 a) r 1 d)) := by
  refine j_body (lv := [some (.ref (jb g + r)), some (.int a), some (.int d)]) i_X6_keep hok hst (fun p e s m args below meth c X => ?_)
  refine j_aload_n X (i := 0) dX6_keep_0 rfl rfl ?_
  refine j_iload_n X (i := 1) dX6_keep_1 rfl rfl ?_
  refine jFd.put X fd_X6_9 hR rfl rfl rfl rfl dX6_keep_2 ?_
  refine j_aload_n X (i := 0) dX6_keep_5 rfl rfl ?_
  refine j_iload_n X (i := 2) dX6_keep_6 rfl rfl ?_
  refine jFd.put X fd_X6_15 hR rfl rfl rfl rfl dX6_keep_7 ?_
  refine j_bipush X (v := -5) dX6_keep_10 (by decide) ?_
  exact j_iret X dX6_keep_12 rfl rfl ⟨rfl, rfl, rfl, rfl⟩

theorem s_printPlate {l : Launch} {g : jG} (hok : jOk g) (hst : l.stackTraces = false) {z : Option Nat} {sk : jS} {t : jT} {b : Nat} {V : SV} (hB : isShop g sk b) (hV : RcV t b V) (hk : okV V) {r : Nat} (hR : sk r = some jRef) (hr1 : r < b ∨ b + 40 ≤ r) {f : RF} (hRR : RcR t r f) (q o : Int32) : jMet l g mX8_printPlate 4 0 0 [.ref (jb g + b), .int q, .int o, .ref (jb g + r)] z sk t (fun v2 z2 sk2 t2 => v2 = some (.int (iN (vPrint V f q o).1)) ∧ z = z2 ∧ sk = sk2 ∧ RcV t2 b (vPrint V f q o).2.1 ∧ RcR t2 r (vPrint V f q o).2.2 ∧ (∀ c, (c < b ∨ b + 40 ≤ c) → c ≠ r → t2 c = t c)) := by
  refine j_body (lv := [some (.ref (jb g + b)), some (.int q), some (.int o), some (.ref (jb g + r)), none, none, none, none]) i_X8_printPlate hok hst (fun p e s m args below meth c X => ?_)
  obtain ⟨B1, B2, B3, B4, B5, B6⟩ := id hB
  obtain ⟨v1, v2, v3, v4, v5, v6⟩ := id hV
  obtain ⟨k1, k2, k3, k4, k5, k6, k7, k8⟩ := id hk
  have no : (pIx (np V) q = false ∨ pIx (ns V) o = false) → J p l e (jR 4 0 0) s m args below meth c (jQm below args s g 0 0 (fun v2 z2 sk2 t2 => v2 = some (.int (iN (vPrint V f q o).1)) ∧ z = z2 ∧ sk = sk2 ∧ RcV t2 b (vPrint V f q o).2.1 ∧ RcR t2 r (vPrint V f q o).2.2 ∧ (∀ c, (c < b ∨ b + 40 ≤ c) → c ≠ r → t2 c = t c))) 8 g 0 0 z sk t 16 [some (.ref (jb g + b)), some (.int q), some (.int o), some (.ref (jb g + r)), none, none, none, none] [] := fun hn => by
    have ev : vPrint V f q o = (-1, V, f) := by unfold vPrint; rw [if_pos hn]
    refine j_iconst X (v := -1) dX8_printPlate_16 (by decide) ?_
    exact j_iret X dX8_printPlate_17 rfl rfl ⟨by rw [ev]; rfl, rfl, rfl, by rw [ev]; exact hV, by rw [ev]; exact hRR, fun _ _ _ => rfl⟩
  refine j_aload_n X (i := 0) dX8_printPlate_0 rfl rfl ?_
  refine j_iload_n X (i := 1) dX8_printPlate_1 rfl rfl ?_
  refine j_callV X (s_isPlate hok hst q B1 v1 (by omega)) i_X8_isPlate tw_3_144 tw_3_145 tw_3_146 B1 rfl dX8_printPlate_2 ?_ 
  cases hq : pIx (np V) q with
  | false =>
    refine j_if_eq X (tgt := 16) dX8_printPlate_5 (by decide) (fun _ => ?_) (fun q9 => absurd (rfl) q9)
    exact no (Or.inl hq)
  | true =>
    refine j_if_eq X (tgt := 16) dX8_printPlate_5 (by decide) (fun q9 => absurd q9 (by decide)) (fun _ => ?_)
    refine j_aload_n X (i := 0) dX8_printPlate_8 rfl rfl ?_
    refine j_iload_n X (i := 2) dX8_printPlate_9 rfl rfl ?_
    refine j_callV X (s_isSheet hok hst o B1 v2 (by omega)) i_X8_isSheet tw_4_68 tw_4_69 tw_4_70 B1 rfl dX8_printPlate_10 ?_ 
    cases ho : pIx (ns V) o with
    | false =>
      refine j_if_ne X (tgt := 18) dX8_printPlate_13 (by decide) (fun q9 => absurd (rfl) q9) (fun _ => ?_)
      exact no (Or.inr ho)
    | true =>
      refine j_if_ne X (tgt := 18) dX8_printPlate_13 (by decide) (fun _ => ?_) (fun q9 => absurd q9 (by decide))
      obtain ⟨k, hk1, rfl, hkn⟩ := pIx_of (by omega) hq
      obtain ⟨j, hj1, rfl, hjn⟩ := pIx_of (by omega) ho
      have hk6 : k < 6 := by omega
      have hj8 : j < 8 := by omega
      have P5 := B5 k hk6
      have Q6 := B6 j hj8
      have oP := k3 k hk6
      have oS := k4 j hj8
      have w5 := v5 k hk6
      have w6 := v6 j hj8
      have ev0 : vPrint V f (nI k) (nI j) = if 0 ≤ (sh V j).1.2.2 then (-5, V, some (1, (sh V j).1.2.2.toNat)) else
          if dr V ((pl V k).1 / 2) < cntB (pl V k).2.2.2 then (-5, V, some (2, cntB (pl V k).2.2.2 - dr V ((pl V k).1 / 2))) else
          ((besB (pl V k).2.2.2 (pl V k).2.1 (pl V k).2.2.1 : Int), upD (upS V j (takeV (sh V j) (pl V k))) ((pl V k).1 / 2) (dr V ((pl V k).1 / 2) - cntB (pl V k).2.2.2), f) := by
        unfold vPrint
        rw [if_neg (by rw [hq, ho]; decide), pAt_nI hkn, sAt_nI hjn, hjn]
      refine j_aload_n X (i := 0) dX8_printPlate_18 rfl rfl ?_
      refine jFd.get X fd_X8_11 B1 rfl dX8_printPlate_19 ?_
      refine j_iload_n X (i := 1) dX8_printPlate_22 rfl rfl ?_
      refine j_aald X B2 (by decide) rfl hk6 (by decide) rfl dX8_printPlate_23 ?_
      refine j_astore X (i := 4) dX8_printPlate_24 (by decide) rfl ?_
      refine j_aload_n X (i := 0) dX8_printPlate_26 rfl rfl ?_
      refine jFd.get X fd_X8_19 B1 rfl dX8_printPlate_27 ?_
      refine j_iload_n X (i := 2) dX8_printPlate_30 rfl rfl ?_
      refine j_aald X B3 (by decide) rfl hj8 (by decide) rfl dX8_printPlate_31 ?_
      refine j_astore X (i := 5) dX8_printPlate_32 (by decide) rfl ?_
      refine j_aload X (i := 5) dX8_printPlate_34 rfl ?_
      refine j_callV X (s_isInRack hok hst Q6.1 w6.2.2.1 oS.2.1 oS.2.2) i_X7_isInRack tw_4_72 tw_2_144 tw_2_145 Q6.1 rfl dX8_printPlate_36 ?_ 
      by_cases h0 : 0 ≤ (sh V j).1.2.2
      · have ev := ev0
        rw [if_pos h0] at ev
        rw [decide_eq_true h0]
        have e4 : t ((b + 16 + 3 * j)) 4 = nI (sh V j).1.2.2.toNat := by rw [w6.2.2.1, ← iN_nI]; congr 1; omega
        refine j_if_eq X (tgt := 53) dX8_printPlate_39 (by decide) (fun q9 => absurd q9 (by decide)) (fun _ => ?_)
        refine j_aload_n X (i := 3) dX8_printPlate_42 rfl rfl ?_
        refine j_iconst X (v := (nI 1)) dX8_printPlate_43 (by decide) ?_
        refine j_aload X (i := 5) dX8_printPlate_44 rfl ?_
        refine jFd.get X fd_X8_117 Q6.1 rfl dX8_printPlate_46 ?_
        rw [e4]
        refine j_callV X (s_refKeep hok hst hR _ _) i_X6_keep tw_4_73 tw_4_74 tw_4_75 hR rfl dX8_printPlate_49 ?_ 
        exact j_iret X dX8_printPlate_52 rfl rfl ⟨by rw [ev], rfl, rfl, by rw [ev]; exact hV.cong (fun c _ _ => by rw [jU_ne _ _ _ (by omega), jU_ne _ _ _ (by omega)]), by rw [ev]; exact ⟨by rw [jU_eq, jU_eq]; rfl, by rw [jU_eq]; rfl, by decide, by decide⟩, fun c _ hc => by rw [jU_ne _ _ _ hc, jU_ne _ _ _ hc]⟩
      · rw [if_neg h0] at ev0
        rw [decide_eq_false h0]
        have hlt : (pl V k).1 / 2 < 3 := oP.bd.1
        have hcl := cntB_le (pl V k).2.2.2
        have hdr := k5 _ hlt
        have e1 := w5.1
        refine j_if_eq X (tgt := 53) dX8_printPlate_39 (by decide) (fun _ => ?_) (fun q9 => absurd (rfl) q9)
        refine j_aload X (i := 4) dX8_printPlate_53 rfl ?_
        refine j_callV X (s_countStars hok hst P5.1 P5.2 w5.2.2.2) i_X5_countStars tw_3_150 tw_3_151 tw_3_152 P5.1 rfl dX8_printPlate_55 ?_ 
        refine j_istore X (i := 6) dX8_printPlate_58 (by decide) rfl ?_
        refine j_aload X (i := 4) dX8_printPlate_60 rfl ?_
        refine jFd.get X fd_X8_62 P5.1 rfl dX8_printPlate_62 ?_
        rw [e1]
        refine j_callSN X (s_inkIndex hok hst (pl V k).1 (Nat.lt_trans oP.bd.2 (by decide))) i_X9_inkIndex tw_4_77 tw_4_78 dX8_printPlate_65 ?_ 
        refine j_istore X (i := 7) dX8_printPlate_68 (by decide) rfl ?_
        refine j_aload_n X (i := 0) dX8_printPlate_70 rfl rfl ?_
        refine jFd.get X fd_X8_23 B1 rfl dX8_printPlate_71 ?_
        refine j_iload X (i := 7) dX8_printPlate_74 rfl ?_
        refine j_iald X B4 rfl hlt (by decide) dX8_printPlate_76 ?_
        refine j_iload X (i := 6) dX8_printPlate_77 rfl ?_
        rw [v4 _ hlt]
        by_cases hd : dr V ((pl V k).1 / 2) < cntB (pl V k).2.2.2
        · have ev := ev0
          rw [if_pos hd] at ev
          refine j_icmp_ge X (tgt := 98) dX8_printPlate_79 (by decide) (fun q9 => absurd q9 (nI_ge hd (by omega))) (fun _ => ?_)
          refine j_aload_n X (i := 3) dX8_printPlate_82 rfl rfl ?_
          refine j_iconst X (v := (nI 2)) dX8_printPlate_83 (by decide) ?_
          refine j_iload X (i := 6) dX8_printPlate_84 rfl ?_
          refine j_aload_n X (i := 0) dX8_printPlate_86 rfl rfl ?_
          refine jFd.get X fd_X8_23 B1 rfl dX8_printPlate_87 ?_
          refine j_iload X (i := 7) dX8_printPlate_90 rfl ?_
          refine j_iald X B4 rfl hlt (by decide) dX8_printPlate_92 ?_
          rw [v4 _ hlt]
          refine j_isub X dX8_printPlate_93 ?_
          rw [pk_sub (Nat.le_of_lt hd)]
          refine j_callV X (s_refKeep hok hst hR _ _) i_X6_keep tw_4_73 tw_4_74 tw_4_75 hR rfl dX8_printPlate_94 ?_ 
          exact j_iret X dX8_printPlate_97 rfl rfl ⟨by rw [ev], rfl, rfl, by rw [ev]; exact hV.cong (fun c _ _ => by rw [jU_ne _ _ _ (by omega), jU_ne _ _ _ (by omega)]), by rw [ev]; exact ⟨by rw [jU_eq, jU_eq]; rfl, by rw [jU_eq]; rfl, by decide, by decide⟩, fun c _ hc => by rw [jU_ne _ _ _ hc, jU_ne _ _ _ hc]⟩
        · have ev := ev0
          rw [if_neg hd] at ev
          have hd := Nat.le_of_not_lt hd
          refine j_icmp_ge X (tgt := 98) dX8_printPlate_79 (by decide) (fun _ => ?_) (fun q9 => absurd (nI_le hd (by omega)) q9)
          refine j_aload X (i := 5) dX8_printPlate_98 rfl ?_
          refine j_aload X (i := 4) dX8_printPlate_100 rfl ?_
          refine j_callV_p X (s_take hok hst Q6.1 Q6.2.1 Q6.2.2 w6 (by omega) (by omega) (by omega) P5.1 P5.2 w5 (by omega) (by omega) (by omega) (by omega) (by omega) (by omega) (Nat.lt_trans oS.bd (by decide)) hlt oP.2.1 oP.2.2.1 oP.2.2.2.1 oP.2.2.2.2.1) i_X7_take tw_4_80 tw_4_81 tw_4_82 Q6.1 rfl dX8_printPlate_102 (fun v2 z2 sk2 t2 hp => ?_) 
          obtain ⟨rfl, rfl, rfl, hT2, hf2⟩ := hp
          have hV2 : RcV t2 b (upS V j (takeV (sh V j) (pl V k))) := hV.upS hj8 hT2 (fun c _ _ h1 h2 h3 => hf2 c h1 h2 h3)
          have hd2 : t2 (b + 3) = t (b + 3) := hf2 _ (by omega) (by omega) (by omega)
          have hp2 : t2 ((b + 4 + 2 * k)) = t ((b + 4 + 2 * k)) := hf2 _ (by omega) (by omega) (by omega)
          have hr2 : t2 ((b + 4 + 2 * k) + 1) = t ((b + 4 + 2 * k) + 1) := hf2 _ (by omega) (by omega) (by omega)
          refine j_aload_n X (i := 0) dX8_printPlate_105 rfl rfl ?_
          refine jFd.get X fd_X8_23 B1 rfl dX8_printPlate_106 ?_
          refine j_iload X (i := 7) dX8_printPlate_109 rfl ?_
          refine j_dup2 X dX8_printPlate_111 rfl rfl ?_
          refine j_iald X B4 rfl hlt (by decide) dX8_printPlate_112 ?_
          rw [hd2, v4 _ hlt]
          refine j_iload X (i := 6) dX8_printPlate_113 rfl ?_
          refine j_isub X dX8_printPlate_115 ?_
          rw [pk_sub hd]
          refine j_iast X B4 rfl hlt (by decide) dX8_printPlate_116 ?_
          have nb1 : (b + 4 + 2 * k) ≠ b + 3 := by omega
          have nb2 : (b + 4 + 2 * k) + 1 ≠ b + 3 := by omega
          refine j_aload X (i := 4) dX8_printPlate_117 rfl ?_
          refine j_callV X (s_countBeside hok hst P5.1 P5.2 (by rw [jU_ne _ _ _ nb2, hr2]; exact w5.2.2.2) (by rw [jU_ne _ _ _ nb1, hp2]; exact w5.2.1) (by rw [jU_ne _ _ _ nb1, hp2]; exact w5.2.2.1) oP.2.1 oP.2.2.1 oP.2.2.2.1 oP.2.2.2.2.1) i_X5_countBeside tw_3_182 tw_3_183 tw_3_184 P5.1 rfl dX8_printPlate_119 ?_ 
          refine j_iret X dX8_printPlate_122 rfl rfl ⟨by rw [ev]; exact congrArg (fun w => some (Value.int w)) (iN_nI _).symm, rfl, rfl, ?_, ?_, ?_⟩
          · rw [ev]
            exact hV2.upD (jU_eq _ _ _ _ |>.trans (by rw [hd2])) (fun c _ _ hc => jU_ne _ _ _ hc)
          · rw [ev]
            refine hRR.cong ?_
            rw [jU_ne _ _ _ (by omega)]
            exact hf2 _ (by omega) (by omega) (by omega)
          · intro c hc h2
            rw [jU_ne _ _ _ (by omega)]
            exact hf2 _ (by omega) (by omega) (by omega)

theorem s_sheetAtPlace {l : Launch} {g : jG} (hok : jOk g) (hst : l.stackTraces = false) {z : Option Nat} {sk : jS} {t : jT} {b : Nat} {V : SV} (hB : isShop g sk b) (hV : RcV t b V) (hk : okV V) (a : Nat) (ha : a < 3) : jMet l g mX8_sheetAtPlace 1 0 0 [.ref (jb g + b), .int (nI a)] z sk t (jE (some (.int (iN (rkV V a)))) z sk t) := by
  refine j_body (lv := [some (.ref (jb g + b)), some (.int (nI a)), none]) i_X8_sheetAtPlace hok hst (fun p e s m args below meth c X => ?_)
  obtain ⟨B1, B2, B3, B4, B5, B6⟩ := id hB
  obtain ⟨v1, v2, v3, v4, v5, v6⟩ := id hV
  obtain ⟨k1, k2, k3, k4, k5, k6, k7, k8⟩ := id hk
  have key : ∀ k, k ≤ ns V → rkV V a = rkG (sh V) a (ns V - k) k → J p l e (jR 1 0 0) s m args below meth c (jQm below args s g 0 0 (jE (some (.int (iN (rkV V a)))) z sk t)) 3 g 0 0 z sk t 2 [some (.ref (jb g + b)), some (.int (nI a)), some (.int (nI k))] [] := by
    refine up_loop ?_ ?_
    · intro e
      rw [Nat.sub_self] at e
      refine j_iload_n X (i := 2) dX8_sheetAtPlace_2 rfl rfl ?_
      refine j_aload_n X (i := 0) dX8_sheetAtPlace_3 rfl rfl ?_
      refine jFd.get X fd_X8_31 B1 rfl dX8_sheetAtPlace_4 ?_
      rw [v2]
      refine j_icmp_ge X (tgt := 31) dX8_sheetAtPlace_7 (by decide) (fun _ => ?_) (fun q9 => absurd (nI_le (Nat.le_refl _) (by omega)) q9)
      refine j_iconst X (v := -1) dX8_sheetAtPlace_31 (by decide) ?_
      exact j_iret X dX8_sheetAtPlace_32 rfl rfl ⟨by rw [e]; rfl, rfl, rfl, rfl⟩
    · intro k hk ih e
      have hk8 : k < 8 := by omega
      have Q6 := B6 k hk8
      have oS := k4 k hk8
      refine j_iload_n X (i := 2) dX8_sheetAtPlace_2 rfl rfl ?_
      refine j_aload_n X (i := 0) dX8_sheetAtPlace_3 rfl rfl ?_
      refine jFd.get X fd_X8_31 B1 rfl dX8_sheetAtPlace_4 ?_
      rw [v2]
      refine j_icmp_ge X (tgt := 31) dX8_sheetAtPlace_7 (by decide) (fun q9 => absurd q9 (nI_ge hk (by omega))) (fun _ => ?_)
      refine j_aload_n X (i := 0) dX8_sheetAtPlace_10 rfl rfl ?_
      refine jFd.get X fd_X8_19 B1 rfl dX8_sheetAtPlace_11 ?_
      refine j_iload_n X (i := 2) dX8_sheetAtPlace_14 rfl rfl ?_
      refine j_aald X B3 (by decide) rfl hk8 (by decide) rfl dX8_sheetAtPlace_15 ?_
      refine jFd.get X fd_X8_117 Q6.1 rfl dX8_sheetAtPlace_16 ?_
      rw [(v6 k hk8).2.2.1]
      refine j_iload_n X (i := 1) dX8_sheetAtPlace_19 rfl rfl ?_
      rw [show ns V - k = (ns V - (k + 1)) + 1 by omega] at e
      unfold rkG at e
      rw [← iN_nI a]
      have hiff := iN_eq (a := (sh V k).1.2.2) (b := (a : Int)) (by have := oS.2.1; omega) (by have := oS.2.2; omega) (by omega) (by omega)
      by_cases h : (sh V k).1.2.2 = (a : Int)
      · rw [if_pos h] at e
        refine j_icmp_ne X (tgt := 25) dX8_sheetAtPlace_20 (by decide) (fun q9 => absurd (hiff.mpr h) q9) (fun _ => ?_)
        refine j_iload_n X (i := 2) dX8_sheetAtPlace_23 rfl rfl ?_
        exact j_iret X dX8_sheetAtPlace_24 rfl rfl ⟨by rw [e]; exact congrArg (fun w => some (Value.int w)) (iN_nI _).symm, rfl, rfl, rfl⟩
      · rw [if_neg h] at e
        rw [← iN_nI a] at ih
        refine j_icmp_ne X (tgt := 25) dX8_sheetAtPlace_20 (by decide) (fun _ => ?_) (fun q9 => absurd q9 ((fun z => h (hiff.mp z))))
        refine j_iinc X (i := 2) (v := (nI (k + 1))) dX8_sheetAtPlace_25 rfl (nI_1 k) (by decide) rfl ?_
        refine j_goto X (tgt := 2) dX8_sheetAtPlace_28 (by decide) ?_
        exact ih e
  refine j_iconst X (v := (nI 0)) dX8_sheetAtPlace_0 (by decide) ?_
  refine j_istore_n X (i := 2) dX8_sheetAtPlace_1 rfl (by decide) rfl ?_
  exact key 0 (Nat.zero_le _) rfl

theorem place_mem {t : jT} {b : Nat} {V : SV} (hV : RcV t b V) {j : Nat} (hj : j < 8) (a : Int) : RcV (jU t ((b + 16 + 3 * j)) 4 (iN a)) b (upS V j (tvP (sh V j) a)) := by
  obtain ⟨p1, p2, p3, p4, p5⟩ := hV.2.2.2.2.2 j hj
  refine hV.upS hj ⟨?_, ?_, ?_, ?_, ?_⟩ (fun c _ _ h _ _ => jU_ne _ _ _ h)
  · rw [jU_eq]; exact p1
  · rw [jU_eq]; exact p2
  · rw [jU_eq]; rfl
  · rw [jU_ne _ _ _ (by omega)]; exact p4
  · rw [jU_ne _ _ _ (by omega)]; exact p5
theorem s_rackSheet {l : Launch} {g : jG} (hok : jOk g) (hst : l.stackTraces = false) {z : Option Nat} {sk : jS} {t : jT} {b : Nat} {V : SV} (hB : isShop g sk b) (hV : RcV t b V) (hk : okV V) {r : Nat} (hR : sk r = some jRef) (hr1 : r < b ∨ b + 40 ≤ r) {f : RF} (hRR : RcR t r f) (o : Int32) : jMet l g mX8_rackSheet 3 0 0 [.ref (jb g + b), .int o, .ref (jb g + r)] z sk t (fun v2 z2 sk2 t2 => v2 = some (.int (iN (vRack V f o).1)) ∧ z = z2 ∧ sk = sk2 ∧ RcV t2 b (vRack V f o).2.1 ∧ RcR t2 r (vRack V f o).2.2 ∧ (∀ c, (c < b ∨ b + 40 ≤ c) → c ≠ r → t2 c = t c)) := by
  refine j_body (lv := [some (.ref (jb g + b)), some (.int o), some (.ref (jb g + r)), none]) i_X8_rackSheet hok hst (fun p e s m args below meth c X => ?_)
  obtain ⟨B1, B2, B3, B4, B5, B6⟩ := id hB
  obtain ⟨v1, v2, v3, v4, v5, v6⟩ := id hV
  obtain ⟨k1, k2, k3, k4, k5, k6, k7, k8⟩ := id hk
  refine j_aload_n X (i := 0) dX8_rackSheet_0 rfl rfl ?_
  refine j_iload_n X (i := 1) dX8_rackSheet_1 rfl rfl ?_
  refine j_callV X (s_isSheet hok hst o B1 v2 (by omega)) i_X8_isSheet tw_4_68 tw_4_69 tw_4_70 B1 rfl dX8_rackSheet_2 ?_ 
  cases ho : pIx (ns V) o with
  | false =>
    have ev : vRack V f o = (-1, V, f) := by unfold vRack; rw [if_pos ho]
    refine j_if_ne X (tgt := 10) dX8_rackSheet_5 (by decide) (fun q9 => absurd (rfl) q9) (fun _ => ?_)
    refine j_iconst X (v := -1) dX8_rackSheet_8 (by decide) ?_
    exact j_iret X dX8_rackSheet_9 rfl rfl ⟨by rw [ev]; rfl, rfl, rfl, by rw [ev]; exact hV, by rw [ev]; exact hRR, fun _ _ _ => rfl⟩
  | true =>
    refine j_if_ne X (tgt := 10) dX8_rackSheet_5 (by decide) (fun _ => ?_) (fun q9 => absurd q9 (by decide))
    obtain ⟨j, hj1, rfl, hjn⟩ := pIx_of (by omega) ho
    have hj8 : j < 8 := by omega
    have Q6 := B6 j hj8
    have oS := k4 j hj8
    have w6 := v6 j hj8
    have ev0 : vRack V f (nI j) = if 0 ≤ (sh V j).1.2.2 then (-3, V, f) else
          if frV V < 3 then ((frV V : Int), upS V j (tvP (sh V j) (frV V)), f) else (-5, V, some (3, 3)) := by
      unfold vRack
      rw [if_neg (by rw [ho]; decide), sAt_nI hjn, hjn]
    refine j_aload_n X (i := 0) dX8_rackSheet_10 rfl rfl ?_
    refine jFd.get X fd_X8_19 B1 rfl dX8_rackSheet_11 ?_
    refine j_iload_n X (i := 1) dX8_rackSheet_14 rfl rfl ?_
    refine j_aald X B3 (by decide) rfl hj8 (by decide) rfl dX8_rackSheet_15 ?_
    refine j_callV X (s_isInRack hok hst Q6.1 w6.2.2.1 oS.2.1 oS.2.2) i_X7_isInRack tw_4_72 tw_2_144 tw_2_145 Q6.1 rfl dX8_rackSheet_16 ?_ 
    by_cases h0 : 0 ≤ (sh V j).1.2.2
    · have ev := ev0
      rw [if_pos h0] at ev
      rw [decide_eq_true h0]
      refine j_if_eq X (tgt := 25) dX8_rackSheet_19 (by decide) (fun q9 => absurd q9 (by decide)) (fun _ => ?_)
      refine j_bipush X (v := -3) dX8_rackSheet_22 (by decide) ?_
      exact j_iret X dX8_rackSheet_24 rfl rfl ⟨by rw [ev]; rfl, rfl, rfl, by rw [ev]; exact hV, by rw [ev]; exact hRR, fun _ _ _ => rfl⟩
    · rw [if_neg h0] at ev0
      rw [decide_eq_false h0]
      have key : ∀ k, k ≤ 3 → frV V = frG V (3 - k) k → J p l e (jR 3 0 0) s m args below meth c (jQm below args s g 0 0 (fun v2 z2 sk2 t2 => v2 = some (.int (iN (vRack V f (nI j)).1)) ∧ z = z2 ∧ sk = sk2 ∧ RcV t2 b (vRack V f (nI j)).2.1 ∧ RcR t2 r (vRack V f (nI j)).2.2 ∧ (∀ c, (c < b ∨ b + 40 ≤ c) → c ≠ r → t2 c = t c))) 4 g 0 0 z sk t 27 [some (.ref (jb g + b)), some (.int (nI j)), some (.ref (jb g + r)), some (.int (nI k))] [] := by
        refine up_loop ?_ ?_
        · intro e
          have e3 : frV V = 3 := e
          have ev := ev0
          rw [if_neg (by omega)] at ev
          refine j_iload_n X (i := 3) dX8_rackSheet_27 rfl rfl ?_
          refine j_iconst X (v := (nI 3)) dX8_rackSheet_28 (by decide) ?_
          refine j_icmp_ge X (tgt := 59) dX8_rackSheet_29 (by decide) (fun _ => ?_) (fun q9 => absurd (nI_le (Nat.le_refl _) (by decide)) q9)
          refine j_aload_n X (i := 2) dX8_rackSheet_59 rfl rfl ?_
          refine j_iconst X (v := (nI 3)) dX8_rackSheet_60 (by decide) ?_
          refine j_iconst X (v := (nI 3)) dX8_rackSheet_61 (by decide) ?_
          refine j_callV X (s_refKeep hok hst hR _ _) i_X6_keep tw_4_73 tw_4_74 tw_4_75 hR rfl dX8_rackSheet_62 ?_ 
          exact j_iret X dX8_rackSheet_65 rfl rfl ⟨by rw [ev], rfl, rfl, by rw [ev]; exact hV.cong (fun c _ _ => by rw [jU_ne _ _ _ (by omega), jU_ne _ _ _ (by omega)]), by rw [ev]; exact ⟨by rw [jU_eq, jU_eq]; rfl, by rw [jU_eq]; rfl, by decide, by decide⟩, fun c _ hc => by rw [jU_ne _ _ _ hc, jU_ne _ _ _ hc]⟩
        · intro k hk ih e
          refine j_iload_n X (i := 3) dX8_rackSheet_27 rfl rfl ?_
          refine j_iconst X (v := (nI 3)) dX8_rackSheet_28 (by decide) ?_
          refine j_icmp_ge X (tgt := 59) dX8_rackSheet_29 (by decide) (fun q9 => absurd q9 (nI_ge hk (by decide))) (fun _ => ?_)
          refine j_aload_n X (i := 0) dX8_rackSheet_32 rfl rfl ?_
          refine j_iload_n X (i := 3) dX8_rackSheet_33 rfl rfl ?_
          refine j_callV X (s_sheetAtPlace hok hst hB hV (by assumption) k hk) i_X8_sheetAtPlace tw_4_186 tw_4_187 tw_4_188 B1 rfl dX8_rackSheet_34 ?_ 
          refine j_iconst X (v := -1) dX8_rackSheet_37 (by decide) ?_
          rw [show 3 - k = (3 - (k + 1)) + 1 by omega] at e
          unfold frG at e
          have hge := rkG_ge (sh V) (k : Int) (ns V) 0
          have hiff := iN_eq (a := rkV V (k : Int)) (b := -1) (by unfold rkV; omega) (by unfold rkV; omega) (by decide) (by decide)
          by_cases h : rkV V (k : Int) = -1
          · rw [if_pos h] at e
            have ev := ev0
            rw [if_pos (by omega), e] at ev
            have hm := place_mem hV hj8 (k : Int)
            have hfr : ∀ c, c ≠ (b + 16 + 3 * j) → jU t ((b + 16 + 3 * j)) 4 (iN (k : Int)) c = t c := fun c hc => jU_ne _ _ _ hc
            rw [iN_nI] at hm hfr
            refine j_icmp_ne X (tgt := 53) dX8_rackSheet_38 (by decide) (fun q9 => absurd (hiff.mpr h) q9) (fun _ => ?_)
            refine j_aload_n X (i := 0) dX8_rackSheet_41 rfl rfl ?_
            refine jFd.get X fd_X8_19 B1 rfl dX8_rackSheet_42 ?_
            refine j_iload_n X (i := 1) dX8_rackSheet_45 rfl rfl ?_
            refine j_aald X B3 (by decide) rfl hj8 (by decide) rfl dX8_rackSheet_46 ?_
            refine j_iload_n X (i := 3) dX8_rackSheet_47 rfl rfl ?_
            refine jFd.put X fd_X8_117 Q6.1 rfl rfl rfl rfl dX8_rackSheet_48 ?_
            refine j_iload_n X (i := 3) dX8_rackSheet_51 rfl rfl ?_
            exact j_iret X dX8_rackSheet_52 rfl rfl ⟨by rw [ev]; exact congrArg (fun w => some (Value.int w)) (iN_nI _).symm, rfl, rfl, by rw [ev]; exact hm, by rw [ev]; exact hRR.cong (hfr _ (by omega)), fun c hc _ => hfr _ (by omega)⟩
          · rw [if_neg h] at e
            refine j_icmp_ne X (tgt := 53) dX8_rackSheet_38 (by decide) (fun _ => ?_) (fun q9 => absurd q9 ((fun z => h (hiff.mp z))))
            refine j_iinc X (i := 3) (v := (nI (k + 1))) dX8_rackSheet_53 rfl (nI_1 k) (by decide) rfl ?_
            refine j_goto X (tgt := 27) dX8_rackSheet_56 (by decide) ?_
            exact ih e
      refine j_if_eq X (tgt := 25) dX8_rackSheet_19 (by decide) (fun _ => ?_) (fun q9 => absurd (rfl) q9)
      refine j_iconst X (v := (nI 0)) dX8_rackSheet_25 (by decide) ?_
      refine j_istore_n X (i := 3) dX8_rackSheet_26 rfl (by decide) rfl ?_
      exact key 0 (Nat.zero_le _) rfl

theorem s_unrackSheet {l : Launch} {g : jG} (hok : jOk g) (hst : l.stackTraces = false) {z : Option Nat} {sk : jS} {t : jT} {b : Nat} {V : SV} (hB : isShop g sk b) (hV : RcV t b V) (hk : okV V) (o : Int32) : jMet l g mX8_unrackSheet 2 0 0 [.ref (jb g + b), .int o] z sk t (fun v2 z2 sk2 t2 => v2 = some (.int (iN (vUnrack V o).1)) ∧ z = z2 ∧ sk = sk2 ∧ RcV t2 b (vUnrack V o).2 ∧ (∀ c, (c < b ∨ b + 40 ≤ c) → t2 c = t c)) := by
  refine j_body (lv := [some (.ref (jb g + b)), some (.int o), none]) i_X8_unrackSheet hok hst (fun p e s m args below meth c X => ?_)
  obtain ⟨B1, B2, B3, B4, B5, B6⟩ := id hB
  obtain ⟨v1, v2, v3, v4, v5, v6⟩ := id hV
  obtain ⟨k1, k2, k3, k4, k5, k6, k7, k8⟩ := id hk
  refine j_aload_n X (i := 0) dX8_unrackSheet_0 rfl rfl ?_
  refine j_iload_n X (i := 1) dX8_unrackSheet_1 rfl rfl ?_
  refine j_callV X (s_isSheet hok hst o B1 v2 (by omega)) i_X8_isSheet tw_4_68 tw_4_69 tw_4_70 B1 rfl dX8_unrackSheet_2 ?_ 
  cases ho : pIx (ns V) o with
  | false =>
    have ev : vUnrack V o = (-1, V) := by unfold vUnrack; rw [if_pos ho]
    refine j_if_ne X (tgt := 10) dX8_unrackSheet_5 (by decide) (fun q9 => absurd (rfl) q9) (fun _ => ?_)
    refine j_iconst X (v := -1) dX8_unrackSheet_8 (by decide) ?_
    exact j_iret X dX8_unrackSheet_9 rfl rfl ⟨by rw [ev]; rfl, rfl, rfl, by rw [ev]; exact hV, fun _ _ => rfl⟩
  | true =>
    refine j_if_ne X (tgt := 10) dX8_unrackSheet_5 (by decide) (fun _ => ?_) (fun q9 => absurd q9 (by decide))
    obtain ⟨j, hj1, rfl, hjn⟩ := pIx_of (by omega) ho
    have hj8 : j < 8 := by omega
    have Q6 := B6 j hj8
    have oS := k4 j hj8
    have w6 := v6 j hj8
    have ev0 : vUnrack V (nI j) = if (sh V j).1.2.2 < 0 then (-3, V) else ((sh V j).1.2.2, upS V j (tvP (sh V j) (-1))) := by
      unfold vUnrack
      rw [if_neg (by rw [ho]; decide), sAt_nI hjn, hjn]
    refine j_aload_n X (i := 0) dX8_unrackSheet_10 rfl rfl ?_
    refine jFd.get X fd_X8_19 B1 rfl dX8_unrackSheet_11 ?_
    refine j_iload_n X (i := 1) dX8_unrackSheet_14 rfl rfl ?_
    refine j_aald X B3 (by decide) rfl hj8 (by decide) rfl dX8_unrackSheet_15 ?_
    refine j_callV X (s_isInRack hok hst Q6.1 w6.2.2.1 oS.2.1 oS.2.2) i_X7_isInRack tw_4_72 tw_2_144 tw_2_145 Q6.1 rfl dX8_unrackSheet_16 ?_ 
    by_cases h0 : 0 ≤ (sh V j).1.2.2
    · have ev := ev0
      rw [if_neg (by omega)] at ev
      rw [decide_eq_true h0]
      refine j_if_ne X (tgt := 25) dX8_unrackSheet_19 (by decide) (fun _ => ?_) (fun q9 => absurd q9 (by decide))
      refine j_aload_n X (i := 0) dX8_unrackSheet_25 rfl rfl ?_
      refine jFd.get X fd_X8_19 B1 rfl dX8_unrackSheet_26 ?_
      refine j_iload_n X (i := 1) dX8_unrackSheet_29 rfl rfl ?_
      refine j_aald X B3 (by decide) rfl hj8 (by decide) rfl dX8_unrackSheet_30 ?_
      refine jFd.get X fd_X8_117 Q6.1 rfl dX8_unrackSheet_31 ?_
      rw [w6.2.2.1]
      have hm := place_mem hV hj8 (-1)
      refine j_istore_n X (i := 2) dX8_unrackSheet_34 rfl (by decide) rfl ?_
      refine j_aload_n X (i := 0) dX8_unrackSheet_35 rfl rfl ?_
      refine jFd.get X fd_X8_19 B1 rfl dX8_unrackSheet_36 ?_
      refine j_iload_n X (i := 1) dX8_unrackSheet_39 rfl rfl ?_
      refine j_aald X B3 (by decide) rfl hj8 (by decide) rfl dX8_unrackSheet_40 ?_
      refine j_iconst X (v := -1) dX8_unrackSheet_41 (by decide) ?_
      refine jFd.put X fd_X8_117 Q6.1 rfl rfl rfl rfl dX8_unrackSheet_42 ?_
      refine j_iload_n X (i := 2) dX8_unrackSheet_45 rfl rfl ?_
      exact j_iret X dX8_unrackSheet_46 rfl rfl ⟨by rw [ev], rfl, rfl, by rw [ev]; exact hm, fun c hc => jU_ne _ _ _ (by omega)⟩
    · have ev := ev0
      rw [if_pos (by omega)] at ev
      rw [decide_eq_false h0]
      refine j_if_ne X (tgt := 25) dX8_unrackSheet_19 (by decide) (fun q9 => absurd (rfl) q9) (fun _ => ?_)
      refine j_bipush X (v := -3) dX8_unrackSheet_22 (by decide) ?_
      exact j_iret X dX8_unrackSheet_24 rfl rfl ⟨by rw [ev]; rfl, rfl, rfl, by rw [ev]; exact hV, fun _ _ => rfl⟩

theorem s_refill {l : Launch} {g : jG} (hok : jOk g) (hst : l.stackTraces = false) {z : Option Nat} {sk : jS} {t : jT} {b : Nat} {V : SV} (hB : isShop g sk b) (hV : RcV t b V) (hk : okV V) (x y : Int32) : jMet l g mX8_refill 2 0 0 [.ref (jb g + b), .int x, .int y] z sk t (fun v2 z2 sk2 t2 => v2 = some (.int (iN (vRefill V x y).1)) ∧ z = z2 ∧ sk = sk2 ∧ RcV t2 b (vRefill V x y).2 ∧ (∀ c, (c < b ∨ b + 40 ≤ c) → t2 c = t c)) := by
  refine j_body (lv := [some (.ref (jb g + b)), some (.int x), some (.int y), none]) i_X8_refill hok hst (fun p e s m args below meth c X => ?_)
  obtain ⟨B1, B2, B3, B4, B5, B6⟩ := id hB
  obtain ⟨v1, v2, v3, v4, v5, v6⟩ := id hV
  obtain ⟨k1, k2, k3, k4, k5, k6, k7, k8⟩ := id hk
  have no : (isIk x = false ∨ y.toInt < 1 ∨ 99 < y.toInt) → J p l e (jR 2 0 0) s m args below meth c (jQm below args s g 0 0 (fun v2 z2 sk2 t2 => v2 = some (.int (iN (vRefill V x y).1)) ∧ z = z2 ∧ sk = sk2 ∧ RcV t2 b (vRefill V x y).2 ∧ (∀ c, (c < b ∨ b + 40 ≤ c) → t2 c = t c))) 4 g 0 0 z sk t 18 [some (.ref (jb g + b)), some (.int x), some (.int y), none] [] := fun hn => by
    have ev : vRefill V x y = (-2, V) := by unfold vRefill; rw [if_pos hn]
    refine j_bipush X (v := -2) dX8_refill_18 (by decide) ?_
    exact j_iret X dX8_refill_20 rfl rfl ⟨by rw [ev]; rfl, rfl, rfl, by rw [ev]; exact hV, fun _ _ => rfl⟩
  refine j_iload_n X (i := 1) dX8_refill_0 rfl rfl ?_
  refine j_callSN X (s_isInk hok hst x) i_X9_isInk tw_2_202 tw_2_203 dX8_refill_1 ?_ 
  cases hq : isIk x with
  | false =>
    refine j_if_eq X (tgt := 18) dX8_refill_4 (by decide) (fun _ => ?_) (fun q9 => absurd (rfl) q9)
    exact no (Or.inl hq)
  | true =>
    refine j_if_eq X (tgt := 18) dX8_refill_4 (by decide) (fun q9 => absurd q9 (by decide)) (fun _ => ?_)
    refine j_iload_n X (i := 2) dX8_refill_7 rfl rfl ?_
    refine j_iconst X (v := (nI 1)) dX8_refill_8 (by decide) ?_
    refine j_icmp_lt X (tgt := 18) dX8_refill_9 (by decide) (fun h9 => ?_) (fun h9 => ?_)
    · rw [i_lt (by decide)] at h9
      exact no (Or.inr (Or.inl h9))
    rw [i_lt (by decide)] at h9
    refine j_iload_n X (i := 2) dX8_refill_12 rfl rfl ?_
    refine j_bipush X (v := (nI 99)) dX8_refill_13 (by decide) ?_
    refine j_icmp_le X (tgt := 21) dX8_refill_15 (by decide) (fun h15 => ?_) (fun h15 => ?_)
    rotate_left
    · rw [i_ge (by decide)] at h15
      exact no (Or.inr (Or.inr (by omega)))
    rw [i_ge (by decide)] at h15
    obtain ⟨m, hm, rfl, hmn⟩ := isIk_of hq
    obtain ⟨n, hn, rfl⟩ : ∃ n : Nat, n < 100 ∧ y = nI n := ⟨y.toInt.toNat, by omega, by rw [← Int32.toInt_inj, nI_toInt (by omega)]; omega⟩
    rw [nI_toInt (by omega)] at h9 h15
    have hm2 : m / 2 < 3 := by omega
    have hdr := k5 _ hm2
    have ev0 : vRefill V (nI m) (nI n) = if 500 < dr V (m / 2) + n then (-3, V) else (((dr V (m / 2) + n : Nat) : Int), upD V (m / 2) (dr V (m / 2) + n)) := by
      unfold vRefill
      rw [nI_toInt (by omega), if_neg (by rw [hq]; intro z; rcases z with z | z | z; exact absurd z (by decide); omega; omega), hmn]
      rfl
    refine j_aload_n X (i := 0) dX8_refill_21 rfl rfl ?_
    refine jFd.get X fd_X8_23 B1 rfl dX8_refill_22 ?_
    refine j_iload_n X (i := 1) dX8_refill_25 rfl rfl ?_
    refine j_callSN X (s_inkIndex hok hst m (by omega)) i_X9_inkIndex tw_4_77 tw_4_78 dX8_refill_26 ?_ 
    refine j_iald X B4 rfl hm2 (by decide) dX8_refill_29 ?_
    rw [v4 _ hm2]
    refine j_iload_n X (i := 2) dX8_refill_30 rfl rfl ?_
    refine j_iadd X dX8_refill_31 ?_
    rw [nI_add]
    refine j_istore_n X (i := 3) dX8_refill_32 rfl (by decide) rfl ?_
    refine j_iload_n X (i := 3) dX8_refill_33 rfl rfl ?_
    refine j_sipush X (v := (nI 500)) dX8_refill_34 (by decide) ?_
    by_cases h5 : 500 < dr V (m / 2) + n
    · have ev := ev0
      rw [if_pos h5] at ev
      refine j_icmp_le X (tgt := 43) dX8_refill_37 (by decide) (fun q9 => absurd q9 (nI_ge h5 (by omega))) (fun _ => ?_)
      refine j_bipush X (v := -3) dX8_refill_40 (by decide) ?_
      exact j_iret X dX8_refill_42 rfl rfl ⟨by rw [ev]; rfl, rfl, rfl, by rw [ev]; exact hV, fun _ _ => rfl⟩
    · have ev := ev0
      rw [if_neg h5] at ev
      refine j_icmp_le X (tgt := 43) dX8_refill_37 (by decide) (fun _ => ?_) (fun q9 => absurd (nI_le (Nat.le_of_not_lt h5) (by decide)) q9)
      refine j_aload_n X (i := 0) dX8_refill_43 rfl rfl ?_
      refine jFd.get X fd_X8_23 B1 rfl dX8_refill_44 ?_
      refine j_iload_n X (i := 1) dX8_refill_47 rfl rfl ?_
      refine j_callSN X (s_inkIndex hok hst m (by omega)) i_X9_inkIndex tw_4_77 tw_4_78 dX8_refill_48 ?_ 
      refine j_iload_n X (i := 3) dX8_refill_51 rfl rfl ?_
      refine j_iast X B4 rfl hm2 (by decide) dX8_refill_52 ?_
      refine j_iload_n X (i := 3) dX8_refill_53 rfl rfl ?_
      exact j_iret X dX8_refill_54 rfl rfl ⟨by rw [ev]; exact congrArg (fun w => some (Value.int w)) (iN_nI _).symm, rfl, rfl, by rw [ev]; exact hV.upD (jU_eq _ _ _ _) (fun c _ _ hc => jU_ne _ _ _ hc), fun c hc => jU_ne _ _ _ (by omega)⟩

theorem hrV_0 (V : SV) (h : Nat) : hrV V h 0 = V := by
  unfold hrV
  rw [show (fun j => if j < 0 then hrS (sh V j) (hr V) h else sh V j) = sh V from funext fun j => if_neg (Nat.not_lt_zero j)]
theorem hrV_succ (V : SV) (h k : Nat) : upS (hrV V h k) k (hrS (sh V k) (hr V) h) = hrV V h (k + 1) := by
  unfold upS hrV
  refine congrArg (fun x => (V.1, dr V, pl V, x)) (funext fun j => ?_)
  show (if j = k then _ else if j < k then _ else _) = (if j < k + 1 then _ else _)
  by_cases e : j = k
  · subst e; rw [if_pos rfl, if_pos (by omega)]
  · rw [if_neg e]
    by_cases e2 : j < k
    · rw [if_pos e2, if_pos (by omega)]
    · rw [if_neg e2, if_neg (by omega)]
theorem dryS_0 (a : Int) (h : Nat) : dryS a h 0 = 0 := by
  unfold dryS
  split
  · rfl
  · omega
theorem s_letHoursPass {l : Launch} {g : jG} (hok : jOk g) (hst : l.stackTraces = false) {z : Option Nat} {sk : jS} {t : jT} {b : Nat} {V : SV} (hB : isShop g sk b) (hV : RcV t b V) (hk : okV V) (x : Int32) : jMet l g mX8_letHoursPass 4 0 0 [.ref (jb g + b), .int x] z sk t (fun v2 z2 sk2 t2 => v2 = some (.int (iN (vHours V x).1)) ∧ z = z2 ∧ sk = sk2 ∧ RcV t2 b (vHours V x).2 ∧ (∀ c, (c < b ∨ b + 40 ≤ c) → t2 c = t c)) := by
  refine j_body (lv := [some (.ref (jb g + b)), some (.int x), none, none, none, none, none]) i_X8_letHoursPass hok hst (fun p e s m args below meth c X => ?_)
  obtain ⟨B1, B2, B3, B4, B5, B6⟩ := id hB
  obtain ⟨v1, v2, v3, v4, v5, v6⟩ := id hV
  obtain ⟨k1, k2, k3, k4, k5, k6, k7, k8⟩ := id hk
  have no : (x.toInt < 1 ∨ 50 < x.toInt) → J p l e (jR 4 0 0) s m args below meth c (jQm below args s g 0 0 (fun v2 z2 sk2 t2 => v2 = some (.int (iN (vHours V x).1)) ∧ z = z2 ∧ sk = sk2 ∧ RcV t2 b (vHours V x).2 ∧ (∀ c, (c < b ∨ b + 40 ≤ c) → t2 c = t c))) 7 g 0 0 z sk  t 11 [some (.ref (jb g + b)), some (.int x), none, none, none, none, none] [] := fun hn => by
    have ev : vHours V x = (-2, V) := by unfold vHours; rw [if_pos hn]
    refine j_bipush X (v := -2) dX8_letHoursPass_11 (by decide) ?_
    exact j_iret X dX8_letHoursPass_13 rfl rfl ⟨by rw [ev]; rfl, rfl, rfl, by rw [ev]; exact hV, fun _ _ => rfl⟩
  refine j_iload_n X (i := 1) dX8_letHoursPass_0 rfl rfl ?_
  refine j_iconst X (v := (nI 1)) dX8_letHoursPass_1 (by decide) ?_
  refine j_icmp_lt X (tgt := 11) dX8_letHoursPass_2 (by decide) (fun h2 => ?_) (fun h2 => ?_)
  · rw [i_lt (by decide)] at h2
    exact no (Or.inl h2)
  rw [i_lt (by decide)] at h2
  refine j_iload_n X (i := 1) dX8_letHoursPass_5 rfl rfl ?_
  refine j_bipush X (v := (nI 50)) dX8_letHoursPass_6 (by decide) ?_
  refine j_icmp_le X (tgt := 14) dX8_letHoursPass_8 (by decide) (fun h8 => ?_) (fun h8 => ?_)
  rotate_left
  · rw [i_ge (by decide)] at h8
    exact no (Or.inr (by omega))
  rw [i_ge (by decide)] at h8
  clear no
  obtain ⟨h, hh, rfl⟩ : ∃ n : Nat, n < 100 ∧ x = nI n := ⟨x.toInt.toNat, by omega, by rw [← Int32.toInt_inj, nI_toInt (by omega)]; omega⟩
  rw [nI_toInt (by omega)] at h2 h8
  have ev : vHours V (nI h) = ((fb_ct (drB V h) (ns V) : Int), ((np V, ns V, hr V + h), dr V, pl V, (hrV V h (ns V)).2.2.2)) := by
    unfold vHours
    rw [nI_toInt (by omega), if_neg (by omega)]
    rfl
  have key : ∀ k, k ≤ ns V → ∀ tk, RcV tk b (hrV V h k) → (∀ c, (c < b ∨ b + 40 ≤ c) → tk c = t c) → J p l e (jR 4 0 0) s m args below meth c (jQm below args s g 0 0 (fun v2 z2 sk2 t2 => v2 = some (.int (iN (vHours V (nI h)).1)) ∧ z = z2 ∧ sk = sk2 ∧ RcV t2 b (vHours V (nI h)).2 ∧ (∀ c, (c < b ∨ b + 40 ≤ c) → t2 c = t c))) 7 g 0 0 z sk  tk 18 [some (.ref (jb g + b)), some (.int (nI h)), some (.int (nI (fb_ct (drB V h) k))), some (.int (nI k)), none, none, none] [] := by
    refine up_loop ?_ ?_
    · intro tk hVk hfk
      obtain ⟨u1, u2, u3, u4, u5, u6⟩ := id hVk
      have u2 : tk b 4 = nI (ns V) := u2
      have u3 : tk b 5 = nI (hr V) := u3
      refine j_iload_n X (i := 3) dX8_letHoursPass_18 rfl rfl ?_
      refine j_aload_n X (i := 0) dX8_letHoursPass_19 rfl rfl ?_
      refine jFd.get X fd_X8_31 B1 rfl dX8_letHoursPass_20 ?_
      rw [u2]
      refine j_icmp_ge X (tgt := 90) dX8_letHoursPass_23 (by decide) (fun _ => ?_) (fun q9 => absurd (nI_le (Nat.le_refl _) (by omega)) q9)
      refine j_aload_n X (i := 0) dX8_letHoursPass_90 rfl rfl ?_
      refine j_dup X dX8_letHoursPass_91 rfl ?_
      refine jFd.get X fd_X8_34 B1 rfl dX8_letHoursPass_92 ?_
      refine j_iload_n X (i := 1) dX8_letHoursPass_95 rfl rfl ?_
      rw [u3]
      refine j_iadd X dX8_letHoursPass_96 ?_
      rw [nI_add]
      refine jFd.put X fd_X8_34 B1 rfl rfl rfl rfl dX8_letHoursPass_97 ?_
      refine j_iload_n X (i := 2) dX8_letHoursPass_100 rfl rfl ?_
      refine j_iret X dX8_letHoursPass_101 rfl rfl ⟨by rw [ev]; exact congrArg (fun w => some (Value.int w)) (iN_nI _).symm, rfl, rfl, ?_, fun c hc => (jU_ne _ _ _ (by omega)).trans (hfk c hc)⟩
      rw [ev]
      exact hVk.upB (a := np V) (c2 := ns V) (d := hr V + h) (by rw [jU_eq]; exact u1) (by rw [jU_eq]; exact u2) (by rw [jU_eq]; rfl) (fun c h _ => jU_ne _ _ _ (by omega))
    · intro k hk ih tk hVk hfk
      obtain ⟨u1, u2, u3, u4, u5, u6⟩ := id hVk
      have u2 : tk b 4 = nI (ns V) := u2
      have u3 : tk b 5 = nI (hr V) := u3
      have hk8 : k < 8 := by omega
      have Q6 := B6 k hk8
      have oS := k4 k hk8
      obtain ⟨w1, w2, w3, w4, w5⟩ : RcS tk ((b + 16 + 3 * k)) ((b + 16 + 3 * k) + 1) ((b + 16 + 3 * k) + 2) (sh V k) := by
        have := u6 k hk8
        rwa [show sh (hrV V h k) k = sh V k from if_neg (Nat.lt_irrefl k)] at this
      obtain ⟨w, hw⟩ : ∃ w, w = (sh V k).1.1 := ⟨_, rfl⟩
      obtain ⟨a, ha⟩ : ∃ a, a = (sh V k).1.2.2 := ⟨_, rfl⟩
      have a1 := oS.2.1
      have a2 := oS.2.2
      have hw5 := oS.1
      rw [← hw] at w1 hw5
      rw [← ha] at w3 a1 a2
      refine j_iload_n X (i := 3) dX8_letHoursPass_18 rfl rfl ?_
      refine j_aload_n X (i := 0) dX8_letHoursPass_19 rfl rfl ?_
      refine jFd.get X fd_X8_31 B1 rfl dX8_letHoursPass_20 ?_
      rw [u2]
      refine j_icmp_ge X (tgt := 90) dX8_letHoursPass_23 (by decide) (fun q9 => absurd q9 (nI_ge hk (by omega))) (fun _ => ?_)
      refine j_aload_n X (i := 0) dX8_letHoursPass_26 rfl rfl ?_
      refine jFd.get X fd_X8_19 B1 rfl dX8_letHoursPass_27 ?_
      refine j_iload_n X (i := 3) dX8_letHoursPass_30 rfl rfl ?_
      refine j_aald X B3 (by decide) rfl hk8 (by decide) rfl dX8_letHoursPass_31 ?_
      refine j_astore X (i := 4) dX8_letHoursPass_32 (by decide) rfl ?_
      refine j_aload X (i := 4) dX8_letHoursPass_34 rfl ?_
      refine j_callV X (s_isWet hok hst Q6.1 w1 (by omega)) i_X7_isWet tw_5_12 tw_2_152 tw_2_153 Q6.1 rfl dX8_letHoursPass_36 ?_ 
      refine j_istore X (i := 5) dX8_letHoursPass_39 (by decide) rfl ?_
      refine j_iconst X (v := (nI 0)) dX8_letHoursPass_41 (by decide) ?_
      refine j_istore X (i := 6) dX8_letHoursPass_42 (by decide) rfl ?_
      have inner : ∀ j, j ≤ h → J p l e (jR 4 0 0) s m args below meth c (jQm below args s g 0 0 (fun v2 z2 sk2 t2 => v2 = some (.int (iN (vHours V (nI h)).1)) ∧ z = z2 ∧ sk = sk2 ∧ RcV t2 b (vHours V (nI h)).2 ∧ (∀ c, (c < b ∨ b + 40 ≤ c) → t2 c = t c))) 7 g 0 0 z sk  (jU tk ((b + 16 + 3 * k)) 2 (nI (w - dryS a (hr V) j))) 44 [some (.ref (jb g + b)), some (.int (nI h)), some (.int (nI (fb_ct (drB V h) k))), some (.int (nI k)), some (.ref (jb g + (b + 16 + 3 * k))), some (.int (nI (decide (0 < w)).toNat)), some (.int (nI j))] [] := by
        refine up_loop ?_ ?_
        · refine j_iload X (i := 6) dX8_letHoursPass_44 rfl ?_
          refine j_iload_n X (i := 1) dX8_letHoursPass_46 rfl rfl ?_
          refine j_icmp_ge X (tgt := 68) dX8_letHoursPass_47 (by decide) (fun _ => ?_) (fun q9 => absurd (nI_le (Nat.le_refl _) (by omega)) q9)
          have hV3 : RcV (jU tk ((b + 16 + 3 * k)) 2 (nI (w - dryS a (hr V) h))) b (hrV V h (k + 1)) := by
            rw [← hrV_succ]
            refine hVk.upS hk8 ⟨?_, ?_, ?_, ?_, ?_⟩ (fun c _ _ h _ _ => jU_ne _ _ _ h)
            · rw [jU_eq, hw, ha]; rfl
            · rw [jU_eq]; exact w2
            · rw [jU_eq]; exact w3.trans (congrArg iN ha)
            · rw [jU_ne _ _ _ (by omega)]; exact w4
            · rw [jU_ne _ _ _ (by omega)]; exact w5
          have hf3 : ∀ c, (c < b ∨ b + 40 ≤ c) → jU tk ((b + 16 + 3 * k)) 2 (nI (w - dryS a (hr V) h)) c = t c := fun c hc => (jU_ne _ _ _ (by omega)).trans (hfk c hc)
          have ih2 := ih _ hV3 hf3
          have hct : fb_ct (drB V h) (k + 1) = fb_ct (drB V h) k + (if 0 < w ∧ w ≤ dryS a (hr V) h then 1 else 0) := by
            rw [fb_ct_succ]
            unfold drB
            rw [← hw, ← ha]
            by_cases z : 0 < w ∧ w ≤ dryS a (hr V) h
            · rw [decide_eq_true z, if_pos z, if_pos rfl]
            · rw [decide_eq_false z, if_neg z]; rfl
          have e3 : jU tk ((b + 16 + 3 * k)) 2 (nI (w - dryS a (hr V) h)) ((b + 16 + 3 * k)) 2 = nI (w - dryS a (hr V) h) := by rw [jU_eq]; rfl
          refine j_iload X (i := 5) dX8_letHoursPass_68 rfl ?_
          by_cases z : 0 < w
          · rw [decide_eq_true z]
            refine j_if_eq X (tgt := 84) dX8_letHoursPass_70 (by decide) (fun q9 => absurd q9 (by decide)) (fun _ => ?_)
            refine j_aload X (i := 4) dX8_letHoursPass_73 rfl ?_
            refine j_callV X (s_isWet hok hst Q6.1 e3 (by omega)) i_X7_isWet tw_5_12 tw_2_152 tw_2_153 Q6.1 rfl dX8_letHoursPass_75 ?_ 
            by_cases z2 : 0 < w - dryS a (hr V) h
            · rw [decide_eq_true z2]
              refine j_if_ne X (tgt := 84) dX8_letHoursPass_78 (by decide) (fun _ => ?_) (fun q9 => absurd q9 (by decide))
              refine j_iinc X (i := 3) (v := (nI (k + 1))) dX8_letHoursPass_84 rfl (nI_1 k) (by decide) rfl ?_
              refine j_goto X (tgt := 18) dX8_letHoursPass_87 (by decide) ?_
              rw [hct, if_neg (by omega)] at ih2
              refine j_drop 4 (j_drop 5 (j_drop 6 ?_))
              exact ih2
            · rw [decide_eq_false z2]
              refine j_if_ne X (tgt := 84) dX8_letHoursPass_78 (by decide) (fun q9 => absurd (rfl) q9) (fun _ => ?_)
              refine j_iinc X (i := 2) (v := (nI (fb_ct (drB V h) k + 1))) dX8_letHoursPass_81 rfl (nI_1 _) (by decide) rfl ?_
              refine j_iinc X (i := 3) (v := (nI (k + 1))) dX8_letHoursPass_84 rfl (nI_1 k) (by decide) rfl ?_
              refine j_goto X (tgt := 18) dX8_letHoursPass_87 (by decide) ?_
              rw [hct, if_pos (by omega)] at ih2
              refine j_drop 4 (j_drop 5 (j_drop 6 ?_))
              exact ih2
          · rw [decide_eq_false z]
            refine j_if_eq X (tgt := 84) dX8_letHoursPass_70 (by decide) (fun _ => ?_) (fun q9 => absurd (rfl) q9)
            refine j_iinc X (i := 3) (v := (nI (k + 1))) dX8_letHoursPass_84 rfl (nI_1 k) (by decide) rfl ?_
            refine j_goto X (tgt := 18) dX8_letHoursPass_87 (by decide) ?_
            rw [hct, if_neg (by omega)] at ih2
            refine j_drop 4 (j_drop 5 (j_drop 6 ?_))
            exact ih2
        · intro j hj ih2
          have e3 : jU tk ((b + 16 + 3 * k)) 2 (nI (w - dryS a (hr V) j)) ((b + 16 + 3 * k)) 2 = nI (w - dryS a (hr V) j) := by rw [jU_eq]; rfl
          have e4 : jU tk ((b + 16 + 3 * k)) 2 (nI (w - dryS a (hr V) j)) ((b + 16 + 3 * k)) 4 = iN a := by rw [jU_eq]; exact w3
          refine j_iload X (i := 6) dX8_letHoursPass_44 rfl ?_
          refine j_iload_n X (i := 1) dX8_letHoursPass_46 rfl rfl ?_
          refine j_icmp_ge X (tgt := 68) dX8_letHoursPass_47 (by decide) (fun q9 => absurd q9 (nI_ge hj (by omega))) (fun _ => ?_)
          refine j_aload X (i := 4) dX8_letHoursPass_50 rfl ?_
          refine j_aload_n X (i := 0) dX8_letHoursPass_52 rfl rfl ?_
          refine jFd.get X fd_X8_34 B1 rfl dX8_letHoursPass_53 ?_
          rw [jU_ne _ _ _ (show b ≠ (b + 16 + 3 * k) by omega), u3]
          refine j_iload X (i := 6) dX8_letHoursPass_56 rfl ?_
          refine j_iadd X dX8_letHoursPass_58 ?_
          rw [nI_add]
          refine j_callV X (s_dryAfter hok hst Q6.1 e3 (by omega) e4 a1 a2 (hr V + j)) i_X7_dryAfter tw_5_13 tw_5_14 tw_5_15 Q6.1 rfl dX8_letHoursPass_59 ?_ 
          rw [jU_jU, show w - dryS a (hr V) j - dryN a (hr V + j) = w - dryS a (hr V) (j + 1) by rw [dryS_succ]; omega]
          refine j_iinc X (i := 6) (v := (nI (j + 1))) dX8_letHoursPass_62 rfl (nI_1 j) (by decide) rfl ?_
          refine j_goto X (tgt := 44) dX8_letHoursPass_65 (by decide) ?_
          exact ih2
      have i0 := inner 0 (Nat.zero_le _)
      rw [dryS_0, Nat.sub_zero, jU_self w1] at i0
      exact i0
  refine j_iconst X (v := (nI 0)) dX8_letHoursPass_14 (by decide) ?_
  refine j_istore_n X (i := 2) dX8_letHoursPass_15 rfl (by decide) rfl ?_
  refine j_iconst X (v := (nI 0)) dX8_letHoursPass_16 (by decide) ?_
  refine j_istore_n X (i := 3) dX8_letHoursPass_17 rfl (by decide) rfl ?_
  exact key 0 (Nat.zero_le _) t (by rw [hrV_0]; exact hV) (fun _ _ => rfl)

