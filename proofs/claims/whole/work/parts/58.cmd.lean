theorem f_matching {l : Launch} {g : jG} (hok : jOk g) (hst : l.stackTraces = false) {z : Option Nat} {sk : jS} {t : jT} {kw : Nat → Nat} (hI : sk 450 = some (jInp g kw) ∧ sk 451 = some (kA .char 60)) {T : TXV} {s0 : RS} (hs : IS t T s0) {a0 : Nat} {bs : List Nat} (hS : oStr g a0 bs) : jMet l g mX3_countMatching 5 0 0 [.ref (jb g + 450), .ref a0] z sk t (jE (some (.int (nI (lcp T bs s0.2)))) z sk t) := by
  refine j_body (lv := [some (.ref (jb g + 450)), some (.ref a0), none]) i_X3_countMatching hok hst (fun p e s m args below meth c X => ?_)
  obtain ⟨a1, a2, a3, a4, a5, a6, a7⟩ := id hs
  obtain ⟨hb, hl, v9, o9, -⟩ := id hS
  have key : ∀ (j k : Nat), k + j = bs.length → lcp T bs s0.2 = k + lcp T (bs.drop k) (s0.2 + k) → J p l e (jR 5 0 0) s m args below meth c (jQm below args s g 0 0 (jE (some (.int (nI (lcp T bs s0.2)))) z sk t)) 3 g 0 0 z sk t 2 [some (.ref (jb g + 450)), some (.ref a0), some (.int (nI k))] [] := by
    intro j
    induction j with
    | zero =>
      intro k hk hr
      have hk : k = bs.length := hk
      subst hk
      rw [List.drop_length, show lcp T [] (s0.2 + bs.length) = 0 from rfl, Nat.add_zero] at hr
      refine j_iload_n X (i := 2) dX3_countMatching_2 rfl rfl ?_
      refine j_aload_n X (i := 1) dX3_countMatching_3 rfl rfl ?_
      refine j_callVO X (st_length hok hst hS) (o9) i_J0_length_8abf5 tw_5_154 tw_5_155 tw_5_156 dX3_countMatching_4 (fun v2 z2 sk2 t2 hp => ?_)
      obtain ⟨rfl, rfl, rfl, rfl⟩ := hp
      refine j_icmp_ge X (tgt := 48) dX3_countMatching_7 (by decide) (fun _ => ?_) (fun q9 => absurd (nI_le (Nat.le_refl _) (by omega)) q9)
      refine j_iload_n X (i := 2) dX3_countMatching_48 rfl rfl ?_
      exact j_iret X dX3_countMatching_49 rfl rfl ⟨by rw [hr], rfl, rfl, rfl⟩
    | succ j ih =>
      intro k hk hr
      have hkl : k < bs.length := by omega
      have hb1 : bs.getD k 0 < 128 := by
        rw [List.getD_eq_getElem?_getD, List.getElem?_eq_getElem hkl]
        exact hb _ (List.getElem_mem hkl)
      have hd : bs.drop k = bs.getD k 0 :: bs.drop (k + 1) := by
        rw [List.drop_eq_getElem_cons hkl, List.getD_eq_getElem?_getD, List.getElem?_eq_getElem hkl]
        rfl
      rw [hd] at hr
      have stop : lcp T bs s0.2 = k → J p l e (jR 5 0 0) s m args below meth c (jQm below args s g 0 0 (jE (some (.int (nI (lcp T bs s0.2)))) z sk t)) 3 g 0 0 z sk t 48 [some (.ref (jb g + 450)), some (.ref a0), some (.int (nI k))] [] := fun h => by
        refine j_iload_n X (i := 2) dX3_countMatching_48 rfl rfl ?_
        exact j_iret X dX3_countMatching_49 rfl rfl ⟨by rw [h], rfl, rfl, rfl⟩
      refine j_iload_n X (i := 2) dX3_countMatching_2 rfl rfl ?_
      refine j_aload_n X (i := 1) dX3_countMatching_3 rfl rfl ?_
      refine j_callVO X (st_length hok hst hS) (o9) i_J0_length_8abf5 tw_5_154 tw_5_155 tw_5_156 dX3_countMatching_4 (fun v2 z2 sk2 t2 hp => ?_)
      obtain ⟨rfl, rfl, rfl, rfl⟩ := hp
      refine j_icmp_ge X (tgt := 48) dX3_countMatching_7 (by decide) (fun q9 => absurd q9 (nI_ge hkl (by omega))) (fun _ => ?_)
      refine j_aload_n X (i := 0) dX3_countMatching_10 rfl rfl ?_
      refine jFd.get X fd_X3_23 hI.1 rfl dX3_countMatching_11 ?_
      refine j_iload_n X (i := 2) dX3_countMatching_14 rfl rfl ?_
      rw [a4]
      refine j_iadd X dX3_countMatching_15 ?_
      rw [nI_add]
      refine j_aload_n X (i := 0) dX3_countMatching_16 rfl rfl ?_
      refine jFd.get X fd_X3_15 hI.1 rfl dX3_countMatching_17 ?_
      rw [a1]
      by_cases hp : s0.2 + k < T.1
      · refine j_icmp_ge X (tgt := 48) dX3_countMatching_20 (by decide) (fun q9 => absurd q9 (nI_ge hp (by omega))) (fun _ => ?_)
        refine j_aload_n X (i := 0) dX3_countMatching_23 rfl rfl ?_
        refine jFd.get X fd_X3_9 hI.1 rfl dX3_countMatching_24 ?_
        refine j_aload_n X (i := 0) dX3_countMatching_27 rfl rfl ?_
        refine jFd.get X fd_X3_23 hI.1 rfl dX3_countMatching_28 ?_
        refine j_iload_n X (i := 2) dX3_countMatching_31 rfl rfl ?_
        rw [a4]
        refine j_iadd X dX3_countMatching_32 ?_
        rw [nI_add]
        refine j_cald X hI.2 rfl (by omega) (by decide) dX3_countMatching_33 ?_
        rw [a2 _ hp]
        refine j_aload_n X (i := 1) dX3_countMatching_34 rfl rfl ?_
        refine j_iload_n X (i := 2) dX3_countMatching_35 rfl rfl ?_
        refine j_callVO X (st_charAt hok hst hS hkl) (o9) i_J0_charAt_5068e tw_5_164 tw_5_165 tw_5_166 dX3_countMatching_36 (fun v2 z2 sk2 t2 hp => ?_)
        obtain ⟨rfl, rfl, rfl, rfl⟩ := hp
        by_cases hc : chT T (s0.2 + k) = ((bs.getD k 0 : Nat) : Int)
        · refine j_icmp_ne X (tgt := 48) dX3_countMatching_39 (by decide) (fun q9 => absurd (((nI_ch hp a7 (by omega)).mpr hc)) q9) (fun _ => ?_)
          refine j_iinc X (i := 2) (v := (nI (k + 1))) dX3_countMatching_42 rfl (nI_1 k) (by decide) rfl ?_
          refine j_goto X (tgt := 2) dX3_countMatching_45 (by decide) ?_
          rw [lcp_eq hc] at hr
          exact ih (k + 1) (by omega) (hr.trans (by rw [show s0.2 + (k + 1) = s0.2 + k + 1 from rfl]; omega))
        · refine j_icmp_ne X (tgt := 48) dX3_countMatching_39 (by decide) (fun _ => ?_) (fun q9 => absurd q9 ((fun z9 => hc ((nI_ch hp a7 (by omega)).mp z9))))
          rw [lcp_ne hc, Nat.add_zero] at hr
          exact stop hr
      · refine j_icmp_ge X (tgt := 48) dX3_countMatching_20 (by decide) (fun _ => ?_) (fun q9 => absurd (nI_le (by omega) (by omega)) q9)
        rw [lcp_ne (fun q => hp (chT_pos (by rw [q]; omega))), Nat.add_zero] at hr
        exact stop hr
  refine j_iconst X (v := (nI 0)) dX3_countMatching_0 (by decide) ?_
  refine j_istore_n X (i := 2) dX3_countMatching_1 rfl (by decide) rfl ?_
  exact key bs.length 0 (Nat.zero_add _) (Nat.zero_add _).symm

/-- behind the keyword -/
def kwS (T : TXV) (s : RS) : RS := if s.1 = false then s else ((kwR T s.2).1.isSome, s.2 + (kwR T s.2).2)
def kP (T : TXV) (s : RS) (z : Option Nat) (sk : jS) (t : jT) : Option Value → Option Nat → jS → jT → Prop := fun v2 z2 sk2 t2 => v2 = none ∧ z = z2 ∧ sk = sk2 ∧ IS t2 T (kwS T s) ∧ (∀ k, k ≠ 2 → k ≠ 3 → k ≠ 4 → t2 450 k = t 450 k) ∧ (∀ c, c ≠ 450 → t2 c = t c) ∧ ∀ k, s.1 = true → (kwR T s.2).1 = some k → t2 450 4 = nI k
theorem kwL_len : ∀ k, k < 8 → (kwL k).length ≤ 6 ∧ 3 ≤ (kwL k).length := by decide
theorem mx_n {a b : Nat} (ha : a < 100) (hb : b < 100) : (if nI a < nI b then nI b else nI a) = nI (if a < b then b else a) := by
  by_cases h : a < b
  · rw [if_pos h, if_pos (nI_lt h (by omega))]
  · rw [if_neg h, if_neg (nI_nlt (by omega) (by omega))]
theorem IS.put {t : jT} {T : TXV} {s : RS} (h : IS t T s) {k : Nat} (hk : 4 ≤ k) (v : Int32) : IS (jU t 450 k v) T s := by
  have e : ∀ q, q ≠ k → jU t 450 k v 450 q = t 450 q := fun q hq => by rw [jU_eq]; exact if_neg hq
  exact h.go (e 1 (by omega)) ((e 2 (by omega)).trans h.2.2.1) ((e 3 (by omega)).trans h.2.2.2.1) (jU_ne _ _ _ (by decide)) h.2.2.2.2.1
/-- the arguments of a command in the input -/
def iA (t : jT) (x : Nat × A3) : Prop := (x.1 ≠ 3 → t 450 5 = iN x.2.1) ∧ ((x.1 = 1 ∨ x.1 = 2 ∨ x.1 = 4) → t 450 6 = iN x.2.2.1) ∧ ((x.1 = 1 ∨ x.1 = 2) → t 450 7 = iN x.2.2.2)
def aP (T : TXV) (k : Nat) (s : RS) (z : Option Nat) (sk : jS) (t : jT) : Option Value → Option Nat → jS → jT → Prop := fun v2 z2 sk2 t2 => v2 = none ∧ z = z2 ∧ sk = sk2 ∧ IS t2 T (agR T k s).1 ∧ (∀ q, (q < 2 ∨ q = 4 ∨ 7 < q) → t2 450 q = t 450 q) ∧ (∀ c, c ≠ 450 → t2 c = t c) ∧ iA t2 (k, (agR T k s).2)
def nP (T : TXV) (p : Nat) (z : Option Nat) (sk : jS) (t : jT) : Option Value → Option Nat → jS → jT → Prop := fun v2 z2 sk2 t2 => v2 = none ∧ z = z2 ∧ sk = sk2 ∧ IS t2 T (nxR T p).1 ∧ (∀ q, (q < 2 ∨ 7 < q) → t2 450 q = t 450 q) ∧ (∀ c, c ≠ 450 → t2 c = t c) ∧ ((nxR T p).1.1 = true → t2 450 4 = nI (nxR T p).2.1 ∧ iA t2 (nxR T p).2)
theorem f_keyword {l : Launch} {g : jG} (hok : jOk g) (hst : l.stackTraces = false) {z : Option Nat} {sk : jS} {t : jT} {kw : Nat → Nat} (hI : sk 450 = some (jInp g kw) ∧ sk 451 = some (kA .char 60)) {K w9 : Nat} {sa : Nat → Nat} (hK : oKw g K kw sa w9) {T : TXV} {s0 : RS} (hs : IS t T s0)  : jMet l g mX3_readKeyword 6 0 0 [.ref (jb g + 450)] z sk t (kP T s0 z sk t) := by
  refine j_body (lv := [some (.ref (jb g + 450)), none, none, none]) i_X3_readKeyword hok hst (fun p e s m args below meth c X => ?_)
  obtain ⟨b, p0⟩ := s0
  obtain ⟨a1, a2, a3, a4, a5, a6, a7⟩ := id hs
  have a3 : t 450 2 = nI b.toNat := a3
  have a4 : t 450 3 = nI p0 := a4
  have a5 : p0 ≤ T.1 := a5
  refine j_aload_n X (i := 0) dX3_readKeyword_0 rfl rfl ?_
  refine jFd.get X fd_X3_19 hI.1 rfl dX3_readKeyword_1 ?_
  rw [a3]
  cases b with
  | false =>
    refine j_if_ne X (tgt := 8) dX3_readKeyword_4 (by decide) (fun q9 => absurd (rfl) q9) (fun _ => ?_)
    exact j_vret X dX3_readKeyword_7 rfl ⟨rfl, rfl, rfl, by rw [show kwS T (false, p0) = (false, p0) from if_pos rfl]; exact hs, fun _ _ _ _ => rfl, fun _ _ => rfl, fun k h => absurd (show false = true from h) (by decide)⟩
  | true =>
    have hsp := kwR_sp T a5
    have hkS : kwS T (true, p0) = ((kwR T p0).1.isSome, p0 + (kwR T p0).2) := if_neg (show ¬ true = false by decide)
    have key : ∀ (n i y : Nat), i + n = 8 → y ≤ 6 → kwG T p0 n i y = kwR T p0 → J p l e (jR 6 0 0) s m args below meth c (jQm below args s g 0 0 (kP T (true, p0) z sk t)) 4 g 0 0 z sk t 12 [some (.ref (jb g + 450)), some (.int (nI y)), some (.int (nI i)), none] [] := by
      intro n
      induction n with
      | zero =>
        intro i y hi hy hr
        have hr : (none, y) = kwR T p0 := hr
        rw [← hr] at hkS hsp
        refine j_iload_n X (i := 2) dX3_readKeyword_12 rfl rfl ?_
        refine j_gets X hK.1 tw_5_148 dX3_readKeyword_13 ?_
        refine j_tlen X hK.2.1 dX3_readKeyword_16 ?_
        refine j_icmp_ge X (tgt := 80) dX3_readKeyword_17 (by decide) (fun _ => ?_) (fun q9 => absurd (nI_le (by omega) (by omega)) q9)
        refine j_aload_n X (i := 0) dX3_readKeyword_80 rfl rfl ?_
        refine j_iconst X (v := (nI 0)) dX3_readKeyword_81 (by decide) ?_
        refine jFd.put X fd_X3_19 hI.1 rfl rfl rfl rfl dX3_readKeyword_82 ?_
        refine j_aload_n X (i := 0) dX3_readKeyword_85 rfl rfl ?_
        refine j_dup X dX3_readKeyword_86 rfl ?_
        refine jFd.get X fd_X3_23 hI.1 rfl dX3_readKeyword_87 ?_
        rw [jU_eq, show upd (t 450) 2 (nI 0) 3 = t 450 3 from rfl, a4]
        refine j_iload_n X (i := 1) dX3_readKeyword_90 rfl rfl ?_
        refine j_iadd X dX3_readKeyword_91 ?_
        rw [nI_add]
        refine jFd.put X fd_X3_23 hI.1 rfl rfl rfl rfl dX3_readKeyword_92 ?_
        have I2 := iP_2 (v := (none : Option Value)) (z := none) (sk := fun _ => none) hs
        have I3 := iP_3 (v := (none : Option Value)) (z := none) (sk := fun _ => none) I2.2.2.2.1 (n := y) hsp.2.1
        obtain ⟨-, -, -, i4, i5, i6⟩ := I2.then I3
        exact j_vret X dX3_readKeyword_95 rfl ⟨rfl, rfl, rfl, by rw [hkS]; exact i4, fun k h2 h3 _ => i5 k h2 h3, i6, fun k _ h => by rw [← hr] at h; cases h⟩
      | succ n ih =>
        intro i y hi9 hy hr
        have hi : i < 8 := by omega
        obtain ⟨hk1, hk2, hk3, hk4⟩ := hK.2.2.2.2.2 i hi
        have hk4 : oStr g (sa i) (kwL i) := hk4
        have hln := kwL_len i hi
        have hle := lcp_le T (kwL i) p0
        obtain ⟨hb5, hl5, v5, o5, -⟩ := id hk4
        refine j_iload_n X (i := 2) dX3_readKeyword_12 rfl rfl ?_
        refine j_gets X hK.1 tw_5_148 dX3_readKeyword_13 ?_
        refine j_tlen X hK.2.1 dX3_readKeyword_16 ?_
        refine j_icmp_ge X (tgt := 80) dX3_readKeyword_17 (by decide) (fun q9 => absurd q9 (nI_ge hi (by decide))) (fun _ => ?_)
        refine j_aload_n X (i := 0) dX3_readKeyword_20 rfl rfl ?_
        refine j_gets X hK.1 tw_5_148 dX3_readKeyword_21 ?_
        refine j_iload_n X (i := 2) dX3_readKeyword_24 rfl rfl ?_
        refine j_tq X hK.2.1 rfl hi (by decide) rfl dX3_readKeyword_25 ?_
        refine j_getON X hk3 tw_8_71 dX3_readKeyword_26 ?_
        refine j_callV X (f_matching hok hst hI hs hk4) i_X3_countMatching tw_5_150 tw_5_152 tp_16 hI.1 rfl dX3_readKeyword_29 ?_ 
        refine j_istore_n X (i := 3) dX3_readKeyword_32 rfl (by decide) rfl ?_
        refine j_iload_n X (i := 1) dX3_readKeyword_33 rfl rfl ?_
        refine j_iload_n X (i := 3) dX3_readKeyword_34 rfl rfl ?_
        refine j_mmax X tw_5_202 tw_2_109 tw_1_25 tw_2_110 dX3_readKeyword_35 ?_
        rw [show (true, p0).2 = p0 from rfl, mx_n (by omega) (by omega)]
        refine j_istore_n X (i := 1) dX3_readKeyword_38 rfl (by decide) rfl ?_
        refine j_iload_n X (i := 3) dX3_readKeyword_39 rfl rfl ?_
        refine j_gets X hK.1 tw_5_148 dX3_readKeyword_40 ?_
        refine j_iload_n X (i := 2) dX3_readKeyword_43 rfl rfl ?_
        refine j_tq X hK.2.1 rfl hi (by decide) rfl dX3_readKeyword_44 ?_
        refine j_getON X hk3 tw_8_71 dX3_readKeyword_45 ?_
        refine j_callVO X (st_length hok hst hk4) (o5) i_J0_length_8abf5 tw_5_154 tw_5_155 tw_5_156 dX3_readKeyword_48 (fun v2 z2 sk2 t2 hp => ?_)
        obtain ⟨rfl, rfl, rfl, rfl⟩ := hp
        by_cases hm : lcp T (kwL i) p0 = (kwL i).length
        · have hr : kwR T p0 = (some i, (kwL i).length) := hr.symm.trans (if_pos hm)
          rw [hr] at hkS hsp
          refine j_icmp_ne X (tgt := 74) dX3_readKeyword_51 (by decide) (fun q9 => absurd ((congrArg nI hm)) q9) (fun _ => ?_)
          refine j_aload_n X (i := 0) dX3_readKeyword_54 rfl rfl ?_
          refine j_gets X hK.1 tw_5_148 dX3_readKeyword_55 ?_
          refine j_iload_n X (i := 2) dX3_readKeyword_58 rfl rfl ?_
          refine j_tq X hK.2.1 rfl hi (by decide) rfl dX3_readKeyword_59 ?_
          refine jFd.put X fd_X3_32 hI.1 rfl (x := nI i) (by show Value.ref (kw (nI i).toInt.toNat) = _; rw [nI_toInt (by omega)]; rfl) rfl rfl dX3_readKeyword_60 ?_
          have hs2 := hs.put (k := 4) (by decide) (nI i)
          refine j_aload_n X (i := 0) dX3_readKeyword_63 rfl rfl ?_
          refine j_dup X dX3_readKeyword_64 rfl ?_
          refine jFd.get X fd_X3_23 hI.1 rfl dX3_readKeyword_65 ?_
          rw [hs2.2.2.2.1, hm]
          refine j_iload_n X (i := 3) dX3_readKeyword_68 rfl rfl ?_
          refine j_iadd X dX3_readKeyword_69 ?_
          rw [show nI (true, p0).2 + nI (kwL i).length = nI (p0 + (kwL i).length) from nI_add _ _]
          refine jFd.put X fd_X3_23 hI.1 rfl rfl rfl rfl dX3_readKeyword_70 ?_
          have I3 := iP_3 (v := (none : Option Value)) (z := none) (sk := fun _ => none) hs2 (n := (kwL i).length) hsp.2.1
          obtain ⟨-, -, -, i4, i5, i6⟩ := I3
          exact j_vret X dX3_readKeyword_73 rfl ⟨rfl, rfl, rfl, by rw [hkS]; exact i4, fun k h2 h3 h4 => (i5 k h2 h3).trans (by rw [jU_eq]; exact if_neg h4), fun c hc => (i6 c hc).trans (jU_ne _ _ _ hc), fun k _ h => by rw [hr] at h; cases h; exact (i5 4 (by decide) (by decide)).trans (by rw [jU_eq]; rfl)⟩
        · refine j_icmp_ne X (tgt := 74) dX3_readKeyword_51 (by decide) (fun _ => ?_) (fun q9 => absurd q9 ((fun z9 => hm ((nI_eq (by omega) (by omega)).mp z9))))
          refine j_iinc X (i := 2) (v := (nI (i + 1))) dX3_readKeyword_74 rfl (nI_1 i) (by decide) rfl ?_
          refine j_goto X (tgt := 12) dX3_readKeyword_77 (by decide) ?_
          refine j_drop 3 ?_
          exact ih (i + 1) _ (by omega) (by split <;> omega) ((if_neg hm).symm.trans hr)
    refine j_if_ne X (tgt := 8) dX3_readKeyword_4 (by decide) (fun _ => ?_) (fun q9 => absurd q9 ((show ¬ nI (true : Bool).toNat = 0 by decide)))
    refine j_iconst X (v := (nI 0)) dX3_readKeyword_8 (by decide) ?_
    refine j_istore_n X (i := 1) dX3_readKeyword_9 rfl (by decide) rfl ?_
    refine j_iconst X (v := (nI 0)) dX3_readKeyword_10 (by decide) ?_
    refine j_istore_n X (i := 2) dX3_readKeyword_11 rfl (by decide) rfl ?_
    exact key 8 0 0 rfl (by decide) rfl

