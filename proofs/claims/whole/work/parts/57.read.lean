/-- the input in the memory, while it is read -/
def IS (t : jT) (T : TXV) (s : RS) : Prop := t 450 1 = nI T.1 ∧ (∀ i, i < T.1 → t 451 i = nI (T.2 i)) ∧ t 450 2 = nI s.1.toNat ∧ t 450 3 = nI s.2 ∧ s.2 ≤ T.1 ∧ T.1 ≤ 60 ∧ ∀ i, T.2 i < 65536
theorem IS.go {t u : jT} {T : TXV} {s r : RS} (h : IS t T s) (h1 : u 450 1 = t 450 1) (h2 : u 450 2 = nI r.1.toNat) (h3 : u 450 3 = nI r.2) (h4 : u 451 = t 451) (hr : r.2 ≤ T.1) : IS u T r := ⟨h1.trans h.1, by rw [h4]; exact h.2.1, h2, h3, hr, h.2.2.2.2.2⟩
/-- what a reading leaves -/
def iP (T : TXV) (u : RS) (v : Option Value) (z : Option Nat) (sk : jS) (t : jT) : Option Value → Option Nat → jS → jT → Prop := fun v2 z2 sk2 t2 => v2 = v ∧ z = z2 ∧ sk = sk2 ∧ IS t2 T u ∧ (∀ k, k ≠ 2 → k ≠ 3 → t2 450 k = t 450 k) ∧ ∀ c, c ≠ 450 → t2 c = t c
theorem iP_no {T : TXV} {s : RS} {v : Option Value} {z : Option Nat} {sk : jS} {t : jT} (h : IS t T s) : iP T s v z sk t v z sk t := ⟨rfl, rfl, rfl, h, fun _ _ _ => rfl, fun _ _ => rfl⟩
theorem iP_2 {T : TXV} {s : RS} {v : Option Value} {z : Option Nat} {sk : jS} {t : jT} (h : IS t T s) : iP T (false, s.2) v z sk t v z sk (jU t 450 2 (nI 0)) :=
  ⟨rfl, rfl, rfl, h.go (by rw [jU_eq]; rfl) (by rw [jU_eq]; rfl) (by rw [jU_eq]; exact h.2.2.2.1) (jU_ne _ _ _ (by decide)) h.2.2.2.2.1, fun k h2 _ => by rw [jU_eq]; exact if_neg h2, fun c hc => jU_ne _ _ _ hc⟩
theorem iP_3 {T : TXV} {b : Bool} {p n : Nat} {v : Option Value} {z : Option Nat} {sk : jS} {t : jT} (h : IS t T (b, p)) (hn : p + n ≤ T.1) : iP T (b, p + n) v z sk t v z sk (jU t 450 3 (nI (p + n))) :=
  ⟨rfl, rfl, rfl, h.go (by rw [jU_eq]; rfl) (by rw [jU_eq]; exact h.2.2.1) (by rw [jU_eq]; rfl) (jU_ne _ _ _ (by decide)) hn, fun k _ h3 => by rw [jU_eq]; exact if_neg h3, fun c hc => jU_ne _ _ _ hc⟩
theorem iP.then {T : TXV} {u w : RS} {v v2 v3 : Option Value} {z z2 z3 : Option Nat} {sk sk2 sk3 : jS} {t t2 t3 : jT} (h : iP T u v z sk t v2 z2 sk2 t2) (h3 : iP T w v3 z2 sk2 t2 v3 z3 sk3 t3) : iP T w v3 z sk t v3 z3 sk3 t3 :=
  ⟨rfl, h.2.1.trans h3.2.1, h.2.2.1.trans h3.2.2.1, h3.2.2.2.1, fun k a b => (h3.2.2.2.2.1 k a b).trans (h.2.2.2.2.1 k a b), fun c hc => (h3.2.2.2.2.2 c hc).trans (h.2.2.2.2.2 c hc)⟩
theorem nI_ch {T : TXV} {p c : Nat} (hp : p < T.1) (hT : ∀ i, T.2 i < 65536) (hc : c < 65536) : nI (T.2 p) = nI c ↔ chT T p = (c : Int) := by
  have h1 := hT p
  rw [show chT T p = ((T.2 p : Nat) : Int) from if_pos hp, nI_eq (by omega) (by omega)]
  omega
theorem f_isNext {l : Launch} {g : jG} (hok : jOk g) (hst : l.stackTraces = false) {z : Option Nat} {sk : jS} {t : jT} {kw : Nat → Nat} (hI : sk 450 = some (jInp g kw) ∧ sk 451 = some (kA .char 60)) {T : TXV} {s0 : RS} (hs : IS t T s0) {c0 : Nat} (hc0 : c0 < 65536) {ci : Int} (hci : ci = (c0 : Int)) : jMet l g mX3_isNext 1 0 0 [.ref (jb g + 450), .int (nI c0)] z sk t (jE (some (.int (nI (decide (s0.1 = true ∧ chT T s0.2 = ci)).toNat))) z sk t) := by
  refine j_body (lv := [some (.ref (jb g + 450)), some (.int (nI c0))]) i_X3_isNext hok hst (fun p e s m args below meth c X => ?_)
  subst hci
  obtain ⟨b, p0⟩ := s0
  obtain ⟨a1, a2, a3, a4, a5, a6, a7⟩ := id hs
  have a3 : t 450 2 = nI b.toNat := a3
  have a4 : t 450 3 = nI p0 := a4
  have a5 : p0 ≤ T.1 := a5
  have no : (decide ((b, p0).1 = true ∧ chT T (b, p0).2 = (c0 : Int))) = false → J p l e (jR 1 0 0) s m args below meth c (jQm below args s g 0 0 (jE (some (.int (nI (decide ((b, p0).1 = true ∧ chT T (b, p0).2 = (c0 : Int))).toNat))) z sk t)) 2 g 0 0 z sk t 35 [some (.ref (jb g + 450)), some (.int (nI c0))] [] := fun h => by
    refine j_iconst X (v := (nI 0)) dX3_isNext_35 (by decide) ?_
    exact j_iret X dX3_isNext_36 rfl rfl ⟨by rw [h]; rfl, rfl, rfl, rfl⟩
  refine j_aload_n X (i := 0) dX3_isNext_0 rfl rfl ?_
  refine jFd.get X fd_X3_19 hI.1 rfl dX3_isNext_1 ?_
  rw [a3]
  cases b with
  | false =>
    refine j_if_eq X (tgt := 35) dX3_isNext_4 (by decide) (fun _ => ?_) (fun q9 => absurd (rfl) q9)
    exact no (decide_eq_false fun q => absurd (show false = true from q.1) (by decide))
  | true =>
    refine j_if_eq X (tgt := 35) dX3_isNext_4 (by decide) (fun q9 => absurd q9 ((show ¬ nI (true : Bool).toNat = 0 by decide))) (fun _ => ?_)
    refine j_aload_n X (i := 0) dX3_isNext_7 rfl rfl ?_
    refine jFd.get X fd_X3_23 hI.1 rfl dX3_isNext_8 ?_
    refine j_aload_n X (i := 0) dX3_isNext_11 rfl rfl ?_
    refine jFd.get X fd_X3_15 hI.1 rfl dX3_isNext_12 ?_
    rw [a4, a1]
    by_cases hp : p0 < T.1
    · refine j_icmp_ge X (tgt := 35) dX3_isNext_15 (by decide) (fun q9 => absurd q9 (nI_ge hp (by omega))) (fun _ => ?_)
      refine j_aload_n X (i := 0) dX3_isNext_18 rfl rfl ?_
      refine jFd.get X fd_X3_9 hI.1 rfl dX3_isNext_19 ?_
      refine j_aload_n X (i := 0) dX3_isNext_22 rfl rfl ?_
      refine jFd.get X fd_X3_23 hI.1 rfl dX3_isNext_23 ?_
      rw [a4]
      refine j_cald X hI.2 rfl (by omega) (by decide) dX3_isNext_26 ?_
      rw [a2 p0 hp]
      refine j_iload_n X (i := 1) dX3_isNext_27 rfl rfl ?_
      by_cases hc : chT T p0 = (c0 : Int)
      · refine j_icmp_ne X (tgt := 35) dX3_isNext_28 (by decide) (fun q9 => absurd (((nI_ch hp a7 hc0).mpr hc)) q9) (fun _ => ?_)
        refine j_iconst X (v := (nI 1)) dX3_isNext_31 (by decide) ?_
        refine j_goto X (tgt := 36) dX3_isNext_32 (by decide) ?_
        exact j_iret X dX3_isNext_36 rfl rfl ⟨by rw [decide_eq_true (show (true, p0).1 = true ∧ chT T (true, p0).2 = (c0 : Int) from ⟨rfl, hc⟩)]; rfl, rfl, rfl, rfl⟩
      · refine j_icmp_ne X (tgt := 35) dX3_isNext_28 (by decide) (fun _ => ?_) (fun q9 => absurd q9 ((fun z9 => hc ((nI_ch hp a7 hc0).mp z9))))
        exact no (decide_eq_false fun q => hc q.2)
    · refine j_icmp_ge X (tgt := 35) dX3_isNext_15 (by decide) (fun _ => ?_) (fun q9 => absurd (nI_le (by omega) (by omega)) q9)
      exact no (decide_eq_false fun q => hp (chT_pos (by have h2 : chT T p0 = (c0 : Int) := q.2; omega)))

theorem f_isDigit {l : Launch} {g : jG} (hok : jOk g) (hst : l.stackTraces = false) {z : Option Nat} {sk : jS} {t : jT} {kw : Nat → Nat} (hI : sk 450 = some (jInp g kw) ∧ sk 451 = some (kA .char 60)) {T : TXV} {s0 : RS} (hs : IS t T s0)  : jMet l g mX3_isDigitNext 1 0 0 [.ref (jb g + 450)] z sk t (jE (some (.int (nI (decide (s0.1 = true ∧ isDg (chT T s0.2) = true)).toNat))) z sk t) := by
  refine j_body (lv := [some (.ref (jb g + 450))]) i_X3_isDigitNext hok hst (fun p e s m args below meth c X => ?_)
  obtain ⟨b, p0⟩ := s0
  obtain ⟨a1, a2, a3, a4, a5, a6, a7⟩ := id hs
  have a3 : t 450 2 = nI b.toNat := a3
  have a4 : t 450 3 = nI p0 := a4
  have a5 : p0 ≤ T.1 := a5
  have no : (decide ((b, p0).1 = true ∧ isDg (chT T (b, p0).2) = true)) = false → J p l e (jR 1 0 0) s m args below meth c (jQm below args s g 0 0 (jE (some (.int (nI (decide ((b, p0).1 = true ∧ isDg (chT T (b, p0).2) = true)).toNat))) z sk t)) 1 g 0 0 z sk t 50 [some (.ref (jb g + 450))] [] := fun h => by
    refine j_iconst X (v := (nI 0)) dX3_isDigitNext_50 (by decide) ?_
    exact j_iret X dX3_isDigitNext_51 rfl rfl ⟨by rw [h]; rfl, rfl, rfl, rfl⟩
  refine j_aload_n X (i := 0) dX3_isDigitNext_0 rfl rfl ?_
  refine jFd.get X fd_X3_19 hI.1 rfl dX3_isDigitNext_1 ?_
  rw [a3]
  cases b with
  | false =>
    refine j_if_eq X (tgt := 50) dX3_isDigitNext_4 (by decide) (fun _ => ?_) (fun q9 => absurd (rfl) q9)
    exact no (decide_eq_false fun q => absurd (show false = true from q.1) (by decide))
  | true =>
    refine j_if_eq X (tgt := 50) dX3_isDigitNext_4 (by decide) (fun q9 => absurd q9 ((show ¬ nI (true : Bool).toNat = 0 by decide))) (fun _ => ?_)
    refine j_aload_n X (i := 0) dX3_isDigitNext_7 rfl rfl ?_
    refine jFd.get X fd_X3_23 hI.1 rfl dX3_isDigitNext_8 ?_
    refine j_aload_n X (i := 0) dX3_isDigitNext_11 rfl rfl ?_
    refine jFd.get X fd_X3_15 hI.1 rfl dX3_isDigitNext_12 ?_
    rw [a4, a1]
    by_cases hp : p0 < T.1
    · have hch : chT T p0 = ((T.2 p0 : Nat) : Int) := if_pos hp
      have h7 := a7 p0
      have dg : isDg (chT T p0) = decide (48 ≤ T.2 p0 ∧ T.2 p0 ≤ 57) := by rw [hch]; unfold isDg; exact decide_eq_decide.mpr (by omega)
      refine j_icmp_ge X (tgt := 50) dX3_isDigitNext_15 (by decide) (fun q9 => absurd q9 (nI_ge hp (by omega))) (fun _ => ?_)
      refine j_aload_n X (i := 0) dX3_isDigitNext_18 rfl rfl ?_
      refine jFd.get X fd_X3_9 hI.1 rfl dX3_isDigitNext_19 ?_
      refine j_aload_n X (i := 0) dX3_isDigitNext_22 rfl rfl ?_
      refine jFd.get X fd_X3_23 hI.1 rfl dX3_isDigitNext_23 ?_
      rw [a4]
      refine j_cald X hI.2 rfl (by omega) (by decide) dX3_isDigitNext_26 ?_
      rw [a2 p0 hp]
      refine j_bipush X (v := (nI 48)) dX3_isDigitNext_27 (by decide) ?_
      by_cases h1 : 48 ≤ T.2 p0
      · refine j_icmp_lt X (tgt := 50) dX3_isDigitNext_29 (by decide) (fun q9 => absurd q9 ((show ¬ nI (T.2 p0) < nI 48 from nI_nlt h1 (by omega)))) (fun _ => ?_)
        refine j_aload_n X (i := 0) dX3_isDigitNext_32 rfl rfl ?_
        refine jFd.get X fd_X3_9 hI.1 rfl dX3_isDigitNext_33 ?_
        refine j_aload_n X (i := 0) dX3_isDigitNext_36 rfl rfl ?_
        refine jFd.get X fd_X3_23 hI.1 rfl dX3_isDigitNext_37 ?_
        rw [a4]
        refine j_cald X hI.2 rfl (by omega) (by decide) dX3_isDigitNext_40 ?_
        rw [a2 p0 hp]
        refine j_bipush X (v := (nI 57)) dX3_isDigitNext_41 (by decide) ?_
        by_cases h2 : T.2 p0 ≤ 57
        · refine j_icmp_gt X (tgt := 50) dX3_isDigitNext_43 (by decide) (fun q9 => absurd q9 ((show ¬ nI 57 < nI (T.2 p0) from nI_nlt h2 (by omega)))) (fun _ => ?_)
          refine j_iconst X (v := (nI 1)) dX3_isDigitNext_46 (by decide) ?_
          refine j_goto X (tgt := 51) dX3_isDigitNext_47 (by decide) ?_
          exact j_iret X dX3_isDigitNext_51 rfl rfl ⟨by rw [decide_eq_true (show (true, p0).1 = true ∧ isDg (chT T (true, p0).2) = true from ⟨rfl, by rw [show (true, p0).2 = p0 from rfl, dg]; exact decide_eq_true ⟨h1, h2⟩⟩)]; rfl, rfl, rfl, rfl⟩
        · refine j_icmp_gt X (tgt := 50) dX3_isDigitNext_43 (by decide) (fun _ => ?_) (fun q9 => absurd ((show nI 57 < nI (T.2 p0) from nI_lt (by omega) (by omega))) q9)
          exact no (decide_eq_false fun q => by have h3 := q.2; rw [show (true, p0).2 = p0 from rfl, dg] at h3; exact h2 (of_decide_eq_true h3).2)
      · refine j_icmp_lt X (tgt := 50) dX3_isDigitNext_29 (by decide) (fun _ => ?_) (fun q9 => absurd ((nI_lt (by omega) (by omega))) q9)
        exact no (decide_eq_false fun q => by have h3 := q.2; rw [show (true, p0).2 = p0 from rfl, dg] at h3; exact h1 (of_decide_eq_true h3).1)
    · refine j_icmp_ge X (tgt := 50) dX3_isDigitNext_15 (by decide) (fun _ => ?_) (fun q9 => absurd (nI_le (by omega) (by omega)) q9)
      exact no (decide_eq_false fun q => hp (chT_pos (by have h2 := isDg_pos (show isDg (chT T p0) = true from q.2); omega)))

theorem f_sign {l : Launch} {g : jG} (hok : jOk g) (hst : l.stackTraces = false) {z : Option Nat} {sk : jS} {t : jT} {kw : Nat → Nat} (hI : sk 450 = some (jInp g kw) ∧ sk 451 = some (kA .char 60)) {T : TXV} {s0 : RS} (hs : IS t T s0) {c0 : Nat} (hc0 : c0 < 65536) {ci : Int} (hci : ci = (c0 : Int)) : jMet l g mX3_readSign 2 0 0 [.ref (jb g + 450), .int (nI c0)] z sk t (iP T (sgR T ci s0) none z sk t) := by
  refine j_body (lv := [some (.ref (jb g + 450)), some (.int (nI c0))]) i_X3_readSign hok hst (fun p e s m args below meth c X => ?_)
  refine j_aload_n X (i := 0) dX3_readSign_0 rfl rfl ?_
  refine j_iload_n X (i := 1) dX3_readSign_1 rfl rfl ?_
  refine j_callV X (f_isNext hok hst hI hs hc0 hci) i_X3_isNext tw_5_140 tw_5_142 tp_14 hI.1 rfl dX3_readSign_2 ?_ 
  by_cases q : s0.1 = true ∧ chT T s0.2 = ci
  · obtain ⟨b, p0⟩ := s0
    obtain ⟨q1, q2⟩ := q
    have q1 : b = true := q1
    subst q1
    have q2 : chT T p0 = ci := q2
    have hlt : p0 < T.1 := chT_pos (by omega)
    have a4 : t 450 3 = nI p0 := hs.2.2.2.1
    rw [decide_eq_true (show (true, p0).1 = true ∧ chT T (true, p0).2 = ci from ⟨rfl, q2⟩), sgR_y q2]
    refine j_if_eq X (tgt := 21) dX3_readSign_5 (by decide) (fun q9 => absurd q9 ((show ¬ nI (true : Bool).toNat = 0 by decide))) (fun _ => ?_)
    refine j_aload_n X (i := 0) dX3_readSign_8 rfl rfl ?_
    refine j_dup X dX3_readSign_9 rfl ?_
    refine jFd.get X fd_X3_23 hI.1 rfl dX3_readSign_10 ?_
    rw [a4]
    refine j_iconst X (v := (nI 1)) dX3_readSign_13 (by decide) ?_
    refine j_iadd X dX3_readSign_14 ?_
    rw [nI_add]
    refine jFd.put X fd_X3_23 hI.1 rfl rfl rfl rfl dX3_readSign_15 ?_
    refine j_goto X (tgt := 26) dX3_readSign_18 (by decide) ?_
    exact j_vret X dX3_readSign_26 rfl (iP_3 hs hlt)
  · rw [decide_eq_false q, show sgR T ci s0 = (false, s0.2) from if_neg q]
    refine j_if_eq X (tgt := 21) dX3_readSign_5 (by decide) (fun _ => ?_) (fun q9 => absurd (rfl) q9)
    refine j_aload_n X (i := 0) dX3_readSign_21 rfl rfl ?_
    refine j_iconst X (v := (nI 0)) dX3_readSign_22 (by decide) ?_
    refine jFd.put X fd_X3_19 hI.1 rfl rfl rfl rfl dX3_readSign_23 ?_
    exact j_vret X dX3_readSign_26 rfl (iP_2 hs)

theorem f_digit {l : Launch} {g : jG} (hok : jOk g) (hst : l.stackTraces = false) {z : Option Nat} {sk : jS} {t : jT} {kw : Nat → Nat} (hI : sk 450 = some (jInp g kw) ∧ sk 451 = some (kA .char 60)) {T : TXV} {s0 : RS} (hs : IS t T s0)  : jMet l g mX3_readDigit 2 0 0 [.ref (jb g + 450)] z sk t (iP T (dgR T s0).1 (some (.int (iN (dgR T s0).2))) z sk t) := by
  refine j_body (lv := [some (.ref (jb g + 450))]) i_X3_readDigit hok hst (fun p e s m args below meth c X => ?_)
  refine j_aload_n X (i := 0) dX3_readDigit_0 rfl rfl ?_
  refine j_callV X (f_isDigit hok hst hI hs) i_X3_isDigitNext tw_5_223 tw_5_225 tp_20 hI.1 rfl dX3_readDigit_1 ?_ 
  by_cases q : s0.1 = true ∧ isDg (chT T s0.2) = true
  · obtain ⟨b, p0⟩ := s0
    obtain ⟨q1, q2⟩ := q
    have q1 : b = true := q1
    subst q1
    have q2 : isDg (chT T p0) = true := q2
    have hlt : p0 < T.1 := chT_pos (by have := isDg_pos q2; omega)
    have a4 : t 450 3 = nI p0 := hs.2.2.2.1
    rw [decide_eq_true (show (true, p0).1 = true ∧ isDg (chT T (true, p0).2) = true from ⟨rfl, q2⟩), dgR_y q2]
    refine j_if_ne X (tgt := 14) dX3_readDigit_4 (by decide) (fun _ => ?_) (fun q9 => absurd q9 ((show ¬ nI (true : Bool).toNat = 0 by decide)))
    refine j_aload_n X (i := 0) dX3_readDigit_14 rfl rfl ?_
    refine j_dup X dX3_readDigit_15 rfl ?_
    refine jFd.get X fd_X3_23 hI.1 rfl dX3_readDigit_16 ?_
    rw [a4]
    refine j_iconst X (v := (nI 1)) dX3_readDigit_19 (by decide) ?_
    refine j_iadd X dX3_readDigit_20 ?_
    rw [nI_add]
    refine jFd.put X fd_X3_23 hI.1 rfl rfl rfl rfl dX3_readDigit_21 ?_
    refine j_aload_n X (i := 0) dX3_readDigit_24 rfl rfl ?_
    refine jFd.get X fd_X3_9 hI.1 rfl dX3_readDigit_25 ?_
    refine j_aload_n X (i := 0) dX3_readDigit_28 rfl rfl ?_
    refine jFd.get X fd_X3_23 hI.1 rfl dX3_readDigit_29 ?_
    refine j_iconst X (v := (nI 1)) dX3_readDigit_32 (by decide) ?_
    rw [jU_eq, show upd (t 450) 3 (nI (p0 + 1)) 3 = nI (p0 + 1) from if_pos rfl]
    refine j_isub X dX3_readDigit_33 ?_
    rw [pk_sub (by omega), Nat.add_sub_cancel]
    have h60 := hs.2.2.2.2.2.1
    refine j_cald X hI.2 rfl (by omega) (by decide) dX3_readDigit_34 ?_
    rw [jU_ne _ _ _ (by decide), hs.2.1 p0 hlt]
    refine j_bipush X (v := (nI 48)) dX3_readDigit_35 (by decide) ?_
    refine j_isub X dX3_readDigit_37 ?_
    have e : nI (T.2 p0) - nI 48 = iN (chT T p0 - 48) := by rw [show chT T p0 = ((T.2 p0 : Nat) : Int) from if_pos hlt]; exact nI_subI _ 48
    rw [e]
    exact j_iret X dX3_readDigit_38 rfl rfl (iP_3 hs hlt)
  · rw [decide_eq_false q, show dgR T s0 = ((false, s0.2), 0) from if_neg q]
    refine j_if_ne X (tgt := 14) dX3_readDigit_4 (by decide) (fun q9 => absurd (rfl) q9) (fun _ => ?_)
    refine j_aload_n X (i := 0) dX3_readDigit_7 rfl rfl ?_
    refine j_iconst X (v := (nI 0)) dX3_readDigit_8 (by decide) ?_
    refine jFd.put X fd_X3_19 hI.1 rfl rfl rfl rfl dX3_readDigit_9 ?_
    refine j_iconst X (v := (nI 0)) dX3_readDigit_12 (by decide) ?_
    exact j_iret X dX3_readDigit_13 rfl rfl (iP_2 hs)

theorem f_number {l : Launch} {g : jG} (hok : jOk g) (hst : l.stackTraces = false) {z : Option Nat} {sk : jS} {t : jT} {kw : Nat → Nat} (hI : sk 450 = some (jInp g kw) ∧ sk 451 = some (kA .char 60)) {T : TXV} {s0 : RS} (hs : IS t T s0)  : jMet l g mX3_readNumber 3 0 0 [.ref (jb g + 450)] z sk t (iP T (nbR T s0).1 (some (.int (iN (nbR T s0).2))) z sk t) := by
  refine j_body (lv := [some (.ref (jb g + 450)), none]) i_X3_readNumber hok hst (fun p e s m args below meth c X => ?_)
  refine j_aload_n X (i := 0) dX3_readNumber_0 rfl rfl ?_
  refine j_callV_p X (f_digit hok hst hI hs) i_X3_readDigit tw_5_219 tw_5_221 tp_19 hI.1 rfl dX3_readNumber_1 (fun v2 z2 sk2 t1 hp => ?_) 
  have hnb : nbR T s0 = if (dgR T s0).1.1 = true ∧ isDg (chT T (dgR T s0).1.2) = true then ((true, (dgR T s0).1.2 + 1), 10 * (dgR T s0).2 + (chT T (dgR T s0).1.2 - 48)) else dgR T s0 := rfl
  rw [hnb]
  generalize dgR T s0 = u at hp
  obtain ⟨r, v⟩ := u
  obtain ⟨rfl, rfl, rfl, hs1, e1, f1⟩ := hp
  have hs1 : IS t1 T r := hs1
  have I1 : iP T r (none : Option Value) z sk t none z sk t1 := ⟨rfl, rfl, rfl, hs1, e1, f1⟩
  refine j_istore_n X (i := 1) dX3_readNumber_4 rfl (by decide) rfl ?_
  refine j_aload_n X (i := 0) dX3_readNumber_5 rfl rfl ?_
  refine j_callV X (f_isDigit hok hst hI hs1) i_X3_isDigitNext tw_5_223 tw_5_225 tp_20 hI.1 rfl dX3_readNumber_6 ?_ 
  by_cases q : r.1 = true ∧ isDg (chT T r.2) = true
  · rw [decide_eq_true q, if_pos (show ((r, v) : RS × Int).1.1 = true ∧ isDg (chT T ((r, v) : RS × Int).1.2) = true from q)]
    refine j_if_eq X (tgt := 24) dX3_readNumber_9 (by decide) (fun q9 => absurd q9 ((show ¬ nI (true : Bool).toNat = 0 by decide))) (fun _ => ?_)
    refine j_bipush X (v := (nI 10)) dX3_readNumber_12 (by decide) ?_
    refine j_iload_n X (i := 1) dX3_readNumber_14 rfl rfl ?_
    refine j_imul X dX3_readNumber_15 ?_
    rw [show nI 10 * iN (r, v).2 = iN (10 * v) by rw [← iN_nI 10, iN_mul]; rfl]
    refine j_aload_n X (i := 0) dX3_readNumber_16 rfl rfl ?_
    refine j_callV_p X (f_digit hok hst hI hs1) i_X3_readDigit tw_5_219 tw_5_221 tp_19 hI.1 rfl dX3_readNumber_17 (fun v2 z2 sk2 t2 hp => ?_) 
    rw [show dgR T r = ((true, r.2 + 1), chT T r.2 - 48) from if_pos q] at hp
    obtain ⟨rfl, rfl, rfl, hs2, e2, f2⟩ := hp
    refine j_iadd X dX3_readNumber_20 ?_
    rw [show iN (10 * v) + iN ((true, r.2 + 1), chT T r.2 - 48).2 = iN (10 * v + (chT T r.2 - 48)) from iN_add _ _]
    refine j_goto X (tgt := 25) dX3_readNumber_21 (by decide) ?_
    exact j_iret X dX3_readNumber_25 rfl rfl (I1.then ⟨rfl, rfl, rfl, hs2, e2, f2⟩)
  · rw [decide_eq_false q, if_neg (show ¬ (((r, v) : RS × Int).1.1 = true ∧ isDg (chT T ((r, v) : RS × Int).1.2) = true) from q)]
    refine j_if_eq X (tgt := 24) dX3_readNumber_9 (by decide) (fun _ => ?_) (fun q9 => absurd (rfl) q9)
    refine j_iload_n X (i := 1) dX3_readNumber_24 rfl rfl ?_
    exact j_iret X dX3_readNumber_25 rfl rfl (I1.then (iP_no hs1))

theorem f_signed {l : Launch} {g : jG} (hok : jOk g) (hst : l.stackTraces = false) {z : Option Nat} {sk : jS} {t : jT} {kw : Nat → Nat} (hI : sk 450 = some (jInp g kw) ∧ sk 451 = some (kA .char 60)) {T : TXV} {s0 : RS} (hs : IS t T s0)  : jMet l g mX3_readSignedDigit 3 0 0 [.ref (jb g + 450)] z sk t (iP T (sdR T s0).1 (some (.int (iN (sdR T s0).2))) z sk t) := by
  refine j_body (lv := [some (.ref (jb g + 450))]) i_X3_readSignedDigit hok hst (fun p e s m args below meth c X => ?_)
  refine j_aload_n X (i := 0) dX3_readSignedDigit_0 rfl rfl ?_
  refine j_bipush X (v := (nI 45)) dX3_readSignedDigit_1 (by decide) ?_
  refine j_callV X (f_isNext hok hst hI hs (c0 := 45) (by decide) (ci := 45) rfl) i_X3_isNext tw_5_140 tw_5_142 tp_14 hI.1 rfl dX3_readSignedDigit_3 ?_ 
  by_cases q : s0.1 = true ∧ chT T s0.2 = 45
  · obtain ⟨b, p0⟩ := s0
    obtain ⟨q1, q2⟩ := q
    have q1 : b = true := q1
    subst q1
    have q2 : chT T p0 = 45 := q2
    have hlt : p0 < T.1 := chT_pos (by omega)
    have a4 : t 450 3 = nI p0 := hs.2.2.2.1
    rw [decide_eq_true (show (true, p0).1 = true ∧ chT T (true, p0).2 = 45 from ⟨rfl, q2⟩), show sdR T (true, p0) = ((dgR T (true, p0 + 1)).1, -(dgR T (true, p0 + 1)).2) from if_pos ⟨rfl, q2⟩]
    refine j_if_eq X (tgt := 25) dX3_readSignedDigit_6 (by decide) (fun q9 => absurd q9 ((show ¬ nI (true : Bool).toNat = 0 by decide))) (fun _ => ?_)
    refine j_aload_n X (i := 0) dX3_readSignedDigit_9 rfl rfl ?_
    refine j_dup X dX3_readSignedDigit_10 rfl ?_
    refine jFd.get X fd_X3_23 hI.1 rfl dX3_readSignedDigit_11 ?_
    rw [a4]
    refine j_iconst X (v := (nI 1)) dX3_readSignedDigit_14 (by decide) ?_
    refine j_iadd X dX3_readSignedDigit_15 ?_
    rw [nI_add]
    refine jFd.put X fd_X3_23 hI.1 rfl rfl rfl rfl dX3_readSignedDigit_16 ?_
    refine j_aload_n X (i := 0) dX3_readSignedDigit_19 rfl rfl ?_
    have I1 := iP_3 (v := (none : Option Value)) (z := z) (sk := sk) hs (n := 1) hlt
    refine j_callV_p X (f_digit hok hst hI I1.2.2.2.1) i_X3_readDigit tw_5_219 tw_5_221 tp_19 hI.1 rfl dX3_readSignedDigit_20 (fun v2 z2 sk2 t2 hp => ?_) 
    obtain ⟨rfl, rfl, rfl, hs2, e2, f2⟩ := hp
    refine j_ineg X dX3_readSignedDigit_23 ?_
    rw [iN_neg]
    exact j_iret X dX3_readSignedDigit_24 rfl rfl (I1.then ⟨rfl, rfl, rfl, hs2, e2, f2⟩)
  · rw [decide_eq_false q, show sdR T s0 = dgR T (sgR T 43 s0) from if_neg q]
    refine j_if_eq X (tgt := 25) dX3_readSignedDigit_6 (by decide) (fun _ => ?_) (fun q9 => absurd (rfl) q9)
    refine j_aload_n X (i := 0) dX3_readSignedDigit_25 rfl rfl ?_
    refine j_bipush X (v := (nI 43)) dX3_readSignedDigit_26 (by decide) ?_
    refine j_callV_p X (f_sign hok hst hI hs (c0 := 43) (by decide) (ci := 43) rfl) i_X3_readSign tw_5_136 tw_5_138 tp_13 hI.1 rfl dX3_readSignedDigit_28 (fun v2 z2 sk2 t1 hp => ?_) 
    obtain ⟨rfl, rfl, rfl, hs1, e1, f1⟩ := hp
    have I1 : iP T (sgR T 43 s0) (none : Option Value) z sk t none z sk t1 := ⟨rfl, rfl, rfl, hs1, e1, f1⟩
    refine j_aload_n X (i := 0) dX3_readSignedDigit_31 rfl rfl ?_
    refine j_callV_p X (f_digit hok hst hI hs1) i_X3_readDigit tw_5_219 tw_5_221 tp_19 hI.1 rfl dX3_readSignedDigit_32 (fun v2 z2 sk2 t2 hp => ?_) 
    obtain ⟨rfl, rfl, rfl, hs2, e2, f2⟩ := hp
    exact j_iret X dX3_readSignedDigit_35 rfl rfl (I1.then ⟨rfl, rfl, rfl, hs2, e2, f2⟩)

theorem f_ink {l : Launch} {g : jG} (hok : jOk g) (hst : l.stackTraces = false) {z : Option Nat} {sk : jS} {t : jT} {kw : Nat → Nat} (hI : sk 450 = some (jInp g kw) ∧ sk 451 = some (kA .char 60)) {T : TXV} {s0 : RS} (hs : IS t T s0)  : jMet l g mX3_readInk 3 0 0 [.ref (jb g + 450)] z sk t (iP T (ikR T s0).1 (some (.int (iN (ikR T s0).2))) z sk t) := by
  refine j_body (lv := [some (.ref (jb g + 450)), none]) i_X3_readInk hok hst (fun p e s m args below meth c X => ?_)
  refine j_aload_n X (i := 0) dX3_readInk_0 rfl rfl ?_
  refine j_bipush X (v := (nI 99)) dX3_readInk_1 (by decide) ?_
  refine j_callV X (f_isNext hok hst hI hs (c0 := 99) (by decide) (ci := 99) rfl) i_X3_isNext tw_5_140 tw_5_142 tp_14 hI.1 rfl dX3_readInk_3 ?_ 
  by_cases q : s0.1 = true ∧ chT T s0.2 = 99
  · rw [decide_eq_true q, show ikR T s0 = ((true, s0.2 + 1), 1) from if_pos q]
    refine j_if_eq X (tgt := 13) dX3_readInk_6 (by decide) (fun q9 => absurd q9 ((show ¬ nI (true : Bool).toNat = 0 by decide))) (fun _ => ?_)
    refine j_iconst X (v := (nI 1)) dX3_readInk_9 (by decide) ?_
    refine j_goto X (tgt := 27) dX3_readInk_10 (by decide) ?_
    refine j_istore_n X (i := 1) dX3_readInk_27 rfl (by decide) rfl ?_
    refine j_aload_n X (i := 0) dX3_readInk_28 rfl rfl ?_
    refine j_iload_n X (i := 1) dX3_readInk_29 rfl rfl ?_
    refine j_iconst X (v := (nI 1)) dX3_readInk_30 (by decide) ?_
    refine j_icmp_ne X (tgt := 39) dX3_readInk_31 (by decide) (fun q9 => absurd (rfl) q9) (fun _ => ?_)
    refine j_bipush X (v := (nI 99)) dX3_readInk_34 (by decide) ?_
    refine j_goto X (tgt := 51) dX3_readInk_36 (by decide) ?_
    refine j_callV_p X (f_sign hok hst hI hs (c0 := 99) (by decide) (ci := 99) rfl) i_X3_readSign tw_5_136 tw_5_138 tp_13 hI.1 rfl dX3_readInk_51 (fun v2 z2 sk2 t1 hp => ?_) 
    rw [show sgR T 99 s0 = (true, s0.2 + 1) from if_pos q] at hp
    obtain ⟨rfl, rfl, rfl, hs1, e1, f1⟩ := hp
    refine j_iload_n X (i := 1) dX3_readInk_54 rfl rfl ?_
    exact j_iret X dX3_readInk_55 rfl rfl ⟨rfl, rfl, rfl, hs1, e1, f1⟩
  · rw [decide_eq_false q]
    refine j_if_eq X (tgt := 13) dX3_readInk_6 (by decide) (fun _ => ?_) (fun q9 => absurd (rfl) q9)
    refine j_aload_n X (i := 0) dX3_readInk_13 rfl rfl ?_
    refine j_bipush X (v := (nI 109)) dX3_readInk_14 (by decide) ?_
    refine j_callV X (f_isNext hok hst hI hs (c0 := 109) (by decide) (ci := 109) rfl) i_X3_isNext tw_5_140 tw_5_142 tp_14 hI.1 rfl dX3_readInk_16 ?_ 
    by_cases q2 : s0.1 = true ∧ chT T s0.2 = 109
    · rw [decide_eq_true q2, show ikR T s0 = ((true, s0.2 + 1), 2) from (if_neg q).trans (if_pos q2)]
      refine j_if_eq X (tgt := 26) dX3_readInk_19 (by decide) (fun q9 => absurd q9 ((show ¬ nI (true : Bool).toNat = 0 by decide))) (fun _ => ?_)
      refine j_iconst X (v := (nI 2)) dX3_readInk_22 (by decide) ?_
      refine j_goto X (tgt := 27) dX3_readInk_23 (by decide) ?_
      refine j_istore_n X (i := 1) dX3_readInk_27 rfl (by decide) rfl ?_
      refine j_aload_n X (i := 0) dX3_readInk_28 rfl rfl ?_
      refine j_iload_n X (i := 1) dX3_readInk_29 rfl rfl ?_
      refine j_iconst X (v := (nI 1)) dX3_readInk_30 (by decide) ?_
      refine j_icmp_ne X (tgt := 39) dX3_readInk_31 (by decide) (fun _ => ?_) (fun q9 => absurd q9 ((show ¬ nI 2 = nI 1 by decide)))
      refine j_iload_n X (i := 1) dX3_readInk_39 rfl rfl ?_
      refine j_iconst X (v := (nI 2)) dX3_readInk_40 (by decide) ?_
      refine j_icmp_ne X (tgt := 49) dX3_readInk_41 (by decide) (fun q9 => absurd (rfl) q9) (fun _ => ?_)
      refine j_bipush X (v := (nI 109)) dX3_readInk_44 (by decide) ?_
      refine j_goto X (tgt := 51) dX3_readInk_46 (by decide) ?_
      refine j_callV_p X (f_sign hok hst hI hs (c0 := 109) (by decide) (ci := 109) rfl) i_X3_readSign tw_5_136 tw_5_138 tp_13 hI.1 rfl dX3_readInk_51 (fun v2 z2 sk2 t1 hp => ?_) 
      rw [show sgR T 109 s0 = (true, s0.2 + 1) from if_pos q2] at hp
      obtain ⟨rfl, rfl, rfl, hs1, e1, f1⟩ := hp
      refine j_iload_n X (i := 1) dX3_readInk_54 rfl rfl ?_
      exact j_iret X dX3_readInk_55 rfl rfl ⟨rfl, rfl, rfl, hs1, e1, f1⟩
    · have hr : ikR T s0 = (sgR T 121 s0, 4) := by
        refine (if_neg q).trans ((if_neg q2).trans ?_)
        unfold sgR
        by_cases q3 : s0.1 = true ∧ chT T s0.2 = 121
        · rw [if_pos q3, if_pos q3]
        · rw [if_neg q3, if_neg q3]
      rw [decide_eq_false q2, hr]
      refine j_if_eq X (tgt := 26) dX3_readInk_19 (by decide) (fun _ => ?_) (fun q9 => absurd (rfl) q9)
      refine j_iconst X (v := (nI 4)) dX3_readInk_26 (by decide) ?_
      refine j_istore_n X (i := 1) dX3_readInk_27 rfl (by decide) rfl ?_
      refine j_aload_n X (i := 0) dX3_readInk_28 rfl rfl ?_
      refine j_iload_n X (i := 1) dX3_readInk_29 rfl rfl ?_
      refine j_iconst X (v := (nI 1)) dX3_readInk_30 (by decide) ?_
      refine j_icmp_ne X (tgt := 39) dX3_readInk_31 (by decide) (fun _ => ?_) (fun q9 => absurd q9 ((show ¬ nI 4 = nI 1 by decide)))
      refine j_iload_n X (i := 1) dX3_readInk_39 rfl rfl ?_
      refine j_iconst X (v := (nI 2)) dX3_readInk_40 (by decide) ?_
      refine j_icmp_ne X (tgt := 49) dX3_readInk_41 (by decide) (fun _ => ?_) (fun q9 => absurd q9 ((show ¬ nI 4 = nI 2 by decide)))
      refine j_bipush X (v := (nI 121)) dX3_readInk_49 (by decide) ?_
      refine j_callV_p X (f_sign hok hst hI hs (c0 := 121) (by decide) (ci := 121) rfl) i_X3_readSign tw_5_136 tw_5_138 tp_13 hI.1 rfl dX3_readInk_51 (fun v2 z2 sk2 t1 hp => ?_) 
      obtain ⟨rfl, rfl, rfl, hs1, e1, f1⟩ := hp
      refine j_iload_n X (i := 1) dX3_readInk_54 rfl rfl ?_
      exact j_iret X dX3_readInk_55 rfl rfl ⟨rfl, rfl, rfl, hs1, e1, f1⟩

