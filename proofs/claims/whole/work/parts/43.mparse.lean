theorem iN_mul (a b : Int) : iN a * iN b = iN (a * b) := by unfold iN; exact (Int32.ofInt_mul a b).symm
theorem iN_ch {a : Int} {c : Nat} (h1 : -1 ≤ a) (h2 : a < 65536) (hc : c < 65536) : iN a = nI c ↔ a = (c : Int) := by
  rw [← iN_nI]
  exact iN_eq (by omega) (by omega) (by omega) (by omega)
theorem inB_dg {a : Int} (h1 : -1 ≤ a) (h2 : a < 65536) : inB (iN a) (nI 48) (nI 57) = isDg a := by
  unfold inB isDg
  rw [iN_toInt (by omega) (by omega)]
  rfl
/-- the text in the memory, and where the reading is -/
def RX (t : jT) (M : Nat) (T : TXV) (p : Nat) : Prop := (t M 11 = nI T.1 ∧ ∀ i, i < T.1 → t (M + 5) i = nI (T.2 i)) ∧ t M 18 = nI p ∧ p ≤ T.1 ∧ T.1 ≤ 60 ∧ ∀ i, T.2 i < 65536
theorem RX.go {t t2 : jT} {M : Nat} {T : TXV} {p q : Nat} (h : RX t M T p) (h11 : t2 M 11 = t M 11) (h18 : t2 M 18 = nI q) (h5 : t2 (M + 5) = t (M + 5)) (hq : q ≤ T.1) : RX t2 M T q :=
  ⟨⟨h11.trans h.1.1, fun i hi => by rw [h5]; exact h.1.2 i hi⟩, h18, hq, h.2.2.2.1, h.2.2.2.2⟩
/-- what a reading leaves -/
def rP (M : Nat) (T : TXV) (u : RS) (O : (Nat → Int32) → Prop) (z : Option Nat) (sk : jS) (t : jT) : Option Value → Option Nat → jS → jT → Prop := fun v2 z2 sk2 t2 => v2 = some (.int (nI u.1.toNat)) ∧ z = z2 ∧ sk = sk2 ∧ RX t2 M T u.2 ∧ (∀ k, k ≠ 18 → t2 M k = t M k) ∧ (∀ c, c ≠ M → c ≠ M + 7 → t2 c = t c) ∧ O (t2 (M + 7))
def fgR (T : TXV) (n : Nat) (s : RS) : RS × Int := if n = 1 then dgR T s else nbR T s
theorem sgR_f (T : TXV) (c : Int) (q : Nat) : sgR T c (false, q) = (false, q) := sgR_no rfl
theorem dgR_f (T : TXV) (q : Nat) : dgR T (false, q) = ((false, q), 0) := dgR_no rfl
theorem nbR_f (T : TXV) (q : Nat) : nbR T (false, q) = ((false, q), 0) := nbR_no rfl
theorem sdR_f (T : TXV) (q : Nat) : sdR T (false, q) = ((false, q), 0) := sdR_no rfl
theorem fgR_f (T : TXV) (n q : Nat) : fgR T n (false, q) = ((false, q), 0) := by unfold fgR; rw [dgR_f, nbR_f]; split <;> rfl
theorem sgR_y {T : TXV} {c : Int} {q : Nat} (h : chT T q = c) : sgR T c (true, q) = (true, q + 1) := if_pos ⟨rfl, h⟩
theorem sgR_n {T : TXV} {c : Int} {q : Nat} (h : ¬ chT T q = c) : sgR T c (true, q) = (false, q) := if_neg fun x => h x.2
theorem dgR_y {T : TXV} {q : Nat} (h : isDg (chT T q) = true) : dgR T (true, q) = ((true, q + 1), chT T q - 48) := if_pos ⟨rfl, h⟩
theorem dgR_n {T : TXV} {q : Nat} (h : isDg (chT T q) = false) : dgR T (true, q) = ((false, q), 0) := if_neg fun x => by rw [show chT T (true, q).2 = chT T q from rfl, h] at x; exact absurd x.2 (by decide)
theorem nbR_n {T : TXV} {q : Nat} (h : isDg (chT T q) = false) : nbR T (true, q) = ((false, q), 0) := by unfold nbR; rw [dgR_n h]; exact if_neg fun x => absurd (show false = true from x.1) (by decide)
theorem nbR_1 {T : TXV} {q : Nat} (h : isDg (chT T q) = true) (h2 : isDg (chT T (q + 1)) = false) : nbR T (true, q) = ((true, q + 1), chT T q - 48) := by
  unfold nbR
  rw [dgR_y h]
  exact if_neg fun x => by have x := x.2; rw [show chT T ((true, q + 1), chT T q - 48).1.2 = chT T (q + 1) from rfl, h2] at x; exact absurd x (by decide)
theorem nbR_2 {T : TXV} {q : Nat} (h : isDg (chT T q) = true) (h2 : isDg (chT T (q + 1)) = true) : nbR T (true, q) = ((true, q + 1 + 1), 10 * (chT T q - 48) + (chT T (q + 1) - 48)) := by
  unfold nbR
  rw [dgR_y h]
  exact if_pos ⟨rfl, h2⟩
theorem m_here {l : Launch} {g : jG} (hok : jOk g) (hst : l.stackTraces = false) {z : Option Nat} {sk : jS} {t : jT} {M : Nat} (hM : isMod g sk M) {T : TXV} {p0 : Nat} (hx : RX t M T p0)  : jMet l g mX10_here 1 0 0 [.ref (jb g + M)] z sk t (jE (some (.int (iN (chT T p0)))) z sk t) := by
  refine j_body (lv := [some (.ref (jb g + M))]) i_X10_here hok hst (fun p e s m args below meth c X => ?_)
  obtain ⟨M0, M1, M2, M3, M4, M5, M6, M7⟩ := id hM
  obtain ⟨⟨a1, a2⟩, a3, a4, a5, a6⟩ := id hx
  refine j_aload_n X (i := 0) dX10_here_0 rfl rfl ?_
  refine jFd.get X fd_X10_182 M0 rfl dX10_here_1 ?_
  refine j_aload_n X (i := 0) dX10_here_4 rfl rfl ?_
  refine jFd.get X fd_X10_179 M0 rfl dX10_here_5 ?_
  rw [a3, a1]
  by_cases q : p0 < T.1
  · refine j_icmp_ge X (tgt := 23) dX10_here_8 (by decide) (fun q9 => absurd q9 (nI_ge q (by omega))) (fun _ => ?_)
    refine j_aload_n X (i := 0) dX10_here_11 rfl rfl ?_
    refine jFd.get X fd_X10_22 M0 rfl dX10_here_12 ?_
    refine j_aload_n X (i := 0) dX10_here_15 rfl rfl ?_
    refine jFd.get X fd_X10_182 M0 rfl dX10_here_16 ?_
    rw [a3]
    refine j_iald X M5 rfl (by omega) (by decide) dX10_here_19 ?_
    rw [a2 p0 q]
    refine j_goto X (tgt := 24) dX10_here_20 (by decide) ?_
    exact j_iret X dX10_here_24 rfl rfl ⟨by rw [show chT T p0 = ((T.2 p0 : Nat) : Int) from if_pos q, iN_nI], rfl, rfl, rfl⟩
  · refine j_icmp_ge X (tgt := 23) dX10_here_8 (by decide) (fun _ => ?_) (fun q9 => absurd (nI_le (by omega) (by omega)) q9)
    refine j_iconst X (v := -1) dX10_here_23 (by decide) ?_
    exact j_iret X dX10_here_24 rfl rfl ⟨by rw [show chT T p0 = -1 from if_neg q]; rfl, rfl, rfl, rfl⟩

theorem m_skips {l : Launch} {g : jG} (hok : jOk g) (hst : l.stackTraces = false) {z : Option Nat} {sk : jS} {t : jT} {M : Nat} (hM : isMod g sk M) {T : TXV} {p0 : Nat} (hx : RX t M T p0) {c0 : Nat} (hc0 : c0 < 65536) {ci : Int} (hci : ci = (c0 : Int)) : jMet l g mX10_skips 2 0 0 [.ref (jb g + M), .int (nI c0)] z sk t (rP M T (sgR T ci (true, p0)) (fun f => f = t (M + 7)) z sk t) := by
  refine j_body (lv := [some (.ref (jb g + M)), some (.int (nI c0))]) i_X10_skips hok hst (fun p e s m args below meth c X => ?_)
  obtain ⟨M0, M1, M2, M3, M4, M5, M6, M7⟩ := id hM
  subst hci
  obtain ⟨⟨a1, a2⟩, a3, a4, a5, a6⟩ := id hx
  obtain ⟨b1, b2⟩ := chT_lt a6 p0
  refine j_aload_n X (i := 0) dX10_skips_0 rfl rfl ?_
  refine j_callV X (m_here hok hst hM hx) i_X10_here tw_7_218 tw_7_220 tp_55 M0 rfl dX10_skips_1 ?_ 
  refine j_iload_n X (i := 1) dX10_skips_4 rfl rfl ?_
  by_cases q : chT T p0 = (c0 : Int)
  · refine j_icmp_eq X (tgt := 10) dX10_skips_5 (by decide) (fun _ => ?_) (fun q9 => absurd ((iN_ch b1 b2 hc0).mpr q) q9)
    refine j_aload_n X (i := 0) dX10_skips_10 rfl rfl ?_
    refine j_dup X dX10_skips_11 rfl ?_
    refine jFd.get X fd_X10_182 M0 rfl dX10_skips_12 ?_
    rw [a3]
    refine j_iconst X (v := (nI 1)) dX10_skips_15 (by decide) ?_
    refine j_iadd X dX10_skips_16 ?_
    rw [nI_add]
    refine jFd.put X fd_X10_182 M0 rfl rfl rfl rfl dX10_skips_17 ?_
    refine j_iconst X (v := (nI 1)) dX10_skips_20 (by decide) ?_
    have hlt : p0 < T.1 := chT_pos (by omega)
    rw [sgR_y q]
    exact j_iret X dX10_skips_21 rfl rfl ⟨rfl, rfl, rfl, hx.go (by rw [jU_eq]; rfl) (by rw [jU_eq]; rfl) (jU_ne _ _ _ (by omega)) hlt, fun k hk => by rw [jU_eq]; exact if_neg hk, fun c hc _ => jU_ne _ _ _ hc, jU_ne _ _ _ (by omega)⟩
  · refine j_icmp_eq X (tgt := 10) dX10_skips_5 (by decide) (fun q9 => absurd q9 (fun z9 => q ((iN_ch b1 b2 hc0).mp z9))) (fun _ => ?_)
    rw [sgR_n q]
    refine j_iconst X (v := (nI 0)) dX10_skips_8 (by decide) ?_
    exact j_iret X dX10_skips_9 rfl rfl ⟨rfl, rfl, rfl, hx, fun _ _ => rfl, fun _ _ _ => rfl, rfl⟩

theorem m_fig {l : Launch} {g : jG} (hok : jOk g) (hst : l.stackTraces = false) {z : Option Nat} {sk : jS} {t : jT} {M : Nat} (hM : isMod g sk M) {T : TXV} {p0 : Nat} (hx : RX t M T p0) {c0 : Nat} (hc0 : c0 < 65536) {si : Int} (hci : si = (c0 : Int)) {n : Nat} (hn : n = 1 ∨ n = 2) {o : Nat} (ho : o < 124) : jMet l g mX10_figures 3 0 0 [.ref (jb g + M), .int (nI c0), .int (nI o), .int (nI n)] z sk t (rP M T (fgR T n (sgR T si (true, p0))).1 (fun f => (∀ j, j ≠ o → f j = t (M + 7) j) ∧ ((fgR T n (sgR T si (true, p0))).1.1 = true → f o = iN (fgR T n (sgR T si (true, p0))).2)) z sk t) := by
  refine j_body (lv := [some (.ref (jb g + M)), some (.int (nI c0)), some (.int (nI o)), some (.int (nI n)), none]) i_X10_figures hok hst (fun p e s m args below meth c X => ?_)
  obtain ⟨M0, M1, M2, M3, M4, M5, M6, M7⟩ := id hM
  refine j_aload_n X (i := 0) dX10_figures_0 rfl rfl ?_
  refine j_iload_n X (i := 1) dX10_figures_1 rfl rfl ?_
  refine j_callV_p X (m_skips hok hst hM hx hc0 hci) i_X10_skips tw_7_214 tw_7_216 tp_54 M0 rfl dX10_figures_2 (fun v2 z2 sk2 t2 hp => ?_) 
  obtain ⟨rfl, rfl, rfl, hx1, e1, f1, o1⟩ := hp
  generalize hu : sgR T si (true, p0) = u at hx1 ⊢
  obtain ⟨b, q⟩ := u
  cases b with
  | false =>
    refine j_if_eq X (tgt := 22) dX10_figures_5 (by decide) (fun _ => ?_) (fun q9 => absurd (rfl) q9)
    refine j_iconst X (v := (nI 0)) dX10_figures_22 (by decide) ?_
    rw [fgR_f]
    exact j_iret X dX10_figures_23 rfl rfl ⟨rfl, rfl, rfl, hx1, e1, f1, fun j _ => by rw [o1], fun z9 => absurd (show false = true from z9) (by decide)⟩
  | true =>
    have hx1 : RX t2 M T q := hx1
    obtain ⟨b1, b2⟩ := chT_lt hx1.2.2.2.2 q
    refine j_if_eq X (tgt := 22) dX10_figures_5 (by decide) (fun q9 => absurd q9 ((show ¬ nI (true : Bool).toNat = 0 by decide))) (fun _ => ?_)
    refine j_aload_n X (i := 0) dX10_figures_8 rfl rfl ?_
    refine j_callV X (m_here hok hst hM hx1) i_X10_here tw_7_218 tw_7_220 tp_55 M0 rfl dX10_figures_9 ?_ 
    refine j_bipush X (v := (nI 48)) dX10_figures_12 (by decide) ?_
    refine j_bipush X (v := (nI 57)) dX10_figures_14 (by decide) ?_
    refine j_callS X (m_in hok hst _ _ _) i_X10_in tw_6_154 tw_6_155 dX10_figures_16 ?_ 
    rw [inB_dg b1 b2]
    cases hd : isDg (chT T q) with
    | false =>
      refine j_if_ne X (tgt := 24) dX10_figures_19 (by decide) (fun q9 => absurd (rfl) q9) (fun _ => ?_)
      refine j_iconst X (v := (nI 0)) dX10_figures_22 (by decide) ?_
      rw [show fgR T n (true, q) = ((false, q), 0) by unfold fgR; rw [dgR_n hd, nbR_n hd]; split <;> rfl]
      exact j_iret X dX10_figures_23 rfl rfl ⟨rfl, rfl, rfl, hx1, e1, f1, fun j _ => by rw [o1], fun z9 => absurd (show false = true from z9) (by decide)⟩
    | true =>
      refine j_if_ne X (tgt := 24) dX10_figures_19 (by decide) (fun _ => ?_) (fun q9 => absurd q9 (by decide))
      refine j_aload_n X (i := 0) dX10_figures_24 rfl rfl ?_
      refine jFd.get X fd_X10_36 M0 rfl dX10_figures_25 ?_
      refine j_iload_n X (i := 2) dX10_figures_28 rfl rfl ?_
      refine j_iconst X (v := (nI 0)) dX10_figures_29 (by decide) ?_
      refine j_iast X M7 rfl ho (by decide) dX10_figures_30 ?_
      refine j_iconst X (v := (nI 0)) dX10_figures_31 (by decide) ?_
      refine j_istore X (i := 4) dX10_figures_32 (by decide) rfl ?_
      have end_ : ∀ (k : Nat) (v : Int) (q2 : Nat) (t3 : jT), RX t3 M T q2 → (∀ k, k ≠ 18 → t3 M k = t M k) → (∀ c, c ≠ M → c ≠ M + 7 → t3 c = t c) → (∀ j, j ≠ o → t3 (M + 7) j = t (M + 7) j) → t3 (M + 7) o = iN v → k ≤ n → (k = n ∨ isDg (chT T q2) = false) → fgR T n (true, q) = ((true, q2), v) → J p l e (jR 3 0 0) s m args below meth c (jQm below args s g 0 0 (rP M T (fgR T n (true, q)).1 (fun f => (∀ j, j ≠ o → f j = t (M + 7) j) ∧ ((fgR T n (true, q)).1.1 = true → f o = iN (fgR T n (true, q)).2)) z sk t)) 5 g 0 0 z sk t3 34 [some (.ref (jb g + M)), some (.int (nI c0)), some (.int (nI o)), some (.int (nI n)), some (.int (nI k))] [] := fun k v q2 t3 x3 e3 f3 o3 v3 hkn hk hr => by
        rw [hr]
        refine j_iload X (i := 4) dX10_figures_34 rfl ?_
        refine j_iload_n X (i := 3) dX10_figures_36 rfl rfl ?_
        by_cases hkk : k = n
        · refine j_icmp_ge X (tgt := 93) dX10_figures_37 (by decide) (fun _ => ?_) (fun q9 => absurd (nI_le (by omega) (by omega)) q9)
          refine j_iconst X (v := (nI 1)) dX10_figures_93 (by decide) ?_
          exact j_iret X dX10_figures_94 rfl rfl ⟨rfl, rfl, rfl, x3, e3, f3, o3, fun _ => v3⟩
        · refine j_icmp_ge X (tgt := 93) dX10_figures_37 (by decide) (fun q9 => absurd q9 (nI_ge (show k < n by omega) (by omega))) (fun _ => ?_)
          obtain ⟨b1, b2⟩ := chT_lt x3.2.2.2.2 q2
          refine j_aload_n X (i := 0) dX10_figures_40 rfl rfl ?_
          refine j_callV X (m_here hok hst hM x3) i_X10_here tw_7_218 tw_7_220 tp_55 M0 rfl dX10_figures_41 ?_ 
          refine j_bipush X (v := (nI 48)) dX10_figures_44 (by decide) ?_
          refine j_bipush X (v := (nI 57)) dX10_figures_46 (by decide) ?_
          refine j_callS X (m_in hok hst _ _ _) i_X10_in tw_6_154 tw_6_155 dX10_figures_48 ?_ 
          rw [inB_dg b1 b2, show isDg (chT T q2) = false by rcases hk with hk | hk; exact absurd hk hkk; exact hk]
          refine j_if_eq X (tgt := 93) dX10_figures_51 (by decide) (fun _ => ?_) (fun q9 => absurd (rfl) q9)
          refine j_iconst X (v := (nI 1)) dX10_figures_93 (by decide) ?_
          exact j_iret X dX10_figures_94 rfl rfl ⟨rfl, rfl, rfl, x3, e3, f3, o3, fun _ => v3⟩
      have go : ∀ (k : Nat) (v : Int) (q2 : Nat) (t3 : jT), RX t3 M T q2 → (∀ k, k ≠ 18 → t3 M k = t M k) → (∀ c, c ≠ M → c ≠ M + 7 → t3 c = t c) → (∀ j, j ≠ o → t3 (M + 7) j = t (M + 7) j) → t3 (M + 7) o = iN v → k < n → isDg (chT T q2) = true → (∀ t3, RX t3 M T (q2 + 1) → (∀ k, k ≠ 18 → t3 M k = t M k) → (∀ c, c ≠ M → c ≠ M + 7 → t3 c = t c) → (∀ j, j ≠ o → t3 (M + 7) j = t (M + 7) j) → t3 (M + 7) o = iN (10 * v + (chT T q2 - 48)) → J p l e (jR 3 0 0) s m args below meth c (jQm below args s g 0 0 (rP M T (fgR T n (true, q)).1 (fun f => (∀ j, j ≠ o → f j = t (M + 7) j) ∧ ((fgR T n (true, q)).1.1 = true → f o = iN (fgR T n (true, q)).2)) z sk t)) 5 g 0 0 z sk t3 34 [some (.ref (jb g + M)), some (.int (nI c0)), some (.int (nI o)), some (.int (nI n)), some (.int (nI (k + 1)))] []) → J p l e (jR 3 0 0) s m args below meth c (jQm below args s g 0 0 (rP M T (fgR T n (true, q)).1 (fun f => (∀ j, j ≠ o → f j = t (M + 7) j) ∧ ((fgR T n (true, q)).1.1 = true → f o = iN (fgR T n (true, q)).2)) z sk t)) 5 g 0 0 z sk t3 34 [some (.ref (jb g + M)), some (.int (nI c0)), some (.int (nI o)), some (.int (nI n)), some (.int (nI k))] [] := fun k v q2 t3 x3 e3 f3 o3 v3 hkn hk kk => by
        obtain ⟨b1, b2⟩ := chT_lt x3.2.2.2.2 q2
        have hlt : q2 < T.1 := chT_pos (by have := isDg_pos hk; omega)
        refine j_iload X (i := 4) dX10_figures_34 rfl ?_
        refine j_iload_n X (i := 3) dX10_figures_36 rfl rfl ?_
        refine j_icmp_ge X (tgt := 93) dX10_figures_37 (by decide) (fun q9 => absurd q9 (nI_ge hkn (by omega))) (fun _ => ?_)
        refine j_aload_n X (i := 0) dX10_figures_40 rfl rfl ?_
        refine j_callV X (m_here hok hst hM x3) i_X10_here tw_7_218 tw_7_220 tp_55 M0 rfl dX10_figures_41 ?_ 
        refine j_bipush X (v := (nI 48)) dX10_figures_44 (by decide) ?_
        refine j_bipush X (v := (nI 57)) dX10_figures_46 (by decide) ?_
        refine j_callS X (m_in hok hst _ _ _) i_X10_in tw_6_154 tw_6_155 dX10_figures_48 ?_ 
        rw [inB_dg b1 b2, hk]
        refine j_if_eq X (tgt := 93) dX10_figures_51 (by decide) (fun q9 => absurd q9 (by decide)) (fun _ => ?_)
        refine j_aload_n X (i := 0) dX10_figures_54 rfl rfl ?_
        refine jFd.get X fd_X10_36 M0 rfl dX10_figures_55 ?_
        refine j_iload_n X (i := 2) dX10_figures_58 rfl rfl ?_
        refine j_bipush X (v := (nI 10)) dX10_figures_59 (by decide) ?_
        refine j_aload_n X (i := 0) dX10_figures_61 rfl rfl ?_
        refine jFd.get X fd_X10_36 M0 rfl dX10_figures_62 ?_
        refine j_iload_n X (i := 2) dX10_figures_65 rfl rfl ?_
        refine j_iald X M7 rfl ho (by decide) dX10_figures_66 ?_
        rw [v3]
        refine j_imul X dX10_figures_67 ?_
        refine j_aload_n X (i := 0) dX10_figures_68 rfl rfl ?_
        refine j_callV X (m_here hok hst hM x3) i_X10_here tw_7_218 tw_7_220 tp_55 M0 rfl dX10_figures_69 ?_ 
        refine j_iadd X dX10_figures_72 ?_
        refine j_bipush X (v := (nI 48)) dX10_figures_73 (by decide) ?_
        refine j_isub X dX10_figures_75 ?_
        rw [show nI 10 * iN v + iN (chT T q2) - nI 48 = iN (10 * v + (chT T q2 - 48)) by rw [← iN_nI 10, ← iN_nI 48, iN_mul, iN_add, iN_sub]; exact congrArg iN (by omega)]
        refine j_iast X M7 rfl ho (by decide) dX10_figures_76 ?_
        refine j_aload_n X (i := 0) dX10_figures_77 rfl rfl ?_
        refine j_dup X dX10_figures_78 rfl ?_
        refine jFd.get X fd_X10_182 M0 rfl dX10_figures_79 ?_
        rw [jU_ne _ _ _ (show M ≠ M + 7 by omega), x3.2.1]
        refine j_iconst X (v := (nI 1)) dX10_figures_82 (by decide) ?_
        refine j_iadd X dX10_figures_83 ?_
        rw [nI_add]
        refine jFd.put X fd_X10_182 M0 rfl rfl rfl rfl dX10_figures_84 ?_
        refine j_iinc X (i := 4) (v := (nI (k + 1))) dX10_figures_87 rfl (nI_1 k) (by decide) rfl ?_
        refine j_goto X (tgt := 34) dX10_figures_90 (by decide) ?_
        have eM : (jU (jU t3 (M + 7) o (iN (10 * v + (chT T q2 - 48)))) M 18 (nI (q2 + 1))) M = upd (t3 M) 18 (nI (q2 + 1)) := by rw [jU_eq, jU_ne _ _ _ (by omega)]
        have e7 : (jU (jU t3 (M + 7) o (iN (10 * v + (chT T q2 - 48)))) M 18 (nI (q2 + 1))) (M + 7) = upd (t3 (M + 7)) o (iN (10 * v + (chT T q2 - 48))) := by rw [jU_ne _ _ _ (by omega), jU_eq]
        have ec : ∀ c, c ≠ M → c ≠ M + 7 → (jU (jU t3 (M + 7) o (iN (10 * v + (chT T q2 - 48)))) M 18 (nI (q2 + 1))) c = t3 c := fun c h1 h2 => by rw [jU_ne _ _ _ h1, jU_ne _ _ _ h2]
        refine kk _ (x3.go (by rw [eM]; rfl) (by rw [eM]; rfl) (ec _ (by omega) (by omega)) hlt) (fun k hk => by rw [eM]; exact (if_neg hk).trans (e3 k hk)) (fun c h1 h2 => (ec c h1 h2).trans (f3 c h1 h2)) (fun j hj => by rw [e7]; exact (if_neg hj).trans (o3 j hj)) (by rw [e7]; exact if_pos rfl)
      have c7 : ∀ c, c ≠ M + 7 → jU t2 (M + 7) o (nI 0) c = t2 c := fun c hc => jU_ne _ _ _ hc
      have c8 : jU t2 (M + 7) o (nI 0) (M + 7) = upd (t2 (M + 7)) o (nI 0) := jU_eq _ _ _ _
      refine go 0 0 q _ (hx1.go (by rw [c7 _ (by omega)]) (by rw [c7 _ (by omega)]; exact hx1.2.1) (c7 _ (by omega)) hx1.2.2.1) (fun k hk => by rw [c7 _ (by omega)]; exact e1 k hk) (fun c h1 h2 => (c7 c h2).trans (f1 c h1 h2)) (fun j hj => by rw [c8, o1]; exact if_neg hj) (by rw [c8]; exact if_pos rfl) (by omega) hd (fun t3 x3 e3 f3 o3 v3 => ?_)
      rw [show 10 * 0 + (chT T q - 48) = chT T q - 48 by omega] at v3
      rcases hn with rfl | rfl
      · exact end_ 1 _ _ t3 x3 e3 f3 o3 v3 (Nat.le_refl _) (Or.inl rfl) (dgR_y hd)
      · cases hd2 : isDg (chT T (q + 1)) with
        | false => exact end_ 1 _ _ t3 x3 e3 f3 o3 v3 (by decide) (Or.inr hd2) (nbR_1 hd hd2)
        | true => exact go 1 _ _ t3 x3 e3 f3 o3 v3 (by decide) hd2 (fun t4 x4 e4 f4 o4 v4 => end_ 2 _ _ t4 x4 e4 f4 o4 v4 (Nat.le_refl _) (Or.inl rfl) (nbR_2 hd hd2))

theorem m_signed {l : Launch} {g : jG} (hok : jOk g) (hst : l.stackTraces = false) {z : Option Nat} {sk : jS} {t : jT} {M : Nat} (hM : isMod g sk M) {T : TXV} {p0 : Nat} (hx : RX t M T p0) {o : Nat} (ho : o < 124) : jMet l g mX10_signed 4 0 0 [.ref (jb g + M), .int (nI o)] z sk t (rP M T (sdR T (true, p0)).1 (fun f => (∀ j, j ≠ o → f j = t (M + 7) j) ∧ ((sdR T (true, p0)).1.1 = true → f o = iN (sdR T (true, p0)).2)) z sk t) := by
  refine j_body (lv := [some (.ref (jb g + M)), some (.int (nI o))]) i_X10_signed hok hst (fun p e s m args below meth c X => ?_)
  obtain ⟨M0, M1, M2, M3, M4, M5, M6, M7⟩ := id hM
  obtain ⟨b1, b2⟩ := chT_lt hx.2.2.2.2 p0
  refine j_aload_n X (i := 0) dX10_signed_0 rfl rfl ?_
  refine j_callV X (m_here hok hst hM hx) i_X10_here tw_7_218 tw_7_220 tp_55 M0 rfl dX10_signed_1 ?_ 
  refine j_bipush X (v := (nI 45)) dX10_signed_4 (by decide) ?_
  by_cases h45 : chT T p0 = 45
  · refine j_icmp_eq X (tgt := 18) dX10_signed_6 (by decide) (fun _ => ?_) (fun q9 => absurd ((iN_ch (c := 45) b1 b2 (by decide)).mpr h45) q9)
    refine j_aload_n X (i := 0) dX10_signed_18 rfl rfl ?_
    refine j_bipush X (v := (nI 45)) dX10_signed_19 (by decide) ?_
    refine j_iload_n X (i := 1) dX10_signed_21 rfl rfl ?_
    refine j_iconst X (v := (nI 1)) dX10_signed_22 (by decide) ?_
    refine j_callV_p X (m_fig hok hst hM hx (c0 := 45) (by decide) (si := 45) rfl (n := 1) (Or.inl rfl) ho) i_X10_figures tw_7_233 tw_7_235 tp_58 M0 rfl dX10_signed_23 (fun v2 z2 sk2 t2 hp => ?_) 
    obtain ⟨rfl, rfl, rfl, hx1, e1, f1, o1, v1⟩ := hp
    rw [sgR_y h45, show fgR T 1 (true, p0 + 1) = dgR T (true, p0 + 1) from rfl] at hx1 v1 ⊢
    rw [show sdR T (true, p0) = ((dgR T (true, p0 + 1)).1, -(dgR T (true, p0 + 1)).2) from if_pos ⟨rfl, h45⟩]
    generalize dgR T (true, p0 + 1) = u at hx1 v1 ⊢
    obtain ⟨⟨b, q⟩, v⟩ := u
    cases b with
    | false =>
      refine j_if_ne X (tgt := 31) dX10_signed_26 (by decide) (fun q9 => absurd (rfl) q9) (fun _ => ?_)
      refine j_iconst X (v := (nI 0)) dX10_signed_29 (by decide) ?_
      exact j_iret X dX10_signed_30 rfl rfl ⟨rfl, rfl, rfl, hx1, e1, f1, o1, fun z9 => absurd (show false = true from z9) (by decide)⟩
    | true =>
      refine j_if_ne X (tgt := 31) dX10_signed_26 (by decide) (fun _ => ?_) (fun q9 => absurd q9 ((show ¬ nI (true : Bool).toNat = 0 by decide)))
      refine j_aload_n X (i := 0) dX10_signed_31 rfl rfl ?_
      refine jFd.get X fd_X10_36 M0 rfl dX10_signed_32 ?_
      refine j_iload_n X (i := 1) dX10_signed_35 rfl rfl ?_
      refine j_aload_n X (i := 0) dX10_signed_36 rfl rfl ?_
      refine jFd.get X fd_X10_36 M0 rfl dX10_signed_37 ?_
      refine j_iload_n X (i := 1) dX10_signed_40 rfl rfl ?_
      refine j_iald X M7 rfl ho (by decide) dX10_signed_41 ?_
      rw [v1 rfl]
      refine j_ineg X dX10_signed_42 ?_
      rw [iN_neg]
      refine j_iast X M7 rfl ho (by decide) dX10_signed_43 ?_
      refine j_iconst X (v := (nI 1)) dX10_signed_44 (by decide) ?_
      have c7 : ∀ c, c ≠ M + 7 → jU t2 (M + 7) o (iN (-v)) c = t2 c := fun c hc => jU_ne _ _ _ hc
      have c8 : jU t2 (M + 7) o (iN (-v)) (M + 7) = upd (t2 (M + 7)) o (iN (-v)) := jU_eq _ _ _ _
      exact j_iret X dX10_signed_45 rfl rfl ⟨rfl, rfl, rfl, hx1.go (by rw [c7 _ (by omega)]) (by rw [c7 _ (by omega)]; exact hx1.2.1) (c7 _ (by omega)) hx1.2.2.1, fun k hk => by rw [c7 _ (by omega)]; exact e1 k hk, fun c h1 h2 => (c7 c h2).trans (f1 c h1 h2), fun j hj => by rw [c8]; exact (if_neg hj).trans (o1 j hj), fun _ => by rw [c8]; exact if_pos rfl⟩
  · refine j_icmp_eq X (tgt := 18) dX10_signed_6 (by decide) (fun q9 => absurd q9 (fun z9 => h45 ((iN_ch (c := 45) b1 b2 (by decide)).mp z9))) (fun _ => ?_)
    refine j_aload_n X (i := 0) dX10_signed_9 rfl rfl ?_
    refine j_bipush X (v := (nI 43)) dX10_signed_10 (by decide) ?_
    refine j_iload_n X (i := 1) dX10_signed_12 rfl rfl ?_
    refine j_iconst X (v := (nI 1)) dX10_signed_13 (by decide) ?_
    refine j_callV_p X (m_fig hok hst hM hx (c0 := 43) (by decide) (si := 43) rfl (n := 1) (Or.inl rfl) ho) i_X10_figures tw_7_233 tw_7_235 tp_58 M0 rfl dX10_signed_14 (fun v2 z2 sk2 t2 hp => ?_) 
    obtain ⟨rfl, rfl, rfl, hx1, e1, f1, o1, v1⟩ := hp
    rw [show sdR T (true, p0) = dgR T (sgR T 43 (true, p0)) from if_neg fun x => h45 x.2]
    exact j_iret X dX10_signed_17 rfl (nbB _) ⟨rfl, rfl, rfl, hx1, e1, f1, o1, v1⟩

theorem m_ink {l : Launch} {g : jG} (hok : jOk g) (hst : l.stackTraces = false) {z : Option Nat} {sk : jS} {t : jT} {M : Nat} (hM : isMod g sk M) {T : TXV} {p0 : Nat} (hx : RX t M T p0) {o : Nat} (ho : o < 124) : jMet l g mX10_inkHere 3 0 0 [.ref (jb g + M), .int (nI o)] z sk t (rP M T (ikR T (true, p0)).1 (fun f => (∀ j, j ≠ o → f j = t (M + 7) j) ∧ ((ikR T (true, p0)).1.1 = true → f o = iN (ikR T (true, p0)).2)) z sk t) := by
  refine j_body (lv := [some (.ref (jb g + M)), some (.int (nI o))]) i_X10_inkHere hok hst (fun p e s m args below meth c X => ?_)
  obtain ⟨M0, M1, M2, M3, M4, M5, M6, M7⟩ := id hM
  obtain ⟨b1, b2⟩ := chT_lt hx.2.2.2.2 p0
  have st : ∀ v : Int, RX (jU t (M + 7) o (iN v)) M T p0 ∧ (∀ k, k ≠ 18 → jU t (M + 7) o (iN v) M k = t M k) ∧ (∀ c, c ≠ M → c ≠ M + 7 → jU t (M + 7) o (iN v) c = t c) ∧ (∀ j, j ≠ o → jU t (M + 7) o (iN v) (M + 7) j = t (M + 7) j) ∧ jU t (M + 7) o (iN v) (M + 7) o = iN v := fun v => by
    have c7 : ∀ c, c ≠ M + 7 → jU t (M + 7) o (iN v) c = t c := fun c hc => jU_ne _ _ _ hc
    refine ⟨hx.go (by rw [c7 _ (by omega)]) (by rw [c7 _ (by omega)]; exact hx.2.1) (c7 _ (by omega)) hx.2.2.1, fun k _ => by rw [c7 _ (by omega)], fun c _ h2 => c7 c h2, fun j hj => by rw [jU_eq]; exact if_neg hj, by rw [jU_eq]; exact if_pos rfl⟩
  refine j_aload_n X (i := 0) dX10_inkHere_0 rfl rfl ?_
  refine jFd.get X fd_X10_36 M0 rfl dX10_inkHere_1 ?_
  refine j_iload_n X (i := 1) dX10_inkHere_4 rfl rfl ?_
  refine j_aload_n X (i := 0) dX10_inkHere_5 rfl rfl ?_
  refine j_callV X (m_here hok hst hM hx) i_X10_here tw_7_218 tw_7_220 tp_55 M0 rfl dX10_inkHere_6 ?_ 
  refine j_bipush X (v := (nI 99)) dX10_inkHere_9 (by decide) ?_
  by_cases h1 : chT T p0 = 99
  · refine j_icmp_ne X (tgt := 18) dX10_inkHere_11 (by decide) (fun q9 => absurd (((iN_ch (c := 99) b1 b2 (by decide)).mpr h1)) q9) (fun _ => ?_)
    refine j_iconst X (v := (nI 1)) dX10_inkHere_14 (by decide) ?_
    refine j_goto X (tgt := 32) dX10_inkHere_15 (by decide) ?_
    refine j_iast X M7 rfl ho (by decide) dX10_inkHere_32 ?_
    obtain ⟨x3, e3, f3, o3, v3⟩ := st 1
    rw [show jU t (M + 7) o (nI 1) = jU t (M + 7) o (iN 1) from rfl]
    generalize jU t (M + 7) o (iN 1) = t3 at x3 e3 f3 o3 v3 ⊢
    rw [show ikR T (true, p0) = ((true, p0 + 1), 1) from if_pos ⟨rfl, h1⟩]
    refine j_aload_n X (i := 0) dX10_inkHere_33 rfl rfl ?_
    refine j_bipush X (v := (nI 99)) dX10_inkHere_34 (by decide) ?_
    refine j_callV_p X (m_skips hok hst hM x3 (c0 := 99) (by decide) (ci := 99) rfl) i_X10_skips tw_7_214 tw_7_216 tp_54 M0 rfl dX10_inkHere_36 (fun v2 z2 sk2 t2 hp => ?_) 
    rw [sgR_y h1] at hp
    obtain ⟨rfl, rfl, rfl, hx1, e1, f1, o1⟩ := hp
    refine j_if_ne X (tgt := 60) dX10_inkHere_39 (by decide) (fun _ => ?_) (fun q9 => absurd q9 ((show ¬ nI (true : Bool).toNat = 0 by decide)))
    refine j_iconst X (v := (nI 1)) dX10_inkHere_60 (by decide) ?_
    refine j_goto X (tgt := 65) dX10_inkHere_61 (by decide) ?_
    exact j_iret X dX10_inkHere_65 rfl rfl ⟨rfl, rfl, rfl, hx1, fun k hk => (e1 k hk).trans (e3 k hk), fun c q1 q2 => (f1 c q1 q2).trans (f3 c q1 q2), fun j hj => by rw [o1]; exact o3 j hj, fun _ => by rw [o1]; exact v3⟩
  · refine j_icmp_ne X (tgt := 18) dX10_inkHere_11 (by decide) (fun _ => ?_) (fun q9 => absurd q9 ((fun z9 => h1 ((iN_ch (c := 99) b1 b2 (by decide)).mp z9))))
    refine j_aload_n X (i := 0) dX10_inkHere_18 rfl rfl ?_
    refine j_callV X (m_here hok hst hM hx) i_X10_here tw_7_218 tw_7_220 tp_55 M0 rfl dX10_inkHere_19 ?_ 
    refine j_bipush X (v := (nI 109)) dX10_inkHere_22 (by decide) ?_
    by_cases h2 : chT T p0 = 109
    · refine j_icmp_ne X (tgt := 31) dX10_inkHere_24 (by decide) (fun q9 => absurd (((iN_ch (c := 109) b1 b2 (by decide)).mpr h2)) q9) (fun _ => ?_)
      refine j_iconst X (v := (nI 2)) dX10_inkHere_27 (by decide) ?_
      refine j_goto X (tgt := 32) dX10_inkHere_28 (by decide) ?_
      refine j_iast X M7 rfl ho (by decide) dX10_inkHere_32 ?_
      obtain ⟨x3, e3, f3, o3, v3⟩ := st 2
      rw [show jU t (M + 7) o (nI 2) = jU t (M + 7) o (iN 2) from rfl]
      generalize jU t (M + 7) o (iN 2) = t3 at x3 e3 f3 o3 v3 ⊢
      rw [show ikR T (true, p0) = ((true, p0 + 1), 2) from (if_neg fun x => h1 x.2).trans (if_pos ⟨rfl, h2⟩)]
      refine j_aload_n X (i := 0) dX10_inkHere_33 rfl rfl ?_
      refine j_bipush X (v := (nI 99)) dX10_inkHere_34 (by decide) ?_
      refine j_callV_p X (m_skips hok hst hM x3 (c0 := 99) (by decide) (ci := 99) rfl) i_X10_skips tw_7_214 tw_7_216 tp_54 M0 rfl dX10_inkHere_36 (fun v2 z2 sk2 t2 hp => ?_) 
      rw [sgR_n h1] at hp
      obtain ⟨rfl, rfl, rfl, hx9, e9, f9, o9⟩ := hp
      refine j_if_ne X (tgt := 60) dX10_inkHere_39 (by decide) (fun q9 => absurd (rfl) q9) (fun _ => ?_)
      rename_i t4
      refine j_aload_n X (i := 0) dX10_inkHere_42 rfl rfl ?_
      refine j_bipush X (v := (nI 109)) dX10_inkHere_43 (by decide) ?_
      refine j_callV_p X (m_skips hok hst hM hx9 (c0 := 109) (by decide) (ci := 109) rfl) i_X10_skips tw_7_214 tw_7_216 tp_54 M0 rfl dX10_inkHere_45 (fun v2 z2 sk2 t2 hp => ?_) 
      rw [show (false, p0).2 = p0 from rfl, sgR_y h2] at hp
      obtain ⟨rfl, rfl, rfl, hx1, e1, f1, o1⟩ := hp
      refine j_if_ne X (tgt := 60) dX10_inkHere_48 (by decide) (fun _ => ?_) (fun q9 => absurd q9 ((show ¬ nI (true : Bool).toNat = 0 by decide)))
      refine j_iconst X (v := (nI 1)) dX10_inkHere_60 (by decide) ?_
      refine j_goto X (tgt := 65) dX10_inkHere_61 (by decide) ?_
      exact j_iret X dX10_inkHere_65 rfl rfl ⟨rfl, rfl, rfl, hx1, fun k hk => (e1 k hk).trans ((e9 k hk).trans (e3 k hk)), fun c q1 q2 => (f1 c q1 q2).trans ((f9 c q1 q2).trans (f3 c q1 q2)), fun j hj => by rw [o1, o9]; exact o3 j hj, fun _ => by rw [o1, o9]; exact v3⟩
    · refine j_icmp_ne X (tgt := 31) dX10_inkHere_24 (by decide) (fun _ => ?_) (fun q9 => absurd q9 ((fun z9 => h2 ((iN_ch (c := 109) b1 b2 (by decide)).mp z9))))
      refine j_iconst X (v := (nI 4)) dX10_inkHere_31 (by decide) ?_
      refine j_iast X M7 rfl ho (by decide) dX10_inkHere_32 ?_
      obtain ⟨x3, e3, f3, o3, v3⟩ := st 4
      rw [show jU t (M + 7) o (nI 4) = jU t (M + 7) o (iN 4) from rfl]
      generalize jU t (M + 7) o (iN 4) = t3 at x3 e3 f3 o3 v3 ⊢
      have hr : ikR T (true, p0) = if chT T p0 = 121 then ((true, p0 + 1), 4) else ((false, p0), 4) := by
        refine (if_neg fun x => h1 x.2).trans ((if_neg fun x => h2 x.2).trans ?_)
        by_cases h3 : chT T p0 = 121
        · rw [if_pos h3]; exact if_pos ⟨rfl, h3⟩
        · rw [if_neg h3]; exact if_neg fun x => h3 x.2
      refine j_aload_n X (i := 0) dX10_inkHere_33 rfl rfl ?_
      refine j_bipush X (v := (nI 99)) dX10_inkHere_34 (by decide) ?_
      refine j_callV_p X (m_skips hok hst hM x3 (c0 := 99) (by decide) (ci := 99) rfl) i_X10_skips tw_7_214 tw_7_216 tp_54 M0 rfl dX10_inkHere_36 (fun v2 z2 sk2 t2 hp => ?_) 
      rw [sgR_n h1] at hp
      obtain ⟨rfl, rfl, rfl, hx9, e9, f9, o9⟩ := hp
      refine j_if_ne X (tgt := 60) dX10_inkHere_39 (by decide) (fun q9 => absurd (rfl) q9) (fun _ => ?_)
      rename_i t4
      refine j_aload_n X (i := 0) dX10_inkHere_42 rfl rfl ?_
      refine j_bipush X (v := (nI 109)) dX10_inkHere_43 (by decide) ?_
      refine j_callV_p X (m_skips hok hst hM hx9 (c0 := 109) (by decide) (ci := 109) rfl) i_X10_skips tw_7_214 tw_7_216 tp_54 M0 rfl dX10_inkHere_45 (fun v2 z2 sk2 t2 hp => ?_) 
      rw [show (false, p0).2 = p0 from rfl, sgR_n h2] at hp
      obtain ⟨rfl, rfl, rfl, hx8, e8, f8, o8⟩ := hp
      refine j_if_ne X (tgt := 60) dX10_inkHere_48 (by decide) (fun q9 => absurd (rfl) q9) (fun _ => ?_)
      rename_i t5
      refine j_aload_n X (i := 0) dX10_inkHere_51 rfl rfl ?_
      refine j_bipush X (v := (nI 121)) dX10_inkHere_52 (by decide) ?_
      refine j_callV_p X (m_skips hok hst hM hx8 (c0 := 121) (by decide) (ci := 121) rfl) i_X10_skips tw_7_214 tw_7_216 tp_54 M0 rfl dX10_inkHere_54 (fun v2 z2 sk2 t2 hp => ?_) 
      rw [show (false, p0).2 = p0 from rfl] at hp
      obtain ⟨rfl, rfl, rfl, hx1, e1, f1, o1⟩ := hp
      have E : ∀ k, k ≠ 18 → t2 M k = t M k := fun k hk => (e1 k hk).trans ((e8 k hk).trans ((e9 k hk).trans (e3 k hk)))
      have F : ∀ c, c ≠ M → c ≠ M + 7 → t2 c = t c := fun c q1 q2 => (f1 c q1 q2).trans ((f8 c q1 q2).trans ((f9 c q1 q2).trans (f3 c q1 q2)))
      have O : t2 (M + 7) = t3 (M + 7) := o1.trans (o8.trans o9)
      rw [hr]
      by_cases h3 : chT T p0 = 121
      · rw [sgR_y h3] at hx1 ⊢
        rw [if_pos h3]
        refine j_if_eq X (tgt := 64) dX10_inkHere_57 (by decide) (fun q9 => absurd q9 ((show ¬ nI (true : Bool).toNat = 0 by decide))) (fun _ => ?_)
        refine j_iconst X (v := (nI 1)) dX10_inkHere_60 (by decide) ?_
        refine j_goto X (tgt := 65) dX10_inkHere_61 (by decide) ?_
        exact j_iret X dX10_inkHere_65 rfl rfl ⟨rfl, rfl, rfl, hx1, E, F, fun j hj => by rw [O]; exact o3 j hj, fun _ => by rw [O]; exact v3⟩
      · rw [sgR_n h3] at hx1 ⊢
        rw [if_neg h3]
        refine j_if_eq X (tgt := 64) dX10_inkHere_57 (by decide) (fun _ => ?_) (fun q9 => absurd (rfl) q9)
        refine j_iconst X (v := (nI 0)) dX10_inkHere_64 (by decide) ?_
        exact j_iret X dX10_inkHere_65 rfl rfl ⟨rfl, rfl, rfl, hx1, E, F, fun j hj => by rw [O]; exact o3 j hj, fun _ => by rw [O]; exact v3⟩

theorem m_word {l : Launch} {g : jG} (hok : jOk g) (hst : l.stackTraces = false) {z : Option Nat} {sk : jS} {t : jT} {M : Nat} (hM : isMod g sk M) {T : TXV} {p0 : Nat} (hx : RX t M T p0) {k0 a0 om : Nat} {bs : List Nat} (hS : oStr g a0 bs) (hom : t M 20 = nI om) (ho : om ≤ 20) : jMet l g mX10_isWord 5 0 0 [.ref (jb g + M), .int (nI k0), .ref a0] z sk t (rP M T (decide (lcp T bs p0 = bs.length), p0 + lcp T bs p0) (fun f => f = upd (t (M + 7)) (4 * om) (nI k0)) z sk t) := by
  refine j_body (lv := [some (.ref (jb g + M)), some (.int (nI k0)), some (.ref a0), none]) i_X10_isWord hok hst (fun p e s m args below meth c X => ?_)
  obtain ⟨M0, M1, M2, M3, M4, M5, M6, M7⟩ := id hM
  obtain ⟨hb, hl, v9, o9, -⟩ := id hS
  have key : ∀ (j k : Nat) (t3 : jT), k + j = bs.length → RX t3 M T (p0 + k) → (∀ k, k ≠ 18 → t3 M k = t M k) → (∀ c, c ≠ M → c ≠ M + 7 → t3 c = t c) → t3 (M + 7) = upd (t (M + 7)) (4 * om) (nI k0) → lcp T bs p0 = k + lcp T (bs.drop k) (p0 + k) → J p l e (jR 5 0 0) s m args below meth c (jQm below args s g 0 0 (rP M T (decide (lcp T bs p0 = bs.length), p0 + lcp T bs p0) (fun f => f = upd (t (M + 7)) (4 * om) (nI k0)) z sk t)) 4 g 0 0 z sk t3 14 [some (.ref (jb g + M)), some (.int (nI k0)), some (.ref a0), some (.int (nI k))] [] := by
    intro j
    induction j with
    | zero =>
      intro k t3 hk x3 e3 f3 o3 hr
      have hk : k = bs.length := hk
      subst hk
      rw [List.drop_length, show lcp T [] (p0 + bs.length) = 0 from rfl, Nat.add_zero] at hr
      refine j_iload_n X (i := 3) dX10_isWord_14 rfl rfl ?_
      refine j_aload_n X (i := 2) dX10_isWord_15 rfl rfl ?_
      refine j_callVO X (st_length hok hst hS) (o9) i_J0_length_8abf5 tw_7_231 tw_5_155 tw_5_156 dX10_isWord_16 (fun v2 z2 sk2 t2 hp => ?_)
      obtain ⟨rfl, rfl, rfl, rfl⟩ := hp
      refine j_icmp_ge X (tgt := 42) dX10_isWord_19 (by decide) (fun _ => ?_) (fun q9 => absurd (nI_le (Nat.le_refl _) (by omega)) q9)
      refine j_iconst X (v := (nI 1)) dX10_isWord_42 (by decide) ?_
      exact j_iret X dX10_isWord_43 rfl rfl ⟨by rw [decide_eq_true hr]; rfl, rfl, rfl, by rw [hr]; exact x3, e3, f3, o3⟩
    | succ j ih =>
      intro k t3 hk x3 e3 f3 o3 hr
      have hkl : k < bs.length := by omega
      refine j_iload_n X (i := 3) dX10_isWord_14 rfl rfl ?_
      refine j_aload_n X (i := 2) dX10_isWord_15 rfl rfl ?_
      refine j_callVO X (st_length hok hst hS) (o9) i_J0_length_8abf5 tw_7_231 tw_5_155 tw_5_156 dX10_isWord_16 (fun v2 z2 sk2 t2 hp => ?_)
      obtain ⟨rfl, rfl, rfl, rfl⟩ := hp
      refine j_icmp_ge X (tgt := 42) dX10_isWord_19 (by decide) (fun q9 => absurd q9 (nI_ge hkl (by omega))) (fun _ => ?_)
      refine j_aload_n X (i := 0) dX10_isWord_22 rfl rfl ?_
      refine j_aload_n X (i := 2) dX10_isWord_23 rfl rfl ?_
      refine j_iload_n X (i := 3) dX10_isWord_24 rfl rfl ?_
      refine j_callVO X (st_charAt hok hst hS hkl) (o9) i_J0_charAt_5068e tw_7_232 tw_5_165 tw_5_166 dX10_isWord_25 (fun v2 z2 sk2 t2 hp => ?_)
      obtain ⟨rfl, rfl, rfl, rfl⟩ := hp
      have hb1 : bs.getD k 0 < 128 := by
        rw [List.getD_eq_getElem?_getD, List.getElem?_eq_getElem hkl]
        exact hb _ (List.getElem_mem hkl)
      have hd : bs.drop k = bs.getD k 0 :: bs.drop (k + 1) := by
        rw [List.drop_eq_getElem_cons hkl, List.getD_eq_getElem?_getD, List.getElem?_eq_getElem hkl]
        rfl
      rw [hd] at hr
      refine j_callV_p X (m_skips hok hst hM x3 (c0 := bs.getD k 0) (by omega) rfl) i_X10_skips tw_7_214 tw_7_216 tp_54 M0 rfl dX10_isWord_28 (fun v2 z2 sk2 t2 hp => ?_) 
      by_cases hc : chT T (p0 + k) = ((bs.getD k 0 : Nat) : Int)
      · rw [sgR_y hc] at hp
        obtain ⟨rfl, rfl, rfl, hx1, e1, f1, o1⟩ := hp
        rw [lcp_eq hc] at hr
        refine j_if_ne X (tgt := 36) dX10_isWord_31 (by decide) (fun _ => ?_) (fun q9 => absurd q9 ((show ¬ nI (true : Bool).toNat = 0 by decide)))
        refine j_iinc X (i := 3) (v := (nI (k + 1))) dX10_isWord_36 rfl (nI_1 k) (by decide) rfl ?_
        refine j_goto X (tgt := 14) dX10_isWord_39 (by decide) ?_
        exact ih (k + 1) t2 (by omega) hx1 (fun k hk => (e1 k hk).trans (e3 k hk)) (fun c q1 q2 => (f1 c q1 q2).trans (f3 c q1 q2)) (o1.trans o3) (hr.trans (by rw [show p0 + (k + 1) = p0 + k + 1 from rfl]; omega))
      · rw [sgR_n hc] at hp
        obtain ⟨rfl, rfl, rfl, hx1, e1, f1, o1⟩ := hp
        rw [lcp_ne hc, Nat.add_zero] at hr
        refine j_if_ne X (tgt := 36) dX10_isWord_31 (by decide) (fun q9 => absurd (rfl) q9) (fun _ => ?_)
        refine j_iconst X (v := (nI 0)) dX10_isWord_34 (by decide) ?_
        exact j_iret X dX10_isWord_35 rfl rfl ⟨by rw [hr, decide_eq_false (show ¬ k = bs.length by omega)]; rfl, rfl, rfl, by rw [hr]; exact hx1, fun k hk => (e1 k hk).trans (e3 k hk), fun c q1 q2 => (f1 c q1 q2).trans (f3 c q1 q2), o1.trans o3⟩
  refine j_aload_n X (i := 0) dX10_isWord_0 rfl rfl ?_
  refine jFd.get X fd_X10_36 M0 rfl dX10_isWord_1 ?_
  refine j_iconst X (v := (nI 4)) dX10_isWord_4 (by decide) ?_
  refine j_aload_n X (i := 0) dX10_isWord_5 rfl rfl ?_
  refine jFd.get X fd_X10_188 M0 rfl dX10_isWord_6 ?_
  rw [hom]
  refine j_imul X dX10_isWord_9 ?_
  rw [pk_mul]
  refine j_iload_n X (i := 1) dX10_isWord_10 rfl rfl ?_
  refine j_iast X M7 rfl (by omega) (by decide) dX10_isWord_11 ?_
  refine j_iconst X (v := (nI 0)) dX10_isWord_12 (by decide) ?_
  refine j_istore_n X (i := 3) dX10_isWord_13 rfl (by decide) rfl ?_
  have c7 : ∀ c, c ≠ M + 7 → jU t (M + 7) (4 * om) (nI k0) c = t c := fun c hc => jU_ne _ _ _ hc
  exact key bs.length 0 _ (Nat.zero_add _) (hx.go (by rw [c7 _ (by omega)]) (by rw [c7 _ (by omega)]; exact hx.2.1) (c7 _ (by omega)) hx.2.2.1) (fun k _ => by rw [c7 _ (by omega)]) (fun c _ h2 => c7 c h2) (jU_eq _ _ _ _) (Nat.zero_add _).symm

