theorem jMet_post {l : Launch} {g : jG} {M : jI} {d mc ms : Nat} {av : List Value} {z : Option Nat} {sk : jS} {t : jT} {P P2 : Option Value → Option Nat → jS → jT → Prop} (h : jMet l g M d mc ms av z sk t P) (hP : ∀ v z2 sk2 t2, P v z2 sk2 t2 → P2 v z2 sk2 t2) : jMet l g M d mc ms av z sk t P2 := by
  unfold jMet Met at h ⊢
  exact MetFree.mono h (fun _ _ h => h) (fun _ _ _ _ _ h => h) (fun a s o s2 _ hq => by
    obtain ⟨⟨v, z9, sk9, t9, h1, h2, h3⟩, h4⟩ := hq
    exact ⟨⟨v, z9, sk9, t9, h1, hP _ _ _ _ h2, h3⟩, h4⟩)
def oN : Option Nat → Int32
  | none => -1
  | some n => nI n
def RmR (t : jT) (M : Nat) : RF → Prop
  | none => t M 8 = nI 0
  | some (a, d) => t M 8 = nI a ∧ t M 9 = nI d ∧ 1 ≤ a ∧ a ≤ 3
def RmO (t : jT) (M : Nat) : Option SV → Prop
  | none => t M 4 = nI 0
  | some S => t M 4 = nI 1 ∧ RmV (t (M + 3)) S
def RmB (t : jT) (M : Nat) : Prop := ∃ x y : Int, t M 16 = iN x ∧ t M 17 = iN y ∧ -3 ≤ x ∧ x ≤ 3 ∧ -3 ≤ y ∧ y ≤ 3
/-- whether a text runs, and how many commands it has -/
abbrev WB : Type := Bool × Int32
/-- the model in the memory -/
def RmG (t : jT) (M : Nat) (w : WB) (G : GS) : Prop := RmV (t (M + 1)) (gV G) ∧ RmO t M (gS G) ∧ t M 5 = nI (gH G).1 ∧ RmH (t (M + 2)) (gH G) ∧ (t M 6 = nI w.1.toNat ∧ t M 20 = w.2) ∧ RmR t M (gR G) ∧ (t M 11 = nI (gT G).1 ∧ ∀ i, i < (gT G).1 → t (M + 5) i = nI ((gT G).2 i)) ∧ t M 12 = oN (gE G) ∧ t M 13 = oN (gF G) ∧ (t M 15 = nI (gO G).1 ∧ ∀ i, i < (gO G).1 → t (M + 6) i = nI ((gO G).2 i)) ∧ RmB t M
theorem RmR.cong {t u : jT} {M : Nat} {f : RF} (h : RmR t M f) (h8 : u M 8 = t M 8) (h9 : u M 9 = t M 9) : RmR u M f := by
  cases f with
  | none => unfold RmR at *; rw [h8]; exact h
  | some q => unfold RmR at *; rw [h8, h9]; exact h
theorem RmO.cong {t u : jT} {M : Nat} {f : Option SV} (h : RmO t M f) (h4 : u M 4 = t M 4) (h3 : u (M + 3) = t (M + 3)) : RmO u M f := by
  cases f with
  | none => unfold RmO at *; rw [h4]; exact h
  | some q => unfold RmO at *; rw [h4, h3]; exact h
theorem RmB.cong {t u : jT} {M : Nat} (h : RmB t M) (h6 : u M 16 = t M 16) (h7 : u M 17 = t M 17) : RmB u M := by
  unfold RmB at *
  rw [h6, h7]
  exact h
theorem RmG.chg {t u : jT} {M : Nat} {w : WB} {G : GS} (h : RmG t M w G) {V : SV} {hh : Nat × (Nat → SV)} (hV : RmV (u (M + 1)) V) (hm : ∀ k, k ≠ 5 → k ≠ 7 → u M k = t M k) (h5 : u M 5 = nI hh.1) (hH : RmH (u (M + 2)) hh) (ho : ∀ c, c ≠ M → c ≠ M + 1 → c ≠ M + 2 → u c = t c) : RmG u M w (V, gS G, hh, G.2.2.2) := by
  obtain ⟨r1, r2, r3, r4, r5, r6, r7, r8, r9, r10, r11⟩ := h
  exact ⟨hV, r2.cong (hm 4 (by decide) (by decide)) (ho _ (by omega) (by omega) (by omega)), h5, hH, ⟨(hm 6 (by decide) (by decide)).trans r5.1, (hm 20 (by decide) (by decide)).trans r5.2⟩, r6.cong (hm 8 (by decide) (by decide)) (hm 9 (by decide) (by decide)), ⟨(hm 11 (by decide) (by decide)).trans r7.1, fun i hi => by rw [ho _ (by omega) (by omega) (by omega)]; exact r7.2 i hi⟩, (hm 12 (by decide) (by decide)).trans r8, (hm 13 (by decide) (by decide)).trans r9, ⟨(hm 15 (by decide) (by decide)).trans r10.1, fun i hi => by rw [ho _ (by omega) (by omega) (by omega)]; exact r10.2 i hi⟩, r11.cong (hm 16 (by decide) (by decide)) (hm 17 (by decide) (by decide))⟩
theorem RmG.g {t u : jT} {M : Nat} {w : WB} {G : GS} (h : RmG t M w G) {V : SV} (hV : RmV (u (M + 1)) V) (ho : ∀ c, c ≠ M + 1 → u c = t c) : RmG u M w (V, G.2) :=
  h.chg (hh := gH G) hV (fun k _ _ => by rw [ho M (by omega)]) (by rw [ho M (by omega)]; exact h.2.2.1) (by rw [ho (M + 2) (by omega)]; exact h.2.2.2.1) (fun c _ h1 _ => ho c h1)
theorem RmG.code {t u : jT} {M : Nat} {w : WB} {G : GS} (h : RmG t M w G) (hm : ∀ k, k ≠ 7 → u M k = t M k) (ho : ∀ c, c ≠ M → u c = t c) : RmG u M w G :=
  h.chg (V := gV G) (hh := gH G) (by rw [ho _ (by omega)]; exact h.1) (fun k _ h7 => hm k h7) ((hm 5 (by decide)).trans h.2.2.1) (by rw [ho _ (by omega)]; exact h.2.2.2.1) (fun c h0 _ _ => ho c h0)
theorem RmG.jcode {t : jT} {M : Nat} {w : WB} {G : GS} (h : RmG t M w G) (v : Int32) : RmG (jU t M 7 v) M w G :=
  h.code (fun k hk => by rw [jU_eq]; exact if_neg hk) (fun c hc => jU_ne _ _ _ hc)
def kpG (w : Bool) (G : GS) : GS := (gV G, gS G, (if w = true then gH G else pushH (gH G) (gV G)), G.2.2.2)
def ansI (n : Int) : Int := if n < 0 then 0 else n
def cod (a b c n : Int) : Nat := if n = a then 1 else if n = b then 2 else if n = c then 3 else 0
theorem chX_yes {w : Bool} {G : GS} {n : Int} {V : SV} (h : 0 ≤ n) : chX w G (toC G (n, V)) = (V, (kpG w G).2) := by
  unfold chX
  rw [if_neg (show ¬ (toC G (n, V)).1 < 0 from Int.not_lt.mpr h)]
  rfl
theorem chX_no {w : Bool} {G : GS} {n : Int} (h : n < 0) : chX w G (toC G (n, gV G)) = G := by
  unfold chX
  rw [if_pos (show (toC G (n, gV G)).1 < 0 from h)]
  rfl
theorem ansI_yes {n : Int} (h : 0 ≤ n) : ansI n = n := if_neg (Int.not_lt.mpr h)
theorem ansI_no {n : Int} (h : n < 0) : ansI n = 0 := if_pos h
theorem cod_yes {a b c n : Int} (h : 0 ≤ n) (ha : a < 0) (hb : b < 0) (hc : c < 0) : cod a b c n = 0 := by
  unfold cod
  rw [if_neg (by omega), if_neg (by omega), if_neg (by omega)]
theorem okG.hh {G : GS} (h : okG G) : ∀ i, i < (gH G).1 → np ((gH G).2 i) ≤ 6 ∧ ns ((gH G).2 i) ≤ 8 := fun i hi => ⟨(h.2.2.2.1 i hi).1, (h.2.2.2.1 i hi).2.1⟩
theorem isPl_iN {k : Nat} (hk : k < 128) {dx dy : Int} (h1 : -3 ≤ dx) (h2 : dx ≤ 3) (h3 : -3 ≤ dy) (h4 : dy ≤ 3) : isPl (iN (((k % 16 : Nat) : Int) + dx)) (iN (((k / 16 : Nat) : Int) + dy)) = onB k dx dy := by
  unfold isPl onB
  rw [iN_toInt (by omega) (by omega), iN_toInt (by omega) (by omega)]
theorem nI_iN (n : Nat) (d : Int) : nI n + iN d = iN ((n : Int) + d) := by rw [← iN_nI, iN_add]
theorem m_keepG {l : Launch} {g : jG} (hok : jOk g) (hst : l.stackTraces = false) {z : Option Nat} {sk : jS} {t : jT} {M : Nat} (hM : isMod g sk M) {w : WB} {G : GS} (hG : RmG t M w G) (hK : okG G)  : jMet l g mX10_keeps 2 0 0 [.ref (jb g + M), .ref (jb g + (M + 1))] z sk t (fun v2 z2 sk2 t2 => v2 = none ∧ z = z2 ∧ sk = sk2 ∧ RmG t2 M w (kpG w.1 G) ∧ t2 M 7 = nI 0 ∧ (∀ c, c ≠ M → c ≠ M + 2 → t2 c = t c)) := by
  obtain ⟨r1, r2, r3, r4, r5, r6⟩ := id hG
  obtain ⟨wb, wn⟩ := w
  cases wb with
  | true =>
    refine jMet_post (m_keepsIn hok hst hM r5.1 (M + 1)) (fun v2 z2 sk2 t2 h => ?_)
    obtain ⟨rfl, rfl, rfl, rfl⟩ := h
    exact ⟨rfl, rfl, rfl, hG.jcode _, by rw [jU_eq]; rfl, fun c hc _ => jU_ne _ _ _ hc⟩
  | false =>
    refine jMet_post (m_keeps hok hst hM r5.1 r3 r4 hK.hh hM.2.1 (by omega) (by omega) r1 ⟨hK.1.1, hK.1.2.1⟩) (fun v2 z2 sk2 t2 h => ?_)
    obtain ⟨h1, h2, h3, h4, h5, h6, h7, h8⟩ := h
    refine ⟨h1, h2, h3, ?_, h7, h4⟩
    exact hG.chg (hh := pushH (gH G) (gV G)) (by rw [h4 _ (by omega) (by omega)]; exact r1) h5 h6 h8 (fun c a1 _ a3 => h4 c a1 a3)
theorem m_beside {l : Launch} {g : jG} (hok : jOk g) (hst : l.stackTraces = false) {z : Option Nat} {sk : jS} {t : jT} {M : Nat} (hM : isMod g sk M) {k0 : Nat} (hk0 : k0 < 6) {S : Nat → Bool} (hW : Wd (t (M + 1)) (9 + 7 * k0 + 3) S) {dx dy : Int} (e1 : t (M + 1) (9 + 7 * k0 + 1) = iN dx) (e2 : t (M + 1) (9 + 7 * k0 + 2) = iN dy) (a1 : -3 ≤ dx) (a2 : dx ≤ 3) (a3 : -3 ≤ dy) (a4 : dy ≤ 3) : jMet l g mX10_beside 3 0 0 [.ref (jb g + M), .int (nI k0)] z sk t (jE (some (.int (nI (besB S dx dy)))) z sk t) := by
  refine j_body (lv := [some (.ref (jb g + M)), some (.int (nI k0)), none, none]) i_X10_beside hok hst (fun p e s m args below meth c X => ?_)
  obtain ⟨M0, M1, M2, M3, M4, M5, M6, M7⟩ := id hM
  have key : ∀ k, k ≤ 128 → J p l e (jR 3 0 0) s m args below meth c (jQm below args s g 0 0 (jE (some (.int (nI (besB S dx dy)))) z sk t)) 4 g 0 0 z sk t 4 [some (.ref (jb g + M)), some (.int (nI k0)), some (.int (nI (fb_ct (fun k => S k && !onB k dx dy) k))), some (.int (nI k))] [] := by
    refine up_loop ?_ ?_
    · refine j_iload_n X (i := 3) dX10_beside_4 rfl rfl ?_
      refine j_sipush X (v := (nI 128)) dX10_beside_5 (by decide) ?_
      refine j_icmp_ge X (tgt := 73) dX10_beside_8 (by decide) (fun _ => ?_) (fun q9 => absurd (nI_le (Nat.le_refl _) (by decide)) q9)
      refine j_iload_n X (i := 2) dX10_beside_73 rfl rfl ?_
      exact j_iret X dX10_beside_74 rfl rfl ⟨rfl, rfl, rfl, rfl⟩
    · intro k hk ih
      have hs := fb_ct_succ (fun k => S k && !onB k dx dy) k
      refine j_iload_n X (i := 3) dX10_beside_4 rfl rfl ?_
      refine j_sipush X (v := (nI 128)) dX10_beside_5 (by decide) ?_
      refine j_icmp_ge X (tgt := 73) dX10_beside_8 (by decide) (fun q9 => absurd q9 (nI_ge hk (by decide))) (fun _ => ?_)
      refine j_iload_n X (i := 2) dX10_beside_11 rfl rfl ?_
      refine j_aload_n X (i := 0) dX10_beside_12 rfl rfl ?_
      refine j_aload_n X (i := 0) dX10_beside_13 rfl rfl ?_
      refine j_iload_n X (i := 1) dX10_beside_14 rfl rfl ?_
      refine j_callV X (m_stars hok hst (M := M)) i_X10_stars tw_6_160 tw_6_162 tp_28 M0 rfl dX10_beside_15 ?_ 
      refine j_iload_n X (i := 3) dX10_beside_18 rfl rfl ?_
      refine j_bipush X (v := (nI 16)) dX10_beside_19 (by decide) ?_
      refine j_irem X dX10_beside_21 (by decide) ?_
      rw [pk_rem2 (a := k) (d := 16) (by omega) (by decide) (by decide)]
      refine j_iload_n X (i := 3) dX10_beside_22 rfl rfl ?_
      refine j_bipush X (v := (nI 16)) dX10_beside_23 (by decide) ?_
      refine j_idiv X dX10_beside_25 (by decide) ?_
      rw [pk_div (a := k) (d := 16) (by omega) (by decide) (by decide)]
      refine j_callV X (m_has hok hst (x := k % 16) (y := k / 16) hM hW (by omega) (by omega) (by omega)) i_X10_has tw_6_164 tw_6_166 tp_29 M0 rfl dX10_beside_26 ?_ 
      rw [show 16 * (k / 16) + k % 16 = k by omega]
      have zero : (S k && !onB k dx dy) = false → J p l e (jR 3 0 0) s m args below meth c (jQm below args s g 0 0 (jE (some (.int (nI (besB S dx dy)))) z sk t)) 4 g 0 0 z sk t 64 [some (.ref (jb g + M)), some (.int (nI k0)), some (.int (nI (fb_ct (fun k => S k && !onB k dx dy) k))), some (.int (nI k))] [.int (nI (fb_ct (fun k => S k && !onB k dx dy) k))] := fun h0 => by
        rw [h0, if_neg (by decide)] at hs
        refine j_iconst X (v := (nI 0)) dX10_beside_64 (by decide) ?_
        refine j_iadd X dX10_beside_65 ?_
        rw [nI_add, ← hs]
        refine j_istore_n X (i := 2) dX10_beside_66 rfl (by decide) rfl ?_
        refine j_iinc X (i := 3) (v := (nI (k + 1))) dX10_beside_67 rfl (nI_1 k) (by decide) rfl ?_
        refine j_goto X (tgt := 4) dX10_beside_70 (by decide) ?_
        exact ih
      cases hq : S k with
      | false =>
        refine j_if_eq X (tgt := 64) dX10_beside_29 (by decide) (fun _ => ?_) (fun q9 => absurd (rfl) q9)
        exact zero (by rw [hq]; rfl)
      | true =>
        refine j_if_eq X (tgt := 64) dX10_beside_29 (by decide) (fun q9 => absurd q9 (by decide)) (fun _ => ?_)
        refine j_iload_n X (i := 3) dX10_beside_32 rfl rfl ?_
        refine j_bipush X (v := (nI 16)) dX10_beside_33 (by decide) ?_
        refine j_irem X dX10_beside_35 (by decide) ?_
        rw [pk_rem2 (a := k) (d := 16) (by omega) (by decide) (by decide)]
        refine j_aload_n X (i := 0) dX10_beside_36 rfl rfl ?_
        refine j_iload_n X (i := 1) dX10_beside_37 rfl rfl ?_
        refine j_iconst X (v := (nI 1)) dX10_beside_38 (by decide) ?_
        refine j_callV X (m_of hok hst (k := k0) (w := 1) hM (by omega)) i_X10_of tw_6_198 tw_6_200 tp_34 M0 rfl dX10_beside_39 ?_ 
        rw [e1]
        refine j_iadd X dX10_beside_42 ?_
        rw [nI_iN]
        refine j_iload_n X (i := 3) dX10_beside_43 rfl rfl ?_
        refine j_bipush X (v := (nI 16)) dX10_beside_44 (by decide) ?_
        refine j_idiv X dX10_beside_46 (by decide) ?_
        rw [pk_div (a := k) (d := 16) (by omega) (by decide) (by decide)]
        refine j_aload_n X (i := 0) dX10_beside_47 rfl rfl ?_
        refine j_iload_n X (i := 1) dX10_beside_48 rfl rfl ?_
        refine j_iconst X (v := (nI 2)) dX10_beside_49 (by decide) ?_
        refine j_callV X (m_of hok hst (k := k0) (w := 2) hM (by omega)) i_X10_of tw_6_198 tw_6_200 tp_34 M0 rfl dX10_beside_50 ?_ 
        rw [e2]
        refine j_iadd X dX10_beside_53 ?_
        rw [nI_iN]
        refine j_callS X (m_isOn hok hst _ _) i_X10_isOn tw_6_157 tw_6_158 dX10_beside_54 ?_ 
        rw [isPl_iN hk a1 a2 a3 a4]
        cases ho : onB k dx dy with
        | true =>
          refine j_if_ne X (tgt := 64) dX10_beside_57 (by decide) (fun _ => ?_) (fun q9 => absurd q9 (by decide))
          exact zero (by rw [hq, ho]; rfl)
        | false =>
          refine j_if_ne X (tgt := 64) dX10_beside_57 (by decide) (fun q9 => absurd (rfl) q9) (fun _ => ?_)
          rw [show (S k && !onB k dx dy) = true by rw [hq, ho]; rfl, if_pos rfl] at hs
          refine j_iconst X (v := (nI 1)) dX10_beside_60 (by decide) ?_
          refine j_goto X (tgt := 65) dX10_beside_61 (by decide) ?_
          refine j_iadd X dX10_beside_65 ?_
          rw [nI_add, ← hs]
          refine j_istore_n X (i := 2) dX10_beside_66 rfl (by decide) rfl ?_
          refine j_iinc X (i := 3) (v := (nI (k + 1))) dX10_beside_67 rfl (nI_1 k) (by decide) rfl ?_
          refine j_goto X (tgt := 4) dX10_beside_70 (by decide) ?_
          exact ih
  refine j_iconst X (v := (nI 0)) dX10_beside_0 (by decide) ?_
  refine j_istore_n X (i := 2) dX10_beside_1 rfl (by decide) rfl ?_
  refine j_iconst X (v := (nI 0)) dX10_beside_2 (by decide) ?_
  refine j_istore_n X (i := 3) dX10_beside_3 rfl (by decide) rfl ?_
  exact key 0 (Nat.zero_le _)

theorem m_matching {l : Launch} {g : jG} (hok : jOk g) (hst : l.stackTraces = false) {z : Option Nat} {sk : jS} {t : jT} {M : Nat} (hM : isMod g sk M) {k0 : Nat} (hk0 : k0 < 6) {S : Nat → Bool} (hW : Wd (t (M + 1)) (9 + 7 * k0 + 3) S) {k1 : Nat} (hk1 : k1 < 6) {U : Nat → Bool} (hU : Wd (t (M + 1)) (9 + 7 * k1 + 3) U) {dx dy : Int} (a1 : -3 ≤ dx) (a2 : dx ≤ 3) (a3 : -3 ≤ dy) (a4 : dy ≤ 3) : jMet l g mX10_matching 3 0 0 [.ref (jb g + M), .int (nI k0), .int (nI k1), .int (iN dx), .int (iN dy)] z sk t (jE (some (.int (nI (matB S U dx dy)))) z sk t) := by
  refine j_body (lv := [some (.ref (jb g + M)), some (.int (nI k0)), some (.int (nI k1)), some (.int (iN dx)), some (.int (iN dy)), none, none, none, none]) i_X10_matching hok hst (fun p e s m args below meth c X => ?_)
  obtain ⟨M0, M1, M2, M3, M4, M5, M6, M7⟩ := id hM
  have key : ∀ k, k ≤ 128 → J p l e (jR 3 0 0) s m args below meth c (jQm below args s g 0 0 (jE (some (.int (nI (matB S U dx dy)))) z sk t)) 9 g 0 0 z sk t 6 [some (.ref (jb g + M)), some (.int (nI k0)), some (.int (nI k1)), some (.int (iN dx)), some (.int (iN dy)), some (.int (nI (fb_ct (fun k => S k && (onB k dx dy && U (mvB k dx dy))) k))), some (.int (nI k)), none, none] [] := by
    refine up_loop ?_ ?_
    · refine j_iload X (i := 6) dX10_matching_6 rfl ?_
      refine j_sipush X (v := (nI 128)) dX10_matching_8 (by decide) ?_
      refine j_icmp_ge X (tgt := 100) dX10_matching_11 (by decide) (fun _ => ?_) (fun q9 => absurd (nI_le (Nat.le_refl _) (by decide)) q9)
      refine j_iload X (i := 5) dX10_matching_100 rfl ?_
      exact j_iret X dX10_matching_102 rfl rfl ⟨rfl, rfl, rfl, rfl⟩
    · intro k hk ih
      have hs := fb_ct_succ (fun k => S k && (onB k dx dy && U (mvB k dx dy))) k
      refine j_iload X (i := 6) dX10_matching_6 rfl ?_
      refine j_sipush X (v := (nI 128)) dX10_matching_8 (by decide) ?_
      refine j_icmp_ge X (tgt := 100) dX10_matching_11 (by decide) (fun q9 => absurd q9 (nI_ge hk (by decide))) (fun _ => ?_)
      refine j_aload_n X (i := 0) dX10_matching_14 rfl rfl ?_
      refine j_aload_n X (i := 0) dX10_matching_15 rfl rfl ?_
      refine j_iload_n X (i := 1) dX10_matching_16 rfl rfl ?_
      refine j_callV X (m_stars hok hst (M := M)) i_X10_stars tw_6_160 tw_6_162 tp_28 M0 rfl dX10_matching_17 ?_ 
      refine j_iload X (i := 6) dX10_matching_20 rfl ?_
      refine j_bipush X (v := (nI 16)) dX10_matching_22 (by decide) ?_
      refine j_irem X dX10_matching_24 (by decide) ?_
      rw [pk_rem2 (a := k) (d := 16) (by omega) (by decide) (by decide)]
      refine j_iload X (i := 6) dX10_matching_25 rfl ?_
      refine j_bipush X (v := (nI 16)) dX10_matching_27 (by decide) ?_
      refine j_idiv X dX10_matching_29 (by decide) ?_
      rw [pk_div (a := k) (d := 16) (by omega) (by decide) (by decide)]
      refine j_callV X (m_has hok hst (x := k % 16) (y := k / 16) hM hW (by omega) (by omega) (by omega)) i_X10_has tw_6_164 tw_6_166 tp_29 M0 rfl dX10_matching_30 ?_ 
      rw [show 16 * (k / 16) + k % 16 = k by omega]
      cases hq : S k with
      | false =>
        rw [show (S k && (onB k dx dy && U (mvB k dx dy))) = false by rw [hq]; rfl, if_neg (by decide)] at hs
        refine j_if_ne X (tgt := 39) dX10_matching_33 (by decide) (fun q9 => absurd (rfl) q9) (fun _ => ?_)
        refine j_goto X (tgt := 94) dX10_matching_36 (by decide) ?_
        refine j_iinc X (i := 6) (v := (nI (k + 1))) dX10_matching_94 rfl (nI_1 k) (by decide) rfl ?_
        refine j_goto X (tgt := 6) dX10_matching_97 (by decide) ?_
        rw [hs] at ih
        exact ih
      | true =>
        refine j_if_ne X (tgt := 39) dX10_matching_33 (by decide) (fun _ => ?_) (fun q9 => absurd q9 (by decide))
        refine j_iload X (i := 6) dX10_matching_39 rfl ?_
        refine j_bipush X (v := (nI 16)) dX10_matching_41 (by decide) ?_
        refine j_irem X dX10_matching_43 (by decide) ?_
        rw [pk_rem2 (a := k) (d := 16) (by omega) (by decide) (by decide)]
        refine j_iload_n X (i := 3) dX10_matching_44 rfl rfl ?_
        refine j_iadd X dX10_matching_45 ?_
        rw [nI_iN]
        refine j_istore X (i := 7) dX10_matching_46 (by decide) rfl ?_
        refine j_iload X (i := 6) dX10_matching_48 rfl ?_
        refine j_bipush X (v := (nI 16)) dX10_matching_50 (by decide) ?_
        refine j_idiv X dX10_matching_52 (by decide) ?_
        rw [pk_div (a := k) (d := 16) (by omega) (by decide) (by decide)]
        refine j_iload X (i := 4) dX10_matching_53 rfl ?_
        refine j_iadd X dX10_matching_55 ?_
        rw [nI_iN]
        refine j_istore X (i := 8) dX10_matching_56 (by decide) rfl ?_
        refine j_iload X (i := 5) dX10_matching_58 rfl ?_
        refine j_iload X (i := 7) dX10_matching_60 rfl ?_
        refine j_iload X (i := 8) dX10_matching_62 rfl ?_
        refine j_callS X (m_isOn hok hst _ _) i_X10_isOn tw_6_157 tw_6_158 dX10_matching_64 ?_ 
        rw [isPl_iN hk a1 a2 a3 a4]
        have zero : (S k && (onB k dx dy && U (mvB k dx dy))) = false → J p l e (jR 3 0 0) s m args below meth c (jQm below args s g 0 0 (jE (some (.int (nI (matB S U dx dy)))) z sk t)) 9 g 0 0 z sk t 90 [some (.ref (jb g + M)), some (.int (nI k0)), some (.int (nI k1)), some (.int (iN dx)), some (.int (iN dy)), some (.int (nI (fb_ct (fun k => S k && (onB k dx dy && U (mvB k dx dy))) k))), some (.int (nI k)), some (.int (iN (((k % 16 : Nat) : Int) + dx))), some (.int (iN (((k / 16 : Nat) : Int) + dy)))] [.int (nI (fb_ct (fun k => S k && (onB k dx dy && U (mvB k dx dy))) k))] := fun h0 => by
          rw [h0, if_neg (by decide)] at hs
          refine j_iconst X (v := (nI 0)) dX10_matching_90 (by decide) ?_
          refine j_iadd X dX10_matching_91 ?_
          rw [nI_add, ← hs]
          refine j_istore X (i := 5) dX10_matching_92 (by decide) rfl ?_
          refine j_iinc X (i := 6) (v := (nI (k + 1))) dX10_matching_94 rfl (nI_1 k) (by decide) rfl ?_
          refine j_goto X (tgt := 6) dX10_matching_97 (by decide) ?_
          refine j_drop 7 (j_drop 8 ?_)
          exact ih
        cases ho : onB k dx dy with
        | false =>
          refine j_if_eq X (tgt := 90) dX10_matching_67 (by decide) (fun _ => ?_) (fun q9 => absurd (rfl) q9)
          exact zero (by rw [hq, ho]; rfl)
        | true =>
          obtain ⟨o1, o2, o3, o4⟩ : 0 ≤ ((k % 16 : Nat) : Int) + dx ∧ ((k % 16 : Nat) : Int) + dx < 16 ∧ 0 ≤ ((k / 16 : Nat) : Int) + dy ∧ ((k / 16 : Nat) : Int) + dy < 8 := of_decide_eq_true ho
          obtain ⟨x, hx⟩ : ∃ x : Nat, ((k % 16 : Nat) : Int) + dx = x := ⟨(((k % 16 : Nat) : Int) + dx).toNat, by omega⟩
          obtain ⟨y, hy⟩ : ∃ y : Nat, ((k / 16 : Nat) : Int) + dy = y := ⟨(((k / 16 : Nat) : Int) + dy).toNat, by omega⟩
          have hmv : mvB k dx dy = 16 * y + x := by unfold mvB; rw [hx, hy]; rfl
          rw [hx, hy, iN_nI, iN_nI] at zero ⊢
          refine j_if_eq X (tgt := 90) dX10_matching_67 (by decide) (fun q9 => absurd q9 (by decide)) (fun _ => ?_)
          refine j_aload_n X (i := 0) dX10_matching_70 rfl rfl ?_
          refine j_aload_n X (i := 0) dX10_matching_71 rfl rfl ?_
          refine j_iload_n X (i := 2) dX10_matching_72 rfl rfl ?_
          refine j_callV X (m_stars hok hst (M := M)) i_X10_stars tw_6_160 tw_6_162 tp_28 M0 rfl dX10_matching_73 ?_ 
          refine j_iload X (i := 7) dX10_matching_76 rfl ?_
          refine j_iload X (i := 8) dX10_matching_78 rfl ?_
          refine j_callV X (m_has hok hst (x := x) (y := y) hM hU (by omega) (by omega) (by omega)) i_X10_has tw_6_164 tw_6_166 tp_29 M0 rfl dX10_matching_80 ?_ 
          rw [← hmv]
          cases hu : U (mvB k dx dy) with
          | false =>
            refine j_if_eq X (tgt := 90) dX10_matching_83 (by decide) (fun _ => ?_) (fun q9 => absurd (rfl) q9)
            exact zero (by rw [hq, ho, hu]; rfl)
          | true =>
            refine j_if_eq X (tgt := 90) dX10_matching_83 (by decide) (fun q9 => absurd q9 (by decide)) (fun _ => ?_)
            rw [show (S k && (onB k dx dy && U (mvB k dx dy))) = true by rw [hq, ho, hu]; rfl, if_pos rfl] at hs
            refine j_iconst X (v := (nI 1)) dX10_matching_86 (by decide) ?_
            refine j_goto X (tgt := 91) dX10_matching_87 (by decide) ?_
            refine j_iadd X dX10_matching_91 ?_
            rw [nI_add, ← hs]
            refine j_istore X (i := 5) dX10_matching_92 (by decide) rfl ?_
            refine j_iinc X (i := 6) (v := (nI (k + 1))) dX10_matching_94 rfl (nI_1 k) (by decide) rfl ?_
            refine j_goto X (tgt := 6) dX10_matching_97 (by decide) ?_
            refine j_drop 7 (j_drop 8 ?_)
            exact ih
  refine j_iconst X (v := (nI 0)) dX10_matching_0 (by decide) ?_
  refine j_istore X (i := 5) dX10_matching_1 (by decide) rfl ?_
  refine j_iconst X (v := (nI 0)) dX10_matching_3 (by decide) ?_
  refine j_istore X (i := 6) dX10_matching_4 (by decide) rfl ?_
  exact key 0 (Nat.zero_le _)

def bm (t : jT) (M : Nat) (s : F3) : jT := jUf t M (fun k => if k = 16 then iN s.2.1 else if k = 17 then iN s.2.2 else t M k)
theorem bm_16 (t : jT) (M : Nat) (s : F3) : bm t M s M 16 = iN s.2.1 := by unfold bm; rw [jUf_eq]; rfl
theorem bm_17 (t : jT) (M : Nat) (s : F3) : bm t M s M 17 = iN s.2.2 := by unfold bm; rw [jUf_eq]; rfl
theorem bm_k (t : jT) (M : Nat) (s : F3) {k : Nat} (h1 : k ≠ 16) (h2 : k ≠ 17) : bm t M s M k = t M k := by unfold bm; rw [jUf_eq]; show (if k = 16 then _ else if k = 17 then _ else _) = _; rw [if_neg h1, if_neg h2]
theorem bm_o (t : jT) (M : Nat) (s : F3) {c : Nat} (h : c ≠ M) : bm t M s c = t c := jUf_ne _ _ h
theorem bm_self {t : jT} {M : Nat} {s : F3} (h1 : t M 16 = iN s.2.1) (h2 : t M 17 = iN s.2.2) : bm t M s = t := by
  unfold bm
  rw [show (fun k => if k = 16 then iN s.2.1 else if k = 17 then iN s.2.2 else t M k) = t M from funext fun k => ?_, jUf_self]
  by_cases e : k = 16
  · rw [if_pos e, e, h1]
  · rw [if_neg e]
    by_cases e2 : k = 17
    · rw [if_pos e2, e2, h2]
    · rw [if_neg e2]
theorem bm_put (t : jT) (M : Nat) (s : F3) (n dx dy : Int) : jU (jU (bm t M s) M 16 (iN dx)) M 17 (iN dy) = bm t M (n, dx, dy) := by
  rw [jU_row, jU_row (bm t M s), jUf_eq, jUf_jUf]
  unfold bm
  rw [jUf_jUf, jUf_eq]
  congr 1
  funext k
  unfold upd
  by_cases e : k = 17
  · subst e; rfl
  · rw [if_neg e]
    by_cases e2 : k = 16
    · subst e2; rfl
    · simp only [if_neg e2, if_neg e]
theorem RmG.best {t : jT} {M : Nat} {w : WB} {G : GS} (h : RmG t M w G) {s : F3} (hs : okF s) : RmG (bm t M s) M w G := by
  obtain ⟨r1, r2, r3, r4, r5, r6, r7, r8, r9, r10, r11⟩ := h
  obtain ⟨-, -, s1, s2, s3, s4⟩ := hs
  have e : ∀ k, k ≠ 16 → k ≠ 17 → bm t M s M k = t M k := fun k h1 h2 => bm_k t M s h1 h2
  have o : ∀ c, c ≠ M → bm t M s c = t c := fun c hc => bm_o t M s hc
  exact ⟨by rw [o _ (by omega)]; exact r1, r2.cong (e _ (by decide) (by decide)) (o _ (by omega)), (e _ (by decide) (by decide)).trans r3, by rw [o _ (by omega)]; exact r4, ⟨(e 6 (by decide) (by decide)).trans r5.1, (e 20 (by decide) (by decide)).trans r5.2⟩, r6.cong (e _ (by decide) (by decide)) (e _ (by decide) (by decide)), ⟨(e _ (by decide) (by decide)).trans r7.1, by rw [o _ (by omega)]; exact r7.2⟩, (e _ (by decide) (by decide)).trans r8, (e _ (by decide) (by decide)).trans r9, ⟨(e _ (by decide) (by decide)).trans r10.1, by rw [o _ (by omega)]; exact r10.2⟩, ⟨s.2.1, s.2.2, bm_16 t M s, bm_17 t M s, s1, s2, s3, s4⟩⟩
theorem m_best {l : Launch} {g : jG} (hok : jOk g) (hst : l.stackTraces = false) {z : Option Nat} {sk : jS} {t : jT} {M : Nat} (hM : isMod g sk M) {k0 : Nat} (hk0 : k0 < 6) {S : Nat → Bool} (hW : Wd (t (M + 1)) (9 + 7 * k0 + 3) S) {k1 : Nat} (hk1 : k1 < 6) {U : Nat → Bool} (hU : Wd (t (M + 1)) (9 + 7 * k1 + 3) U) (hb : RmB t M) : jMet l g mX10_best 4 0 0 [.ref (jb g + M), .int (nI k0), .int (nI k1)] z sk t (jE (some (.int (iN (bst S U).1))) z sk (bm t M (bst S U))) := by
  refine j_body (lv := [some (.ref (jb g + M)), some (.int (nI k0)), some (.int (nI k1)), none, none, none, none]) i_X10_best hok hst (fun p e s m args below meth c X => ?_)
  obtain ⟨M0, M1, M2, M3, M4, M5, M6, M7⟩ := id hM
  obtain ⟨x0, y0, b6, b7, x1, x2, y1, y2⟩ := hb
  have ok0 : okF (-1, x0, y0) := ⟨show (-1 : Int) ≤ -1 by decide, show (-1 : Int) ≤ 128 by decide, x1, x2, y1, y2⟩
  obtain ⟨sj, hsj⟩ : ∃ sj : Nat → F3, sj = bsG S U (-1, x0, y0) := ⟨_, rfl⟩
  have hfin : sj 49 = bst S U := by rw [hsj]; exact bst_eq S U x0 y0
  have okj : ∀ j, j ≤ 49 → okF (sj j) := fun j hj => by rw [hsj]; exact bsG_ok ok0 j hj
  have stj : ∀ j, sj (j + 1) = stp (sj j) ((j / 7 : Nat) - 3) ((j % 7 : Nat) - 3) (matB S U ((j / 7 : Nat) - 3) ((j % 7 : Nat) - 3)) := fun j => by rw [hsj]; rfl
  have outer : ∀ a, a ≤ 7 → J p l e (jR 4 0 0) s m args below meth c (jQm below args s g 0 0 (jE (some (.int (iN (bst S U).1))) z sk (bm t M (bst S U)))) 7 g 0 0 z sk  (bm t M (sj (7 * a))) 6 [some (.ref (jb g + M)), some (.int (nI k0)), some (.int (nI k1)), some (.int (iN (sj (7 * a)).1)), some (.int (iN ((a : Int) - 3))), none, none] [] := by
    refine up_loop ?_ ?_
    · refine j_iload X (i := 4) dX10_best_6 rfl ?_
      refine j_iconst X (v := (nI 3)) dX10_best_8 (by decide) ?_
      refine j_icmp_gt X (tgt := 105) dX10_best_9 (by decide) (fun _ => ?_) (fun q9 => absurd ((by decide)) q9)
      refine j_iload_n X (i := 3) dX10_best_105 rfl rfl ?_
      rw [show 7 * 7 = 49 from rfl, hfin]
      exact j_iret X dX10_best_106 rfl rfl ⟨rfl, rfl, rfl, rfl⟩
    · intro a ha ih
      refine j_iload X (i := 4) dX10_best_6 rfl ?_
      refine j_iconst X (v := (nI 3)) dX10_best_8 (by decide) ?_
      refine j_icmp_gt X (tgt := 105) dX10_best_9 (by decide) (fun q9 => absurd q9 ((fun z9 => by rw [← iN_nI 3] at z9; have := (iN_lt (by decide) (by decide) (by omega) (by omega)).mp z9; omega))) (fun _ => ?_)
      refine j_bipush X (v := -3) dX10_best_12 (by decide) ?_
      refine j_istore X (i := 5) dX10_best_14 (by decide) rfl ?_
      have inner : ∀ b, b ≤ 7 → J p l e (jR 4 0 0) s m args below meth c (jQm below args s g 0 0 (jE (some (.int (iN (bst S U).1))) z sk (bm t M (bst S U)))) 7 g 0 0 z sk  (bm t M (sj (7 * a + b))) 16 [some (.ref (jb g + M)), some (.int (nI k0)), some (.int (nI k1)), some (.int (iN (sj (7 * a + b)).1)), some (.int (iN ((a : Int) - 3))), some (.int (iN ((b : Int) - 3))), none] [] := by
        refine up_loop ?_ ?_
        · refine j_iload X (i := 5) dX10_best_16 rfl ?_
          refine j_iconst X (v := (nI 3)) dX10_best_18 (by decide) ?_
          refine j_icmp_gt X (tgt := 99) dX10_best_19 (by decide) (fun _ => ?_) (fun q9 => absurd ((by decide)) q9)
          refine j_iinc X (i := 4) (v := (iN (((a + 1 : Nat) : Int) - 3))) dX10_best_99 rfl (by rw [show Int32.ofInt 1 = iN 1 from rfl, iN_add]; congr 1; omega) (by decide) rfl ?_
          refine j_goto X (tgt := 6) dX10_best_102 (by decide) ?_
          refine j_drop 5 ?_
          exact ih
        · intro b hb7 ih2
          refine j_iload X (i := 5) dX10_best_16 rfl ?_
          refine j_iconst X (v := (nI 3)) dX10_best_18 (by decide) ?_
          refine j_icmp_gt X (tgt := 99) dX10_best_19 (by decide) (fun q9 => absurd q9 ((fun z9 => by rw [← iN_nI 3] at z9; have := (iN_lt (by decide) (by decide) (by omega) (by omega)).mp z9; omega))) (fun _ => ?_)
          obtain ⟨n, hn⟩ : ∃ n, n = matB S U ((a : Int) - 3) ((b : Int) - 3) := ⟨_, rfl⟩
          have hn128 : n ≤ 128 := by rw [hn]; exact matB_le _ _ _ _
          have hst2 := stj (7 * a + b)
          rw [show (7 * a + b) / 7 = a by omega, show (7 * a + b) % 7 = b by omega, ← hn] at hst2
          obtain ⟨q1, q2, q3, q4, q5, q6⟩ := okj (7 * a + b) (by omega)
          have go : ∀ s2, sj (7 * a + b + 1) = s2 → J p l e (jR 4 0 0) s m args below meth c (jQm below args s g 0 0 (jE (some (.int (iN (bst S U).1))) z sk (bm t M (bst S U)))) 7 g 0 0 z sk  (bm t M s2) 93 [some (.ref (jb g + M)), some (.int (nI k0)), some (.int (nI k1)), some (.int (iN s2.1)), some (.int (iN ((a : Int) - 3))), some (.int (iN ((b : Int) - 3))), some (.int (nI n))] [] := fun s2 h2 => by
            refine j_iinc X (i := 5) (v := (iN (((b + 1 : Nat) : Int) - 3))) dX10_best_93 rfl (by rw [show Int32.ofInt 1 = iN 1 from rfl, iN_add]; congr 1; omega) (by decide) rfl ?_
            refine j_goto X (tgt := 16) dX10_best_96 (by decide) ?_
            rw [show 7 * a + (b + 1) = 7 * a + b + 1 from rfl, h2] at ih2
            refine j_drop 6 ?_
            exact ih2
          generalize sj (7 * a + b) = s0 at hst2 q1 q2 q3 q4 q5 q6 ⊢
          have hlt := iN_lt (a := (n : Int)) (b := s0.1) (by omega) (by omega) (by omega) (by omega)
          have heq := iN_eq (a := (n : Int)) (b := s0.1) (by omega) (by omega) (by omega) (by omega)
          rw [iN_nI] at hlt heq
          have hWb : Wd (bm t M s0 (M + 1)) (9 + 7 * k0 + 3) S := by rw [bm_o _ _ _ (by omega)]; exact hW
          have hUb : Wd (bm t M s0 (M + 1)) (9 + 7 * k1 + 3) U := by rw [bm_o _ _ _ (by omega)]; exact hU
          refine j_aload_n X (i := 0) dX10_best_22 rfl rfl ?_
          refine j_iload_n X (i := 1) dX10_best_23 rfl rfl ?_
          refine j_iload_n X (i := 2) dX10_best_24 rfl rfl ?_
          refine j_iload X (i := 4) dX10_best_25 rfl ?_
          refine j_iload X (i := 5) dX10_best_27 rfl ?_
          refine j_callV X (m_matching hok hst (dx := (a : Int) - 3) (dy := (b : Int) - 3) hM hk0 hWb hk1 hUb (by omega) (by omega) (by omega) (by omega)) i_X10_matching tw_6_214 tw_6_216 tp_37 M0 rfl dX10_best_29 ?_ 
          rw [← hn]
          refine j_istore X (i := 6) dX10_best_32 (by decide) rfl ?_
          refine j_iload X (i := 6) dX10_best_34 rfl ?_
          refine j_iload_n X (i := 3) dX10_best_36 rfl rfl ?_
          have take : ((n : Int) > s0.1 ∨ ((n : Int) = s0.1 ∧ ((a : Int) - 3).natAbs + ((b : Int) - 3).natAbs < s0.2.1.natAbs + s0.2.2.natAbs)) → J p l e (jR 4 0 0) s m args below meth c (jQm below args s g 0 0 (jE (some (.int (iN (bst S U).1))) z sk (bm t M (bst S U)))) 7 g 0 0 z sk  (bm t M s0) 78 [some (.ref (jb g + M)), some (.int (nI k0)), some (.int (nI k1)), some (.int (iN s0.1)), some (.int (iN ((a : Int) - 3))), some (.int (iN ((b : Int) - 3))), some (.int (nI n))] [] := fun hc => by
            unfold stp at hst2
            rw [if_pos hc] at hst2
            refine j_iload X (i := 6) dX10_best_78 rfl ?_
            refine j_istore_n X (i := 3) dX10_best_80 rfl (by decide) rfl ?_
            refine j_aload_n X (i := 0) dX10_best_81 rfl rfl ?_
            refine j_iload X (i := 4) dX10_best_82 rfl ?_
            refine jFd.put X fd_X10_118 M0 rfl rfl rfl rfl dX10_best_84 ?_
            refine j_aload_n X (i := 0) dX10_best_87 rfl rfl ?_
            refine j_iload X (i := 5) dX10_best_88 rfl ?_
            refine jFd.put X fd_X10_121 M0 rfl rfl rfl rfl dX10_best_90 ?_
            rw [bm_put t M s0 (n : Int)]
            have g2 := go _ hst2
            rw [iN_nI] at g2
            exact g2
          have keep : ¬ ((n : Int) > s0.1 ∨ ((n : Int) = s0.1 ∧ ((a : Int) - 3).natAbs + ((b : Int) - 3).natAbs < s0.2.1.natAbs + s0.2.2.natAbs)) → J p l e (jR 4 0 0) s m args below meth c (jQm below args s g 0 0 (jE (some (.int (iN (bst S U).1))) z sk (bm t M (bst S U)))) 7 g 0 0 z sk  (bm t M s0) 93 [some (.ref (jb g + M)), some (.int (nI k0)), some (.int (nI k1)), some (.int (iN s0.1)), some (.int (iN ((a : Int) - 3))), some (.int (iN ((b : Int) - 3))), some (.int (nI n))] [] := fun hc => by
            unfold stp at hst2
            rw [if_neg hc] at hst2
            exact go _ hst2
          by_cases c1 : (n : Int) < s0.1
          · refine j_icmp_lt X (tgt := 93) dX10_best_37 (by decide) (fun _ => ?_) (fun q9 => absurd (hlt.mpr c1) q9)
            exact keep (by omega)
          · refine j_icmp_lt X (tgt := 93) dX10_best_37 (by decide) (fun q9 => absurd q9 ((fun z9 => c1 (hlt.mp z9)))) (fun _ => ?_)
            refine j_iload X (i := 6) dX10_best_40 rfl ?_
            refine j_iload_n X (i := 3) dX10_best_42 rfl rfl ?_
            by_cases c2 : (n : Int) = s0.1
            · refine j_icmp_ne X (tgt := 78) dX10_best_43 (by decide) (fun q9 => absurd (heq.mpr c2) q9) (fun _ => ?_)
              refine j_iload X (i := 4) dX10_best_46 rfl ?_
              refine j_callS X (m_size hok hst (d := (a : Int) - 3) (by omega) (by omega)) i_X10_size tw_6_218 tw_6_219 dX10_best_48 ?_ 
              refine j_iload X (i := 5) dX10_best_51 rfl ?_
              refine j_callS X (m_size hok hst (d := (b : Int) - 3) (by omega) (by omega)) i_X10_size tw_6_218 tw_6_219 dX10_best_53 ?_ 
              refine j_iadd X dX10_best_56 ?_
              rw [nI_add]
              refine j_aload_n X (i := 0) dX10_best_57 rfl rfl ?_
              refine jFd.get X fd_X10_118 M0 rfl dX10_best_58 ?_
              rw [bm_16]
              refine j_callS X (m_size hok hst q3 q4) i_X10_size tw_6_218 tw_6_219 dX10_best_61 ?_ 
              refine j_aload_n X (i := 0) dX10_best_64 rfl rfl ?_
              refine jFd.get X fd_X10_121 M0 rfl dX10_best_65 ?_
              rw [bm_17]
              refine j_callS X (m_size hok hst q5 q6) i_X10_size tw_6_218 tw_6_219 dX10_best_68 ?_ 
              refine j_iadd X dX10_best_71 ?_
              rw [nI_add]
              by_cases c3 : ((a : Int) - 3).natAbs + ((b : Int) - 3).natAbs < s0.2.1.natAbs + s0.2.2.natAbs
              · refine j_icmp_lt X (tgt := 78) dX10_best_72 (by decide) (fun _ => ?_) (fun q9 => absurd (nI_lt c3 (by omega)) q9)
                exact take (Or.inr ⟨c2, c3⟩)
              · refine j_icmp_lt X (tgt := 78) dX10_best_72 (by decide) (fun q9 => absurd q9 (nI_nlt (Nat.le_of_not_lt c3) (by omega))) (fun _ => ?_)
                refine j_goto X (tgt := 93) dX10_best_75 (by decide) ?_
                exact keep (by omega)
            · refine j_icmp_ne X (tgt := 78) dX10_best_43 (by decide) (fun _ => ?_) (fun q9 => absurd q9 ((fun z9 => c2 (heq.mp z9))))
              exact take (Or.inl (by omega))
      exact inner 0 (Nat.zero_le _)
  refine j_iconst X (v := -1) dX10_best_0 (by decide) ?_
  refine j_istore_n X (i := 3) dX10_best_1 rfl (by decide) rfl ?_
  refine j_bipush X (v := -3) dX10_best_2 (by decide) ?_
  refine j_istore X (i := 4) dX10_best_4 (by decide) rfl ?_
  have k0' := outer 0 (Nat.zero_le _)
  have e0 : sj (7 * 0) = (-1, x0, y0) := by rw [hsj]; rfl
  rw [e0, bm_self (s := (-1, x0, y0)) b6 b7] at k0'
  exact k0'

