theorem RmV.newSheet {f f2 : Nat → Int32} {V : SV} (h : RmV f V) (hk : okV V) (h8 : ns V < 8) (e1 : f2 1 = nI (ns V + 1)) (e0 : ∀ i, i < 27 → i ≠ 2 → f2 (51 + 27 * ns V + i) = nI 0) (e2 : f2 (51 + 27 * ns V + 2) = iN (-1)) (ho : ∀ j, j ≠ 1 → (j < 51 + 27 * ns V ∨ 51 + 27 * ns V + 27 ≤ j) → f2 j = f j) : RmV f2 ((np V, ns V + 1, hr V), dr V, pl V, sh V) := by
  obtain ⟨h1, h2, h3, h4, h5, h6, h7⟩ := h
  have h66 := hk.1
  obtain ⟨b1, b2, b3, b4⟩ := hk.2.2.2.2.2.2.1 (ns V) h8 (Nat.le_refl _)
  refine ⟨(ho 0 (by omega) (by omega)).trans h1, e1, (ho 2 (by omega) (by omega)).trans h3, fun i hi => (ho _ (by omega) (by omega)).trans (h4 i hi), fun a ha => ?_, fun j hj => (h6 j hj).cong fun i hi => ho _ (by have hj : j < np V := hj; omega) (by have hj : j < np V := hj; omega), fun j hj => ?_⟩
  · rw [ho _ (by omega) (by omega), h5 a ha]
    refine congrArg iN ?_
    have e := rkG_ext (P := sh V) (a := (a : Int)) (ns V) 0 (by rw [Nat.zero_add, b3]; omega)
    exact e.symm
  · have hj : j < ns V + 1 := hj
    show RmS f2 (51 + 27 * j) (sh V j)
    by_cases e : j = ns V
    · rw [e]
      refine ⟨?_, ?_, ?_, fun i hi => Wd_0 (fun w hw => ?_) (fun c hc => (b4 i hi c hc).1), fun i hi => Wd_0 (fun w hw => ?_) (fun c hc => (b4 i hi c hc).2)⟩
      · rw [b1]; exact e0 0 (by omega) (by omega)
      · rw [b2]; exact e0 1 (by omega) (by omega)
      · rw [b3]; exact e2
      · rw [show 51 + 27 * ns V + 3 + 4 * i + w = 51 + 27 * ns V + (3 + 4 * i + w) by omega]; exact e0 _ (by omega) (by omega)
      · rw [show 51 + 27 * ns V + 15 + 4 * i + w = 51 + 27 * ns V + (15 + 4 * i + w) by omega]; exact e0 _ (by omega) (by omega)
    · exact (h7 j (by omega)).cong fun i hi => ho _ (by omega) (by omega)
theorem rk_put {V : SV} {k : Nat} (hk : k < ns V) {p : Nat} (hn : (sh V k).1.2.2 < 0) (hp : rkV V (p : Int) = -1) {a : Nat} : rkV (upS V k (tvP (sh V k) (p : Int))) (a : Int) = if a = p then (k : Int) else rkV V (a : Int) := by
  by_cases e : a = p
  · rw [if_pos e, e]
    refine rkG_one hk ?_ (fun j hj hne => ?_)
    · show (if k = k then tvP (sh V k) (p : Int) else sh V k).1.2.2 = _
      rw [if_pos rfl]; rfl
    · show (if j = k then tvP (sh V k) (p : Int) else sh V j).1.2.2 ≠ _
      rw [if_neg hne]
      exact rk_free hp hj
  · rw [if_neg e]
    refine rkG_cong _ _ (fun j _ _ => ?_)
    show (if j = k then tvP (sh V k) (p : Int) else sh V j).1.2.2 = _ ↔ _
    by_cases q : j = k
    · rw [if_pos q, q]
      constructor
      · intro z
        have z : (p : Int) = (a : Int) := z
        omega
      · intro z; omega
    · rw [if_neg q]
theorem rk_out {V : SV} (hV : okV V) {k : Nat} (hk : k < ns V) {p : Nat} (hp : (sh V k).1.2.2 = (p : Int)) {a : Nat} : rkV (upS V k (tvP (sh V k) (-1))) (a : Int) = if a = p then -1 else rkV V (a : Int) := by
  by_cases e : a = p
  · rw [if_pos e, e]
    refine rkG_none (fun j hj => ?_)
    have hj : j < ns V := hj
    show (if j = k then tvP (sh V k) (-1) else sh V j).1.2.2 ≠ _
    by_cases q : j = k
    · rw [if_pos q]
      intro z
      have z : (-1 : Int) = (p : Int) := z
      omega
    · rw [if_neg q]
      intro z
      exact q (hV.2.2.2.2.2.2.2 j k hj hk (by rw [z]; omega) (by rw [z, hp]))
  · rw [if_neg e]
    refine rkG_cong _ _ (fun j _ _ => ?_)
    show (if j = k then tvP (sh V k) (-1) else sh V j).1.2.2 = _ ↔ _
    by_cases q : j = k
    · rw [if_pos q, q, hp]
      constructor
      · intro z
        have z : (-1 : Int) = (a : Int) := z
        omega
      · intro z; omega
    · rw [if_neg q]
def setR (G : GS) (f : RF) : GS := (gV G, gS G, gH G, f, G.2.2.2.2)
theorem ch_ref {a b c m : Int} {w : Bool} {G : GS} {f : RF} (h : m < 0) : a_ch a b c w G (m, gV G, f) = (cod a b c m, nI 0, setR G f) := by
  unfold a_ch chX
  rw [if_pos (show ((m, gV G, f) : CR).1 < 0 from h), show ((m, gV G, f) : CR).1 = m from rfl, ansI_no h]
  rfl
theorem ch_yesR {a b c m : Int} {w : Bool} {G : GS} {V : SV} (h : 0 ≤ m) (ha : a < 0) (hb : b < 0) (hc : c < 0) : a_ch a b c w G (m, V, gR G) = (0, iN m, (V, (kpG w G).2)) := ch_yes h ha hb hc
theorem ch_noR {a b c m : Int} {w : Bool} {G : GS} (h : m < 0) : a_ch a b c w G (m, gV G, gR G) = (cod a b c m, nI 0, G) := ch_no h
/-- a refusal in the model -/
theorem RmG.ref {t : jT} {M : Nat} {w : WB} {G : GS} (h : RmG t M w G) (v : Int32) {a d : Nat} (h1 : 1 ≤ a) (h3 : a ≤ 3) : RmG (jU (jU (jU t M 7 v) M 8 (nI a)) M 9 (nI d)) M w (setR G (some (a, d))) := by
  obtain ⟨r1, r2, r3, r4, r5, r6, r7, r8, r9, r10, r11⟩ := h
  have e : ∀ k, k ≠ 7 → k ≠ 8 → k ≠ 9 → jU (jU (jU t M 7 v) M 8 (nI a)) M 9 (nI d) M k = t M k := fun k a1 a2 a3 => by
    rw [jU_eq, jU_eq, jU_eq]; unfold upd; rw [if_neg a3, if_neg a2, if_neg a1]
  have o : ∀ c, c ≠ M → jU (jU (jU t M 7 v) M 8 (nI a)) M 9 (nI d) c = t c := fun c hc => by rw [jU_ne _ _ _ hc, jU_ne _ _ _ hc, jU_ne _ _ _ hc]
  exact ⟨by rw [o _ (by omega)]; exact r1, r2.cong (e _ (by decide) (by decide) (by decide)) (o _ (by omega)), (e _ (by decide) (by decide) (by decide)).trans r3, by rw [o _ (by omega)]; exact r4, ⟨(e 6 (by decide) (by decide) (by decide)).trans r5.1, (e 20 (by decide) (by decide) (by decide)).trans r5.2⟩, ⟨by rw [jU_eq, jU_eq]; rfl, by rw [jU_eq]; rfl, h1, h3⟩, ⟨(e _ (by decide) (by decide) (by decide)).trans r7.1, by rw [o _ (by omega)]; exact r7.2⟩, (e _ (by decide) (by decide) (by decide)).trans r8, (e _ (by decide) (by decide) (by decide)).trans r9, ⟨(e _ (by decide) (by decide) (by decide)).trans r10.1, by rw [o _ (by omega)]; exact r10.2⟩, r11.cong (e _ (by decide) (by decide) (by decide)) (e _ (by decide) (by decide) (by decide))⟩
theorem ref_7 (t : jT) (M : Nat) (v x y : Int32) : jU (jU (jU t M 7 v) M 8 x) M 9 y M 7 = v := by rw [jU_eq, jU_eq, jU_eq]; rfl
theorem ref_o (t : jT) (M : Nat) (v x y : Int32) {c : Nat} (hc : c ≠ M) : jU (jU (jU t M 7 v) M 8 x) M 9 y c = t c := by rw [jU_ne _ _ _ hc, jU_ne _ _ _ hc, jU_ne _ _ _ hc]
theorem iN_neg1 {d : Int} (h1 : -1 ≤ d) (h2 : d < 3) : (0 ≤ iN d ↔ 0 ≤ d) ∧ (iN d < 0 ↔ d < 0) := ⟨iN_le (a := 0) (by decide) (by decide) (by omega) (by omega), iN_lt (b := 0) (by omega) (by omega) (by decide) (by decide)⟩
theorem m_addSheet {l : Launch} {g : jG} (hok : jOk g) (hst : l.stackTraces = false) {z : Option Nat} {sk : jS} {t : jT} {M : Nat} (hM : isMod g sk M) {w : WB} {G : GS} (hG : RmG t M w G) (hK : okG G) : jMet l g mX10_addSheet 3 0 0 [.ref (jb g + M)] z sk t (mP M w (a_addSheet w.1 G) z sk t) := by
  refine j_body (lv := [some (.ref (jb g + M)), none, none]) i_X10_addSheet hok hst (fun p e s m args below meth c X => ?_)
  obtain ⟨M0, M1, M2, M3, M4, M5, M6, M7⟩ := id hM
  obtain ⟨r1, r2, r3, r4, r5, r6, r7, r8, r9, r10, r11⟩ := id hG
  obtain ⟨u1, u2, u3, u4, u5, u6, u7⟩ := id r1
  obtain ⟨k1, k2, k3, k4, k5, k6, k7, k8⟩ := id hK.1
  have no : ∀ (n : Nat) (m2 : Int), 0 < n → n < 4 → m2 < 0 → vNewSheet (gV G) = (m2, gV G) → cod (-3) (-9) (-9) m2 = n → J p l e (jR 3 0 0) s m args below meth c (jQm below args s g 0 0 (mP M w (a_addSheet w.1 G) z sk t)) 3 g 0 0 z sk t 17 [some (.ref (jb g + M)), none, none] [.int (nI n), .ref (jb g + M)] := fun n m2 h0 h4 hm ev hc => by
    refine j_callV X (m_fails hok hst hM h4) i_X10_fails tw_6_135 tw_6_137 tp_25 M0 rfl dX10_addSheet_17 ?_ 
    rw [decide_eq_true h0]
    refine j_if_eq X (tgt := 25) dX10_addSheet_20 (by decide) (fun q9 => absurd q9 (by decide)) (fun _ => ?_)
    refine j_iconst X (v := (nI 0)) dX10_addSheet_23 (by decide) ?_
    exact j_iret X dX10_addSheet_24 rfl rfl (mP_no hG (by rw [a_addSheet, ev, ch_no hm, hc]))
  refine j_aload_n X (i := 0) dX10_addSheet_0 rfl rfl ?_
  refine j_aload_n X (i := 0) dX10_addSheet_1 rfl rfl ?_
  refine jFd.get X fd_X10_7 M0 rfl dX10_addSheet_2 ?_
  refine j_iconst X (v := (nI 1)) dX10_addSheet_5 (by decide) ?_
  refine j_iald X M1 rfl (by decide) (by decide) dX10_addSheet_6 ?_
  rw [u2]
  refine j_bipush X (v := (nI 8)) dX10_addSheet_7 (by decide) ?_
  by_cases h8 : ns (gV G) = 8
  · refine j_icmp_ne X (tgt := 16) dX10_addSheet_9 (by decide) (fun q9 => absurd ((congrArg nI h8)) q9) (fun _ => ?_)
    refine j_iconst X (v := (nI 1)) dX10_addSheet_12 (by decide) ?_
    refine j_goto X (tgt := 17) dX10_addSheet_13 (by decide) ?_
    exact no 1 (-3) (by decide) (by decide) (by decide) (by unfold vNewSheet; rw [if_pos (by omega)]) (by decide)
  · refine j_icmp_ne X (tgt := 16) dX10_addSheet_9 (by decide) (fun _ => ?_) (fun q9 => absurd q9 ((fun z9 => h8 ((nI_eq (by omega) (by decide)).mp z9))))
    refine j_iconst X (v := (nI 0)) dX10_addSheet_16 (by decide) ?_
    refine j_callV X (m_fails hok hst hM (n := 0) (by decide)) i_X10_fails tw_6_135 tw_6_137 tp_25 M0 rfl dX10_addSheet_17 ?_ 
    rw [decide_eq_false (Nat.lt_irrefl 0)]
    refine j_if_eq X (tgt := 25) dX10_addSheet_20 (by decide) (fun _ => ?_) (fun q9 => absurd (rfl) q9)
    have hG1 := hG.jcode (nI 0)
    have f1 : ∀ c, c ≠ M → jU t M 7 (nI 0) c = t c := fun c hc => jU_ne _ _ _ hc
    generalize jU t M 7 (nI 0) = t1 at hG1 f1 ⊢
    refine j_aload_n X (i := 0) dX10_addSheet_25 rfl rfl ?_
    refine j_aload_n X (i := 0) dX10_addSheet_26 rfl rfl ?_
    refine jFd.get X fd_X10_7 M0 rfl dX10_addSheet_27 ?_
    refine j_callV_p X (m_keepG hok hst hM hG1 hK) i_X10_keeps tw_6_139 tw_6_141 tp_26 M0 rfl dX10_addSheet_30 (fun v2 z2 sk2 t2 hp => ?_) 
    obtain ⟨rfl, rfl, rfl, hG2, c2, f2a⟩ := hp
    have f2 : ∀ c, (c < M ∨ M + 8 ≤ c ∨ c = M + 4 ∨ c = M + 7) → t2 c = t c := fun c hc => (f2a c (by omega) (by omega)).trans (f1 c (by omega))
    have w2 : RmV (t2 (M + 1)) (gV G) := hG2.1
    clear f2a hG1 f1 t1
    have ev : vNewSheet (gV G) = ((ns (gV G) : Int), ((np (gV G), ns (gV G) + 1, hr (gV G)), dr (gV G), pl (gV G), sh (gV G))) := by unfold vNewSheet; rw [if_neg (by omega)]
    have hr2 : a_addSheet w.1 G = (0, nI (ns (gV G)), (((np (gV G), ns (gV G) + 1, hr (gV G)), dr (gV G), pl (gV G), sh (gV G)), (kpG w.1 G).2)) := by
      rw [a_addSheet, ev, ch_yes (by omega) (by decide) (by decide) (by decide), iN_nI]
    have hn8 : ns (gV G) < 8 := by omega
    have w21 : t2 (M + 1) 1 = nI (ns (gV G)) := w2.2.1
    refine j_aload_n X (i := 0) dX10_addSheet_33 rfl rfl ?_
    refine jFd.get X fd_X10_7 M0 rfl dX10_addSheet_34 ?_
    refine j_iconst X (v := (nI 1)) dX10_addSheet_37 (by decide) ?_
    refine j_iald X M1 rfl (by decide) (by decide) dX10_addSheet_38 ?_
    rw [w21]
    refine j_istore_n X (i := 1) dX10_addSheet_39 rfl (by decide) rfl ?_
    refine j_aload_n X (i := 0) dX10_addSheet_40 rfl rfl ?_
    refine jFd.get X fd_X10_7 M0 rfl dX10_addSheet_41 ?_
    refine j_iconst X (v := (nI 1)) dX10_addSheet_44 (by decide) ?_
    refine j_dup2 X dX10_addSheet_45 rfl rfl ?_
    refine j_iald X M1 rfl (by decide) (by decide) dX10_addSheet_46 ?_
    rw [w21]
    refine j_iconst X (v := (nI 1)) dX10_addSheet_47 (by decide) ?_
    refine j_iadd X dX10_addSheet_48 ?_
    rw [nI_add]
    refine j_iast X M1 rfl (by decide) (by decide) dX10_addSheet_49 ?_
    refine j_iconst X (v := (nI 0)) dX10_addSheet_50 (by decide) ?_
    refine j_istore_n X (i := 2) dX10_addSheet_51 rfl (by decide) rfl ?_
    generalize hnn : ns (gV G) = n at hn8 w21 hr2 ⊢
    obtain ⟨t3, ht3⟩ : ∃ t3, t3 = jU t2 (M + 1) 1 (nI (n + 1)) := ⟨_, rfl⟩
    have o3 : ∀ c, c ≠ M + 1 → t3 c = t2 c := fun c hc => by rw [ht3]; exact jU_ne _ _ _ hc
    have e3 : t3 (M + 1) = upd (t2 (M + 1)) 1 (nI (n + 1)) := by rw [ht3, jU_eq]
    rw [← ht3]
    clear ht3
    have loop : ∀ k, k ≤ 27 → J p l e (jR 3 0 0) s m args below meth c (jQm below args s g 0 0 (mP M w (a_addSheet w.1 G) z sk t)) 3 g (0 + 0 + 0) (0 + 0 + 0) z sk  (jUf t3 (M + 1) (fun q => if 51 + 27 * n ≤ q ∧ q < 51 + 27 * n + k then nI 0 else t3 (M + 1) q)) 52 [some (.ref (jb g + M)), some (.int (nI n)), some (.int (nI k))] [] := by
      refine up_loop ?_ ?_
      · refine j_iload_n X (i := 2) dX10_addSheet_52 rfl rfl ?_
        refine j_bipush X (v := (nI 27)) dX10_addSheet_53 (by decide) ?_
        refine j_icmp_ge X (tgt := 71) dX10_addSheet_55 (by decide) (fun _ => ?_) (fun q9 => absurd (nI_le (Nat.le_refl _) (by decide)) q9)
        refine j_aload_n X (i := 0) dX10_addSheet_71 rfl rfl ?_
        refine j_iload_n X (i := 1) dX10_addSheet_72 rfl rfl ?_
        refine j_iconst X (v := (nI 2)) dX10_addSheet_73 (by decide) ?_
        refine j_iconst X (v := -1) dX10_addSheet_74 (by decide) ?_
        refine j_callV X (m_lays hok hst (k := n) (w := 2) hM (by omega) _) i_X10_lays tw_7_33 tw_7_35 tp_39 M0 rfl dX10_addSheet_75 ?_ 
        refine j_iload_n X (i := 1) dX10_addSheet_78 rfl rfl ?_
        have o4 : ∀ c, c ≠ M + 1 → jU (jUf t3 (M + 1) (fun q => if 51 + 27 * n ≤ q ∧ q < 51 + 27 * n + 27 then nI 0 else t3 (M + 1) q)) (M + 1) (51 + 27 * n + 2) (-1) c = t2 c := fun c hc => by rw [jU_ne _ _ _ hc, jUf_ne _ _ hc]; exact o3 c hc
        refine j_iret X dX10_addSheet_79 rfl rfl (mP_mk hr2 ?_ (hG2.g ?_ o4) ?_)
        · rw [o4 _ (by omega)]; exact c2
        · rw [jU_eq, jUf_eq, ← hnn]
          refine RmV.newSheet w2 hK.1 (by omega) ?_ (fun i hi h2 => ?_) ?_ (fun j h1 hj => ?_)
          · unfold upd
            rw [if_neg (by omega)]
            show (if _ then _ else _) = _
            rw [if_neg (by omega), e3, hnn]
            exact if_pos rfl
          · unfold upd
            rw [if_neg (by omega)]
            exact if_pos (by omega)
          · exact if_pos rfl
          · unfold upd
            rw [if_neg (by omega)]
            show (if _ then _ else _) = _
            rw [if_neg (by omega), e3]
            exact if_neg h1
        · intro c hc
          rw [o4 c (by omega)]
          exact f2 c hc
      · intro k hk ih
        refine j_iload_n X (i := 2) dX10_addSheet_52 rfl rfl ?_
        refine j_bipush X (v := (nI 27)) dX10_addSheet_53 (by decide) ?_
        refine j_icmp_ge X (tgt := 71) dX10_addSheet_55 (by decide) (fun q9 => absurd q9 (nI_ge hk (by decide))) (fun _ => ?_)
        refine j_aload_n X (i := 0) dX10_addSheet_58 rfl rfl ?_
        refine j_iload_n X (i := 1) dX10_addSheet_59 rfl rfl ?_
        refine j_iload_n X (i := 2) dX10_addSheet_60 rfl rfl ?_
        refine j_iconst X (v := (nI 0)) dX10_addSheet_61 (by decide) ?_
        refine j_callV X (m_lays hok hst (k := n) (w := k) hM (by omega) _) i_X10_lays tw_7_33 tw_7_35 tp_39 M0 rfl dX10_addSheet_62 ?_ 
        refine j_iinc X (i := 2) (v := (nI (k + 1))) dX10_addSheet_65 rfl (nI_1 k) (by decide) rfl ?_
        refine j_goto X (tgt := 52) dX10_addSheet_68 (by decide) ?_
        have e : jU (jUf t3 (M + 1) (fun q => if 51 + 27 * n ≤ q ∧ q < 51 + 27 * n + k then nI 0 else t3 (M + 1) q)) (M + 1) (51 + 27 * n + k) (nI 0) = jUf t3 (M + 1) (fun q => if 51 + 27 * n ≤ q ∧ q < 51 + 27 * n + (k + 1) then nI 0 else t3 (M + 1) q) := by
          rw [jU_row, jUf_jUf, jUf_eq]
          congr 1
          funext j
          unfold upd
          by_cases hj : j = 51 + 27 * n + k
          · rw [if_pos hj, if_pos (by omega)]
          · rw [if_neg hj]
            show (if _ then _ else _) = _
            by_cases h2 : 51 + 27 * n ≤ j ∧ j < 51 + 27 * n + k
            · rw [if_pos h2, if_pos (by omega)]
            · rw [if_neg h2, if_neg (by omega)]
        rw [e]
        exact ih
    have k0 := loop 0 (Nat.zero_le _)
    rw [show (fun q => if 51 + 27 * n ≤ q ∧ q < 51 + 27 * n + 0 then nI 0 else t3 (M + 1) q) = t3 (M + 1) from funext fun j => if_neg (by omega), jUf_self] at k0
    exact k0

theorem m_putInRack {l : Launch} {g : jG} (hok : jOk g) (hst : l.stackTraces = false) {z : Option Nat} {sk : jS} {t : jT} {M : Nat} (hM : isMod g sk M) {w : WB} {G : GS} (hG : RmG t M w G) (hK : okG G) (o : Int32) : jMet l g mX10_putInRack 3 0 0 [.ref (jb g + M), .int o] z sk t (mP M w (a_putInRack w.1 G o) z sk t) := by
  refine j_body (lv := [some (.ref (jb g + M)), some (.int o), none]) i_X10_putInRack hok hst (fun p e s m args below meth c X => ?_)
  obtain ⟨M0, M1, M2, M3, M4, M5, M6, M7⟩ := id hM
  obtain ⟨r1, r2, r3, r4, r5, r6, r7, r8, r9, r10, r11⟩ := id hG
  obtain ⟨u1, u2, u3, u4, u5, u6, u7⟩ := id r1
  obtain ⟨k1, k2, k3, k4, k5, k6, k7, k8⟩ := id hK.1
  have no : ∀ (n : Nat) (m2 : Int), 0 < n → n < 4 → m2 < 0 → vRack (gV G) (gR G) o = (m2, gV G, gR G) → cod (-1) (-3) (-5) m2 = n → J p l e (jR 3 0 0) s m args below meth c (jQm below args s g 0 0 (mP M w (a_putInRack w.1 G o) z sk t)) 3 g 0 0 z sk t 27 [some (.ref (jb g + M)), some (.int o), none] [.int (nI n), .ref (jb g + M)] := fun n m2 h0 h4 hm ev hc => by
    refine j_callV X (m_fails hok hst hM h4) i_X10_fails tw_6_135 tw_6_137 tp_25 M0 rfl dX10_putInRack_27 ?_ 
    rw [decide_eq_true h0]
    refine j_if_eq X (tgt := 35) dX10_putInRack_30 (by decide) (fun q9 => absurd q9 (by decide)) (fun _ => ?_)
    refine j_iconst X (v := (nI 0)) dX10_putInRack_33 (by decide) ?_
    exact j_iret X dX10_putInRack_34 rfl rfl (mP_no hG (by rw [a_putInRack, ev, ch_noR hm, hc]))
  refine j_aload_n X (i := 0) dX10_putInRack_0 rfl rfl ?_
  refine j_aload_n X (i := 0) dX10_putInRack_1 rfl rfl ?_
  refine j_iload_n X (i := 1) dX10_putInRack_2 rfl rfl ?_
  refine j_callV X (m_isSheet hok hst hM u2 (by omega) o) i_X10_isSheet tw_7_41 tw_7_43 tp_40 M0 rfl dX10_putInRack_3 ?_ 
  cases ho : pIx (ns (gV G)) o with
  | false =>
    refine j_if_ne X (tgt := 13) dX10_putInRack_6 (by decide) (fun q9 => absurd (rfl) q9) (fun _ => ?_)
    refine j_iconst X (v := (nI 1)) dX10_putInRack_9 (by decide) ?_
    refine j_goto X (tgt := 27) dX10_putInRack_10 (by decide) ?_
    exact no 1 (-1) (by decide) (by decide) (by decide) (by unfold vRack; rw [if_pos ho]) (by decide)
  | true =>
    obtain ⟨k, hk1, rfl, hkn⟩ := pIx_of (by omega) ho
    have oS := k4 k (by omega)
    obtain ⟨i1, i2⟩ := iN_neg1 oS.2.1 oS.2.2
    have ev0 : vRack (gV G) (gR G) (nI k) = if 0 ≤ (sh (gV G) k).1.2.2 then (-3, gV G, gR G) else if frV (gV G) < 3 then ((frV (gV G) : Int), upS (gV G) k (tvP (sh (gV G) k) (frV (gV G))), gR G) else (-5, gV G, some (3, 3)) := by
      unfold vRack
      rw [if_neg (by rw [ho]; decide), sAt_nI hkn, hkn]
    refine j_if_ne X (tgt := 13) dX10_putInRack_6 (by decide) (fun _ => ?_) (fun q9 => absurd q9 (by decide))
    refine j_aload_n X (i := 0) dX10_putInRack_13 rfl rfl ?_
    refine j_iload_n X (i := 1) dX10_putInRack_14 rfl rfl ?_
    refine j_iconst X (v := (nI 2)) dX10_putInRack_15 (by decide) ?_
    refine j_callV X (m_on hok hst (k := k) (w := 2) hM (by omega)) i_X10_on tw_7_45 tw_7_47 tp_41 M0 rfl dX10_putInRack_16 ?_ 
    rw [show t (M + 1) (51 + 27 * k + 2) = _ from (u7 k hk1).2.2.1]
    by_cases h0 : 0 ≤ (sh (gV G) k).1.2.2
    · rw [if_pos h0] at ev0
      refine j_if_ge X (tgt := 26) dX10_putInRack_19 (by decide) (fun _ => ?_) (fun q9 => absurd (i1.mpr h0) q9)
      refine j_iconst X (v := (nI 2)) dX10_putInRack_26 (by decide) ?_
      exact no 2 (-3) (by decide) (by decide) (by decide) ev0 (by decide)
    · rw [if_neg h0] at ev0
      refine j_if_ge X (tgt := 26) dX10_putInRack_19 (by decide) (fun q9 => absurd q9 ((fun z9 => h0 (i1.mp z9)))) (fun _ => ?_)
      refine j_iconst X (v := (nI 0)) dX10_putInRack_22 (by decide) ?_
      refine j_goto X (tgt := 27) dX10_putInRack_23 (by decide) ?_
      refine j_callV X (m_fails hok hst hM (n := 0) (by decide)) i_X10_fails tw_6_135 tw_6_137 tp_25 M0 rfl dX10_putInRack_27 ?_ 
      refine j_if_eq X (tgt := 35) dX10_putInRack_30 (by decide) (fun _ => ?_) (fun q9 => absurd (rfl) q9)
      have hG1 := hG.jcode (nI 0)
      have c1 : jU t M 7 (nI 0) M 7 = nI 0 := by rw [jU_eq]; rfl
      have f1 : ∀ c, (c < M ∨ M + 8 ≤ c ∨ c = M + 4 ∨ c = M + 7) → jU t M 7 (nI 0) c = t c := fun c hc => jU_ne _ _ _ (by omega)
      generalize jU t M 7 (nI 0) = t1 at hG1 c1 f1 ⊢
      obtain ⟨w1, w2, w3, w4, w5, w6, w7⟩ := id hG1.1
      have fin : J p l e (jR 3 0 0) s m args below meth c (jQm below args s g 0 0 (mP M w (a_putInRack w.1 G (nI k)) z sk t)) 3 g 0 0 z sk t1 60 [some (.ref (jb g + M)), some (.int (nI k)), some (.int (nI (frV (gV G))))] [] := by
        have hle := (frG_le (gV G) 3 0).2
        have hle : frV (gV G) ≤ 3 := by unfold frV; omega
        refine j_iload_n X (i := 2) dX10_putInRack_60 rfl rfl ?_
        refine j_iconst X (v := (nI 3)) dX10_putInRack_61 (by decide) ?_
        by_cases h3 : frV (gV G) = 3
        · rw [if_neg (by omega)] at ev0
          refine j_icmp_ne X (tgt := 73) dX10_putInRack_62 (by decide) (fun q9 => absurd ((congrArg nI h3)) q9) (fun _ => ?_)
          refine j_aload_n X (i := 0) dX10_putInRack_65 rfl rfl ?_
          refine j_iconst X (v := (nI 3)) dX10_putInRack_66 (by decide) ?_
          refine j_iconst X (v := (nI 3)) dX10_putInRack_67 (by decide) ?_
          refine j_iconst X (v := (nI 3)) dX10_putInRack_68 (by decide) ?_
          refine j_callV X (m_refuses hok hst hM _ _ _) i_X10_refuses tw_7_49 tw_7_51 tp_42 M0 rfl dX10_putInRack_69 ?_ 
          exact j_iret X dX10_putInRack_72 rfl rfl (mP_mk (by rw [a_putInRack, ev0, ch_ref (by decide)]; rfl) (ref_7 _ _ _ _ _) (hG1.ref _ (by decide) (by decide)) (fun c hc => (ref_o _ _ _ _ _ (by omega)).trans (f1 c hc)))
        · rw [if_pos (by omega)] at ev0
          have hfree := frG_free (gV G) 3 0 (by unfold frV at h3 hle; omega)
          have hfree : rkV (gV G) (frV (gV G) : Int) = -1 := hfree
          have hp3 : frV (gV G) < 3 := by omega
          refine j_icmp_ne X (tgt := 73) dX10_putInRack_62 (by decide) (fun _ => ?_) (fun q9 => absurd q9 ((fun z9 => h3 ((nI_eq (by omega) (by decide)).mp z9))))
          generalize frV (gV G) = p9 at ev0 hfree hp3 ⊢
          refine j_aload_n X (i := 0) dX10_putInRack_73 rfl rfl ?_
          refine j_aload_n X (i := 0) dX10_putInRack_74 rfl rfl ?_
          refine jFd.get X fd_X10_7 M0 rfl dX10_putInRack_75 ?_
          refine j_callV_p X (m_keepG hok hst hM hG1 hK) i_X10_keeps tw_6_139 tw_6_141 tp_26 M0 rfl dX10_putInRack_78 (fun v2 z2 sk2 t2 hp => ?_) 
          obtain ⟨rfl, rfl, rfl, hG2, c2, f2a⟩ := hp
          have f2 : ∀ c, (c < M ∨ M + 8 ≤ c ∨ c = M + 4 ∨ c = M + 7) → t2 c = t c := fun c hc => (f2a c (by omega) (by omega)).trans (f1 c hc)
          have x2 : RmV (t2 (M + 1)) (gV G) := hG2.1
          refine j_aload_n X (i := 0) dX10_putInRack_81 rfl rfl ?_
          refine jFd.get X fd_X10_7 M0 rfl dX10_putInRack_82 ?_
          refine j_bipush X (v := (nI 6)) dX10_putInRack_85 (by decide) ?_
          refine j_iload_n X (i := 2) dX10_putInRack_87 rfl rfl ?_
          refine j_iadd X dX10_putInRack_88 ?_
          rw [nI_add]
          refine j_iload_n X (i := 1) dX10_putInRack_89 rfl rfl ?_
          refine j_iast X M1 rfl (by omega) (by decide) dX10_putInRack_90 ?_
          refine j_aload_n X (i := 0) dX10_putInRack_91 rfl rfl ?_
          refine j_iload_n X (i := 1) dX10_putInRack_92 rfl rfl ?_
          refine j_iconst X (v := (nI 2)) dX10_putInRack_93 (by decide) ?_
          refine j_iload_n X (i := 2) dX10_putInRack_94 rfl rfl ?_
          refine j_callV X (m_lays hok hst (k := k) (w := 2) hM (by omega) _) i_X10_lays tw_7_33 tw_7_35 tp_39 M0 rfl dX10_putInRack_95 ?_ 
          refine j_iload_n X (i := 2) dX10_putInRack_98 rfl rfl ?_
          have o4 : ∀ c, c ≠ M + 1 → jU (jU t2 (M + 1) (6 + p9) (nI k)) (M + 1) (51 + 27 * k + 2) (nI p9) c = t2 c := fun c hc => by rw [jU_ne _ _ _ hc, jU_ne _ _ _ hc]
          have hr2 : a_putInRack w.1 G (nI k) = (0, nI p9, (upS (gV G) k (tvP (sh (gV G) k) p9), (kpG w.1 G).2)) := by
            rw [a_putInRack, ev0, ch_yesR (by omega) (by decide) (by decide) (by decide), iN_nI]
          refine j_iret X dX10_putInRack_99 rfl rfl (mP_mk hr2 ?_ (hG2.g ?_ o4) ?_)
          · rw [o4 _ (by omega)]; exact c2
          · rw [jU_eq, jU_eq]
            obtain ⟨s1, s2, s3, s4, s5⟩ := x2.2.2.2.2.2.2 k hk1
            refine x2.upSD k1 k2 hk1 (V2 := upS (gV G) k (tvP (sh (gV G) k) p9)) rfl rfl rfl (fun i hi => ?_) (fun a ha => ?_) ⟨?_, ?_, ?_, fun j hj => (s4 j hj).cong fun w9 hw => ?_, fun j hj => (s5 j hj).cong fun w9 hw => ?_⟩ (fun j h1 hj => ?_)
            · unfold upd; rw [if_neg (by omega), if_neg (by omega)]; exact x2.2.2.2.1 i hi
            · unfold upd
              rw [rk_put hk1 (by omega) hfree, if_neg (by omega)]
              by_cases e : a = p9
              · rw [if_pos (by omega), if_pos e, iN_nI]
              · rw [if_neg (by omega), if_neg e]; exact x2.2.2.2.2.1 a ha
            · unfold upd; rw [if_neg (by omega), if_neg (by omega)]; exact s1
            · unfold upd; rw [if_neg (by omega), if_neg (by omega)]; exact s2
            · unfold upd; rw [if_pos rfl, ← iN_nI]; rfl
            · unfold upd; rw [if_neg (by omega), if_neg (by omega)]
            · unfold upd; rw [if_neg (by omega), if_neg (by omega)]
            · unfold upd; rw [if_neg (by omega), if_neg (by omega)]
          · intro c hc
            rw [o4 c (by omega)]
            exact f2 c hc
      have key : ∀ k9, k9 ≤ 3 → frV (gV G) = frG (gV G) (3 - k9) k9 → J p l e (jR 3 0 0) s m args below meth c (jQm below args s g 0 0 (mP M w (a_putInRack w.1 G (nI k)) z sk t)) 3 g 0 0 z sk t1 37 [some (.ref (jb g + M)), some (.int (nI k)), some (.int (nI k9))] [] := by
        refine up_loop ?_ ?_
        · intro e
          have e3 : frV (gV G) = 3 := e
          rw [e3] at fin
          refine j_iload_n X (i := 2) dX10_putInRack_37 rfl rfl ?_
          refine j_iconst X (v := (nI 3)) dX10_putInRack_38 (by decide) ?_
          refine j_icmp_ge X (tgt := 60) dX10_putInRack_39 (by decide) (fun _ => ?_) (fun q9 => absurd (nI_le (Nat.le_refl _) (by decide)) q9)
          exact fin
        · intro k9 hk9 ih e
          have hge := rkG_ge (sh (gV G)) (k9 : Int) (ns (gV G)) 0
          have hlt := iN_lt (a := rkV (gV G) (k9 : Int)) (b := 0) (by unfold rkV; omega) (by unfold rkV; omega) (by decide) (by decide)
          rw [show 3 - k9 = (3 - (k9 + 1)) + 1 by omega] at e
          unfold frG at e
          refine j_iload_n X (i := 2) dX10_putInRack_37 rfl rfl ?_
          refine j_iconst X (v := (nI 3)) dX10_putInRack_38 (by decide) ?_
          refine j_icmp_ge X (tgt := 60) dX10_putInRack_39 (by decide) (fun q9 => absurd q9 (nI_ge hk9 (by decide))) (fun _ => ?_)
          refine j_aload_n X (i := 0) dX10_putInRack_42 rfl rfl ?_
          refine jFd.get X fd_X10_7 M0 rfl dX10_putInRack_43 ?_
          refine j_bipush X (v := (nI 6)) dX10_putInRack_46 (by decide) ?_
          refine j_iload_n X (i := 2) dX10_putInRack_48 rfl rfl ?_
          refine j_iadd X dX10_putInRack_49 ?_
          rw [nI_add]
          refine j_iald X M1 rfl (by omega) (by decide) dX10_putInRack_50 ?_
          rw [w5 k9 hk9]
          by_cases h : rkV (gV G) (k9 : Int) = -1
          · rw [if_pos h] at e
            rw [e] at fin
            refine j_if_lt X (tgt := 60) dX10_putInRack_51 (by decide) (fun _ => ?_) (fun q9 => absurd (hlt.mpr (by omega)) q9)
            exact fin
          · rw [if_neg h] at e
            refine j_if_lt X (tgt := 60) dX10_putInRack_51 (by decide) (fun q9 => absurd q9 ((fun z9 => by have := hlt.mp z9; unfold rkV at h this; omega))) (fun _ => ?_)
            refine j_iinc X (i := 2) (v := (nI (k9 + 1))) dX10_putInRack_54 rfl (nI_1 k9) (by decide) rfl ?_
            refine j_goto X (tgt := 37) dX10_putInRack_57 (by decide) ?_
            exact ih e
      refine j_iconst X (v := (nI 0)) dX10_putInRack_35 (by decide) ?_
      refine j_istore_n X (i := 2) dX10_putInRack_36 rfl (by decide) rfl ?_
      exact key 0 (Nat.zero_le _) rfl

theorem m_takeOut {l : Launch} {g : jG} (hok : jOk g) (hst : l.stackTraces = false) {z : Option Nat} {sk : jS} {t : jT} {M : Nat} (hM : isMod g sk M) {w : WB} {G : GS} (hG : RmG t M w G) (hK : okG G) (o : Int32) : jMet l g mX10_takeOut 3 0 0 [.ref (jb g + M), .int o] z sk t (mP M w (a_takeOut w.1 G o) z sk t) := by
  refine j_body (lv := [some (.ref (jb g + M)), some (.int o), none]) i_X10_takeOut hok hst (fun p e s m args below meth c X => ?_)
  obtain ⟨M0, M1, M2, M3, M4, M5, M6, M7⟩ := id hM
  obtain ⟨r1, r2, r3, r4, r5, r6, r7, r8, r9, r10, r11⟩ := id hG
  obtain ⟨u1, u2, u3, u4, u5, u6, u7⟩ := id r1
  obtain ⟨k1, k2, k3, k4, k5, k6, k7, k8⟩ := id hK.1
  have no : ∀ (n : Nat) (m2 : Int), 0 < n → n < 4 → m2 < 0 → vUnrack (gV G) o = (m2, gV G) → cod (-1) (-3) (-9) m2 = n → J p l e (jR 3 0 0) s m args below meth c (jQm below args s g 0 0 (mP M w (a_takeOut w.1 G o) z sk t)) 3 g 0 0 z sk t 27 [some (.ref (jb g + M)), some (.int o), none] [.int (nI n), .ref (jb g + M)] := fun n m2 h0 h4 hm ev hc => by
    refine j_callV X (m_fails hok hst hM h4) i_X10_fails tw_6_135 tw_6_137 tp_25 M0 rfl dX10_takeOut_27 ?_ 
    rw [decide_eq_true h0]
    refine j_if_eq X (tgt := 35) dX10_takeOut_30 (by decide) (fun q9 => absurd q9 (by decide)) (fun _ => ?_)
    refine j_iconst X (v := (nI 0)) dX10_takeOut_33 (by decide) ?_
    exact j_iret X dX10_takeOut_34 rfl rfl (mP_no hG (by rw [a_takeOut, ev, ch_no hm, hc]))
  refine j_aload_n X (i := 0) dX10_takeOut_0 rfl rfl ?_
  refine j_aload_n X (i := 0) dX10_takeOut_1 rfl rfl ?_
  refine j_iload_n X (i := 1) dX10_takeOut_2 rfl rfl ?_
  refine j_callV X (m_isSheet hok hst hM u2 (by omega) o) i_X10_isSheet tw_7_41 tw_7_43 tp_40 M0 rfl dX10_takeOut_3 ?_ 
  cases ho : pIx (ns (gV G)) o with
  | false =>
    refine j_if_ne X (tgt := 13) dX10_takeOut_6 (by decide) (fun q9 => absurd (rfl) q9) (fun _ => ?_)
    refine j_iconst X (v := (nI 1)) dX10_takeOut_9 (by decide) ?_
    refine j_goto X (tgt := 27) dX10_takeOut_10 (by decide) ?_
    exact no 1 (-1) (by decide) (by decide) (by decide) (by unfold vUnrack; rw [if_pos ho]) (by decide)
  | true =>
    obtain ⟨k, hk1, rfl, hkn⟩ := pIx_of (by omega) ho
    have oS := k4 k (by omega)
    obtain ⟨i1, i2⟩ := iN_neg1 oS.2.1 oS.2.2
    have ev0 : vUnrack (gV G) (nI k) = if (sh (gV G) k).1.2.2 < 0 then (-3, gV G) else ((sh (gV G) k).1.2.2, upS (gV G) k (tvP (sh (gV G) k) (-1))) := by
      unfold vUnrack
      rw [if_neg (by rw [ho]; decide), sAt_nI hkn, hkn]
    refine j_if_ne X (tgt := 13) dX10_takeOut_6 (by decide) (fun _ => ?_) (fun q9 => absurd q9 (by decide))
    refine j_aload_n X (i := 0) dX10_takeOut_13 rfl rfl ?_
    refine j_iload_n X (i := 1) dX10_takeOut_14 rfl rfl ?_
    refine j_iconst X (v := (nI 2)) dX10_takeOut_15 (by decide) ?_
    refine j_callV X (m_on hok hst (k := k) (w := 2) hM (by omega)) i_X10_on tw_7_45 tw_7_47 tp_41 M0 rfl dX10_takeOut_16 ?_ 
    rw [show t (M + 1) (51 + 27 * k + 2) = _ from (u7 k hk1).2.2.1]
    by_cases h0 : 0 ≤ (sh (gV G) k).1.2.2
    · rw [if_neg (by omega)] at ev0
      refine j_if_ge X (tgt := 26) dX10_takeOut_19 (by decide) (fun _ => ?_) (fun q9 => absurd (i1.mpr h0) q9)
      refine j_iconst X (v := (nI 0)) dX10_takeOut_26 (by decide) ?_
      refine j_callV X (m_fails hok hst hM (n := 0) (by decide)) i_X10_fails tw_6_135 tw_6_137 tp_25 M0 rfl dX10_takeOut_27 ?_ 
      refine j_if_eq X (tgt := 35) dX10_takeOut_30 (by decide) (fun _ => ?_) (fun q9 => absurd (rfl) q9)
      have hG1 := hG.jcode (nI 0)
      have c1 : jU t M 7 (nI 0) M 7 = nI 0 := by rw [jU_eq]; rfl
      have f1 : ∀ c, (c < M ∨ M + 8 ≤ c ∨ c = M + 4 ∨ c = M + 7) → jU t M 7 (nI 0) c = t c := fun c hc => jU_ne _ _ _ (by omega)
      generalize jU t M 7 (nI 0) = t1 at hG1 c1 f1 ⊢
      obtain ⟨w1, w2, w3, w4, w5, w6, w7⟩ := id hG1.1
      obtain ⟨p9, hp9⟩ : ∃ p9 : Nat, (sh (gV G) k).1.2.2 = (p9 : Int) := ⟨(sh (gV G) k).1.2.2.toNat, by omega⟩
      have hp3 : p9 < 3 := by have := oS.2.2; omega
      refine j_aload_n X (i := 0) dX10_takeOut_35 rfl rfl ?_
      refine j_iload_n X (i := 1) dX10_takeOut_36 rfl rfl ?_
      refine j_iconst X (v := (nI 2)) dX10_takeOut_37 (by decide) ?_
      refine j_callV X (m_on hok hst (k := k) (w := 2) hM (by omega)) i_X10_on tw_7_45 tw_7_47 tp_41 M0 rfl dX10_takeOut_38 ?_ 
      rw [show t1 (M + 1) (51 + 27 * k + 2) = _ from (w7 k hk1).2.2.1, hp9, iN_nI]
      refine j_istore_n X (i := 2) dX10_takeOut_41 rfl (by decide) rfl ?_
      refine j_aload_n X (i := 0) dX10_takeOut_42 rfl rfl ?_
      refine j_aload_n X (i := 0) dX10_takeOut_43 rfl rfl ?_
      refine jFd.get X fd_X10_7 M0 rfl dX10_takeOut_44 ?_
      refine j_callV_p X (m_keepG hok hst hM hG1 hK) i_X10_keeps tw_6_139 tw_6_141 tp_26 M0 rfl dX10_takeOut_47 (fun v2 z2 sk2 t2 hp => ?_) 
      obtain ⟨rfl, rfl, rfl, hG2, c2, f2a⟩ := hp
      have f2 : ∀ c, (c < M ∨ M + 8 ≤ c ∨ c = M + 4 ∨ c = M + 7) → t2 c = t c := fun c hc => (f2a c (by omega) (by omega)).trans (f1 c hc)
      have x2 : RmV (t2 (M + 1)) (gV G) := hG2.1
      refine j_aload_n X (i := 0) dX10_takeOut_50 rfl rfl ?_
      refine jFd.get X fd_X10_7 M0 rfl dX10_takeOut_51 ?_
      refine j_bipush X (v := (nI 6)) dX10_takeOut_54 (by decide) ?_
      refine j_iload_n X (i := 2) dX10_takeOut_56 rfl rfl ?_
      refine j_iadd X dX10_takeOut_57 ?_
      rw [nI_add]
      refine j_iconst X (v := -1) dX10_takeOut_58 (by decide) ?_
      refine j_iast X M1 rfl (by omega) (by decide) dX10_takeOut_59 ?_
      refine j_aload_n X (i := 0) dX10_takeOut_60 rfl rfl ?_
      refine j_iload_n X (i := 1) dX10_takeOut_61 rfl rfl ?_
      refine j_iconst X (v := (nI 2)) dX10_takeOut_62 (by decide) ?_
      refine j_iconst X (v := -1) dX10_takeOut_63 (by decide) ?_
      refine j_callV X (m_lays hok hst (k := k) (w := 2) hM (by omega) _) i_X10_lays tw_7_33 tw_7_35 tp_39 M0 rfl dX10_takeOut_64 ?_ 
      refine j_iload_n X (i := 2) dX10_takeOut_67 rfl rfl ?_
      have o4 : ∀ c, c ≠ M + 1 → jU (jU t2 (M + 1) (6 + p9) (-1)) (M + 1) (51 + 27 * k + 2) (-1) c = t2 c := fun c hc => by rw [jU_ne _ _ _ hc, jU_ne _ _ _ hc]
      have hr2 : a_takeOut w.1 G (nI k) = (0, nI p9, (upS (gV G) k (tvP (sh (gV G) k) (-1)), (kpG w.1 G).2)) := by
        rw [a_takeOut, ev0, hp9, ch_yes (by omega) (by decide) (by decide) (by decide), iN_nI]
      refine j_iret X dX10_takeOut_68 rfl rfl (mP_mk hr2 ?_ (hG2.g ?_ o4) ?_)
      · rw [o4 _ (by omega)]; exact c2
      · rw [jU_eq, jU_eq]
        obtain ⟨s1, s2, s3, s4, s5⟩ := x2.2.2.2.2.2.2 k hk1
        refine x2.upSD k1 k2 hk1 (V2 := upS (gV G) k (tvP (sh (gV G) k) (-1))) rfl rfl rfl (fun i hi => ?_) (fun a ha => ?_) ⟨?_, ?_, ?_, fun j hj => (s4 j hj).cong fun w9 hw => ?_, fun j hj => (s5 j hj).cong fun w9 hw => ?_⟩ (fun j h1 hj => ?_)
        · unfold upd; rw [if_neg (by omega), if_neg (by omega)]; exact x2.2.2.2.1 i hi
        · unfold upd
          rw [rk_out hK.1 hk1 hp9, if_neg (by omega)]
          by_cases e : a = p9
          · rw [if_pos (by omega), if_pos e]; rfl
          · rw [if_neg (by omega), if_neg e]; exact x2.2.2.2.2.1 a ha
        · unfold upd; rw [if_neg (by omega), if_neg (by omega)]; exact s1
        · unfold upd; rw [if_neg (by omega), if_neg (by omega)]; exact s2
        · unfold upd; rw [if_pos rfl]; rfl
        · unfold upd; rw [if_neg (by omega), if_neg (by omega)]
        · unfold upd; rw [if_neg (by omega), if_neg (by omega)]
        · unfold upd; rw [if_neg (by omega), if_neg (by omega)]
      · intro c hc
        rw [o4 c (by omega)]
        exact f2 c hc
    · rw [if_pos (by omega)] at ev0
      refine j_if_ge X (tgt := 26) dX10_takeOut_19 (by decide) (fun q9 => absurd q9 ((fun z9 => h0 (i1.mp z9)))) (fun _ => ?_)
      refine j_iconst X (v := (nI 2)) dX10_takeOut_22 (by decide) ?_
      refine j_goto X (tgt := 27) dX10_takeOut_23 (by decide) ?_
      exact no 2 (-3) (by decide) (by decide) (by decide) ev0 (by decide)

