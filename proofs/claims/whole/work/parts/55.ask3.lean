theorem nI_subI (a b : Nat) : nI a - nI b = iN ((a : Int) - (b : Int)) := by rw [← iN_nI a, ← iN_nI b, iN_sub]
theorem isPl_0 (y : Int32) : isPl (nI 0) y = pIx 8 y := by
  unfold isPl pIx
  exact decide_eq_decide.mpr (by rw [show (nI 0).toInt = 0 by decide]; omega)
theorem f_rankOf {l : Launch} {g : jG} (hok : jOk g) (hst : l.stackTraces = false) {z : Option Nat} {sk : jS} {t : jT} {kw : Nat → Nat} (hP : isPr g kw sk) {V : SV} (hV : RcV t 1 V) (hn8 : ns V ≤ 8) (hc : ∀ j, j < ns V → t 453 j = nI (misV V j)) {k : Nat} (hk : k < ns V) : jMet l g mX9_rankOf 1 0 0 [.ref (jb g + 0), .int (nI k)] z sk t (jE (some (.int (nI (rnkV V k)))) z sk t) := by
  refine j_body (lv := [some (.ref (jb g + 0)), some (.int (nI k)), none, none, none]) i_X9_rankOf hok hst (fun p e s m args below meth c X => ?_)
  obtain ⟨P0, P1, P2, P3, P4, P5, P6, P7, P8⟩ := id hP
  obtain ⟨B0, B1, B2, B3, B4, B5⟩ := id P1
  obtain ⟨v1, v2_, v3, v4, v5, v6⟩ := id hV
  have hm : ∀ j, misV V j ≤ 128 := fun j => fb_ct_le _ _
  have mk := hm k
  have inner : ∀ o, o ≤ ns V → J p l e (jR 1 0 0) s m args below meth c (jQm below args s g 0 0 (jE (some (.int (nI (rnkV V k)))) z sk t)) 5 g 0 0 z sk t 4 [some (.ref (jb g + 0)), some (.int (nI k)), some (.int (nI (fb_ct (befV V k) o))), some (.int (nI o)), none] [] := by
    refine up_loop ?_ ?_
    · refine j_iload_n X (i := 3) dX9_rankOf_4 rfl rfl ?_
      refine j_aload_n X (i := 0) dX9_rankOf_5 rfl rfl ?_
      refine jFd.get X fd_X9_12 P0 rfl dX9_rankOf_6 ?_
      refine jFd.get X fd_X9_172 B0 rfl dX9_rankOf_9 ?_
      rw [v2_]
      refine j_icmp_ge X (tgt := 54) dX9_rankOf_12 (by decide) (fun _ => ?_) (fun q9 => absurd (nI_le (Nat.le_refl _) (by omega)) q9)
      refine j_iload_n X (i := 2) dX9_rankOf_54 rfl rfl ?_
      exact j_iret X dX9_rankOf_55 rfl rfl ⟨rfl, rfl, rfl, rfl⟩
    · intro o ho ih
      have hs := fb_ct_succ (befV V k) o
      have mo := hm o
      refine j_iload_n X (i := 3) dX9_rankOf_4 rfl rfl ?_
      refine j_aload_n X (i := 0) dX9_rankOf_5 rfl rfl ?_
      refine jFd.get X fd_X9_12 P0 rfl dX9_rankOf_6 ?_
      refine jFd.get X fd_X9_172 B0 rfl dX9_rankOf_9 ?_
      rw [v2_]
      refine j_icmp_ge X (tgt := 54) dX9_rankOf_12 (by decide) (fun q9 => absurd q9 (nI_ge ho (by omega))) (fun _ => ?_)
      refine j_aload_n X (i := 0) dX9_rankOf_15 rfl rfl ?_
      refine jFd.get X fd_X9_51 P0 rfl dX9_rankOf_16 ?_
      refine j_iload_n X (i := 3) dX9_rankOf_19 rfl rfl ?_
      refine j_iald X P8 rfl (by omega) (by decide) dX9_rankOf_20 ?_
      refine j_aload_n X (i := 0) dX9_rankOf_21 rfl rfl ?_
      refine jFd.get X fd_X9_51 P0 rfl dX9_rankOf_22 ?_
      refine j_iload_n X (i := 1) dX9_rankOf_25 rfl rfl ?_
      refine j_iald X P8 rfl (by omega) (by decide) dX9_rankOf_26 ?_
      rw [hc o ho, hc k hk]
      refine j_isub X dX9_rankOf_27 ?_
      rw [nI_subI]
      have yes : befV V k o = true → J p l e (jR 1 0 0) s m args below meth c (jQm below args s g 0 0 (jE (some (.int (nI (rnkV V k)))) z sk t)) 5 g 0 0 z sk t 45 [some (.ref (jb g + 0)), some (.int (nI k)), some (.int (nI (fb_ct (befV V k) o))), some (.int (nI o)), some (.int (iN ((misV V o : Int) - (misV V k : Int))))] [] := fun h => by
        rw [h, if_pos rfl] at hs
        refine j_iinc X (i := 2) (v := (nI (fb_ct (befV V k) (o + 1)))) dX9_rankOf_45 rfl (by rw [hs]; exact nI_1 _) (by decide) rfl ?_
        refine j_iinc X (i := 3) (v := (nI (o + 1))) dX9_rankOf_48 rfl (nI_1 o) (by decide) rfl ?_
        refine j_goto X (tgt := 4) dX9_rankOf_51 (by decide) ?_
        exact j_drop 4 ih
      have nay : befV V k o = false → J p l e (jR 1 0 0) s m args below meth c (jQm below args s g 0 0 (jE (some (.int (nI (rnkV V k)))) z sk t)) 5 g 0 0 z sk t 48 [some (.ref (jb g + 0)), some (.int (nI k)), some (.int (nI (fb_ct (befV V k) o))), some (.int (nI o)), some (.int (iN ((misV V o : Int) - (misV V k : Int))))] [] := fun h => by
        rw [h, if_neg (by decide)] at hs
        refine j_iinc X (i := 3) (v := (nI (o + 1))) dX9_rankOf_48 rfl (nI_1 o) (by decide) rfl ?_
        refine j_goto X (tgt := 4) dX9_rankOf_51 (by decide) ?_
        refine j_drop 4 ?_
        rw [(hs.trans (Nat.add_zero _)).symm]
        exact ih
      refine j_istore X (i := 4) dX9_rankOf_28 (by decide) rfl ?_
      refine j_iload X (i := 4) dX9_rankOf_30 rfl ?_
      by_cases c1 : misV V o < misV V k
      · refine j_if_lt X (tgt := 45) dX9_rankOf_32 (by decide) (fun _ => ?_) (fun q9 => absurd (((i_lt0 _).mpr (by rw [iN_toInt (by omega) (by omega)]; omega))) q9)
        exact yes (decide_eq_true (Or.inl c1))
      · refine j_if_lt X (tgt := 45) dX9_rankOf_32 (by decide) (fun q9 => absurd q9 ((fun z9 => c1 (by have := (i_lt0 _).mp z9; rw [iN_toInt (by omega) (by omega)] at this; omega)))) (fun _ => ?_)
        refine j_iload X (i := 4) dX9_rankOf_35 rfl ?_
        by_cases c2 : misV V o = misV V k
        · refine j_if_ne X (tgt := 48) dX9_rankOf_37 (by decide) (fun q9 => absurd ((by rw [c2, Int.sub_self]; rfl)) q9) (fun _ => ?_)
          refine j_iload_n X (i := 3) dX9_rankOf_40 rfl rfl ?_
          refine j_iload_n X (i := 1) dX9_rankOf_41 rfl rfl ?_
          by_cases c3 : o < k
          · refine j_icmp_ge X (tgt := 48) dX9_rankOf_42 (by decide) (fun q9 => absurd q9 (nI_ge c3 (by omega))) (fun _ => ?_)
            exact yes (decide_eq_true (Or.inr ⟨c2, c3⟩))
          · refine j_icmp_ge X (tgt := 48) dX9_rankOf_42 (by decide) (fun _ => ?_) (fun q9 => absurd (nI_le (Nat.le_of_not_lt c3) (by omega)) q9)
            exact nay (decide_eq_false (fun q => q.elim c1 (fun q => c3 q.2)))
        · refine j_if_ne X (tgt := 48) dX9_rankOf_37 (by decide) (fun _ => ?_) (fun q9 => absurd q9 ((fun z9 => c2 (by have := (iN_eq (a := (misV V o : Int) - (misV V k : Int)) (b := 0) (by omega) (by omega) (by decide) (by decide)).mp z9; omega))))
          exact nay (decide_eq_false (fun q => q.elim c1 (fun q => c2 q.1)))
  refine j_iconst X (v := (nI 0)) dX9_rankOf_0 (by decide) ?_
  refine j_istore_n X (i := 2) dX9_rankOf_1 rfl (by decide) rfl ?_
  refine j_iconst X (v := (nI 0)) dX9_rankOf_2 (by decide) ?_
  refine j_istore_n X (i := 3) dX9_rankOf_3 rfl (by decide) rfl ?_
  exact inner 0 (Nat.zero_le _)

theorem f_sheetByMisprints {l : Launch} {g : jG} (hok : jOk g) (hst : l.stackTraces = false) {z : Option Nat} {sk : jS} {t : jT} {kw : Nat → Nat} (hP : isPr g kw sk) {G : GS} (hG : RcG t G) (hK : okG G) (r : Int32) : jMetX l g mX9_sheetByMisprints 7 1 6 [.ref (jb g + 0), .int r] z sk t (fP (a_byMis G r) z sk t) (fX ["java/util/NoSuchElementException"] (a_byMis G r) sk t) := by
  refine j_bodyX (lv := [some (.ref (jb g + 0)), some (.int r), none]) i_X9_sheetByMisprints hok hst (fun p e s m args below meth c X => ?_)
  obtain ⟨P0, P1, P2, P3, P4, P5, P6, P7, P8⟩ := id hP
  obtain ⟨B0, B1, B2, B3, B4, B5⟩ := id P1
  obtain ⟨r1, r2, r3, r4, r5, r6, r7, r8, r9⟩ := id hG
  obtain ⟨v1, v2_, v3, v4, v5, v6⟩ := id r1
  obtain ⟨k1, k2, k3, k4, k5, k6, k7, k8⟩ := id hK.1
  have fill : ∀ k, k ≤ ns (gV G) → J p l e (jR 7 1 6) s m args below meth c (jQx below args s g 1 6 (fP (a_byMis G r) z sk t) (fX ["java/util/NoSuchElementException"] (a_byMis G r) sk t)) 3 g 0 0 z sk (jUf t 453 (fun j => if j < k then nI (misV (gV G) j) else t 453 j)) 2 [some (.ref (jb g + 0)), some (.int r), some (.int (nI k))] [] := by
    refine up_loop ?_ ?_
    · refine j_iload_n X (i := 2) dX9_sheetByMisprints_2 rfl rfl ?_
      refine j_aload_n X (i := 0) dX9_sheetByMisprints_3 rfl rfl ?_
      refine jFd.get X fd_X9_12 P0 rfl dX9_sheetByMisprints_4 ?_
      refine jFd.get X fd_X9_172 B0 rfl dX9_sheetByMisprints_7 ?_
      rw [(fun (c : Nat) (hc : c ≠ 453) => (jUf_ne t (fun j => if j < _ then nI (misV (gV G) j) else t 453 j) hc)) 1 (by decide), v2_]
      refine j_icmp_ge X (tgt := 37) dX9_sheetByMisprints_10 (by decide) (fun _ => ?_) (fun q9 => absurd (nI_le (Nat.le_refl _) (by omega)) q9)
      refine j_iconst X (v := (nI 0)) dX9_sheetByMisprints_37 (by decide) ?_
      refine j_istore_n X (i := 2) dX9_sheetByMisprints_38 rfl (by decide) rfl ?_
      have hc : ∀ j, j < ns (gV G) → (jUf t 453 (fun j => if j < ns (gV G) then nI (misV (gV G) j) else t 453 j)) 453 j = nI (misV (gV G) j) := fun j hj => by rw [jUf_eq]; exact if_pos hj
      have hf : ∀ c, c ≠ 453 → (jUf t 453 (fun j => if j < ns (gV G) then nI (misV (gV G) j) else t 453 j)) c = t c := fun c hc => jUf_ne _ _ hc
      generalize (jUf t 453 (fun j => if j < ns (gV G) then nI (misV (gV G) j) else t 453 j)) = t1 at hc hf ⊢
      have hG1 : RcG t1 G := hG.out (fun c h => hf c (by omega))
      have s1 := hG1.1
      have look : ∀ k, k ≤ ns (gV G) → ((∀ j, j < k → nI (rnkV (gV G) j) ≠ r) → J p l e (jR 7 1 6) s m args below meth c (jQx below args s g 1 6 (fP (a_byMis G r) z sk t) (fX ["java/util/NoSuchElementException"] (a_byMis G r) sk t)) 3 g 0 0 z sk t1 39 [some (.ref (jb g + 0)), some (.int r), some (.int (nI k))] []) := by
        refine up_loop ?_ ?_
        · intro hno
          refine j_iload_n X (i := 2) dX9_sheetByMisprints_39 rfl rfl ?_
          refine j_aload_n X (i := 0) dX9_sheetByMisprints_40 rfl rfl ?_
          refine jFd.get X fd_X9_12 P0 rfl dX9_sheetByMisprints_41 ?_
          refine jFd.get X fd_X9_172 B0 rfl dX9_sheetByMisprints_44 ?_
          rw [s1.2.1]
          refine j_icmp_ge X (tgt := 67) dX9_sheetByMisprints_47 (by decide) (fun _ => ?_) (fun q9 => absurd (nI_le (Nat.le_refl _) (by omega)) q9)
          exact j_throwN X thr_NS hok.x208 dX9_sheetByMisprints_67 dX9_sheetByMisprints_70 dX9_sheetByMisprints_71 dX9_sheetByMisprints_73 dX9_sheetByMisprints_76 (fX_mk (n := 0) (v := nI 0) (by unfold a_byMis; rw [if_neg (show ¬ fstV (gV G) r < ns (gV G) from fun q => hno _ q (of_decide_eq_true (fa_first_yes (fun k => decide (nI (rnkV (gV G) k) = r)) (ns (gV G)) q)))]) rfl rfl rfl hG1 (fun c hc => hf c (by omega)))
        · intro k hk ih hno
          refine j_iload_n X (i := 2) dX9_sheetByMisprints_39 rfl rfl ?_
          refine j_aload_n X (i := 0) dX9_sheetByMisprints_40 rfl rfl ?_
          refine jFd.get X fd_X9_12 P0 rfl dX9_sheetByMisprints_41 ?_
          refine jFd.get X fd_X9_172 B0 rfl dX9_sheetByMisprints_44 ?_
          rw [s1.2.1]
          refine j_icmp_ge X (tgt := 67) dX9_sheetByMisprints_47 (by decide) (fun q9 => absurd q9 (nI_ge hk (by omega))) (fun _ => ?_)
          refine j_aload_n X (i := 0) dX9_sheetByMisprints_50 rfl rfl ?_
          refine j_iload_n X (i := 2) dX9_sheetByMisprints_51 rfl rfl ?_
          refine j_callV X (f_rankOf hok hst hP s1 k2 hc hk) i_X9_rankOf tw_4_170 tw_4_172 tp_10 P0 rfl dX9_sheetByMisprints_52 ?_ 
          refine j_iload_n X (i := 1) dX9_sheetByMisprints_55 rfl rfl ?_
          by_cases e : nI (rnkV (gV G) k) = r
          · have hfs : fstV (gV G) r = k := by
              have h1 := fa_first_le (fun k => decide (nI (rnkV (gV G) k) = r)) (ns (gV G))
              have h2 : ¬ k < fstV (gV G) r := fun q => by
                have := fa_first_no (fun k => decide (nI (rnkV (gV G) k) = r)) (ns (gV G)) k q
                exact absurd e (of_decide_eq_false this)
              have h3 : ¬ fstV (gV G) r < k := fun q => hno _ q (of_decide_eq_true (fa_first_yes (fun k => decide (nI (rnkV (gV G) k) = r)) (ns (gV G)) (by unfold fstV at q; omega)))
              omega
            refine j_icmp_ne X (tgt := 61) dX9_sheetByMisprints_56 (by decide) (fun q9 => absurd (e) q9) (fun _ => ?_)
            refine j_iload_n X (i := 2) dX9_sheetByMisprints_59 rfl rfl ?_
            exact j_iret_x X dX9_sheetByMisprints_60 rfl rfl (fP_mk (by unfold a_byMis; rw [hfs, if_pos hk]) hG1 (fun c hc => hf c (by omega)))
          · refine j_icmp_ne X (tgt := 61) dX9_sheetByMisprints_56 (by decide) (fun _ => ?_) (fun q9 => absurd q9 (e))
            refine j_iinc X (i := 2) (v := (nI (k + 1))) dX9_sheetByMisprints_61 rfl (nI_1 k) (by decide) rfl ?_
            refine j_goto X (tgt := 39) dX9_sheetByMisprints_64 (by decide) ?_
            exact ih (fun j hj => by
              by_cases q : j = k
              · rw [q]; exact e
              · exact hno j (by omega))
      exact look 0 (Nat.zero_le _) (fun j hj => absurd hj (Nat.not_lt_zero j))
    · intro k hk ih
      have bk := B5 k (by omega)
      have ck := v6 k (by omega)
      refine j_iload_n X (i := 2) dX9_sheetByMisprints_2 rfl rfl ?_
      refine j_aload_n X (i := 0) dX9_sheetByMisprints_3 rfl rfl ?_
      refine jFd.get X fd_X9_12 P0 rfl dX9_sheetByMisprints_4 ?_
      refine jFd.get X fd_X9_172 B0 rfl dX9_sheetByMisprints_7 ?_
      rw [(fun (c : Nat) (hc : c ≠ 453) => (jUf_ne t (fun j => if j < _ then nI (misV (gV G) j) else t 453 j) hc)) 1 (by decide), v2_]
      refine j_icmp_ge X (tgt := 37) dX9_sheetByMisprints_10 (by decide) (fun q9 => absurd q9 (nI_ge hk (by omega))) (fun _ => ?_)
      refine j_aload_n X (i := 0) dX9_sheetByMisprints_13 rfl rfl ?_
      refine jFd.get X fd_X9_51 P0 rfl dX9_sheetByMisprints_14 ?_
      refine j_iload_n X (i := 2) dX9_sheetByMisprints_17 rfl rfl ?_
      refine j_aload_n X (i := 0) dX9_sheetByMisprints_18 rfl rfl ?_
      refine jFd.get X fd_X9_12 P0 rfl dX9_sheetByMisprints_19 ?_
      refine jFd.get X fd_X9_199 B0 rfl dX9_sheetByMisprints_22 ?_
      refine j_iload_n X (i := 2) dX9_sheetByMisprints_25 rfl rfl ?_
      refine j_aald X B2 (by decide) rfl (show k < 8 by omega) (by decide) rfl dX9_sheetByMisprints_26 ?_
      have hR : RcS (jUf t 453 (fun j => if j < k then nI (misV (gV G) j) else t 453 j)) ((1 + 16 + 3 * k)) ((1 + 16 + 3 * k) + 1) ((1 + 16 + 3 * k) + 2) (sh (gV G) k) := ck.cong ((fun (c : Nat) (hc : c ≠ 453) => (jUf_ne t (fun j => if j < _ then nI (misV (gV G) j) else t 453 j) hc)) _ (by omega)) ((fun (c : Nat) (hc : c ≠ 453) => (jUf_ne t (fun j => if j < _ then nI (misV (gV G) j) else t 453 j) hc)) _ (by omega)) ((fun (c : Nat) (hc : c ≠ 453) => (jUf_ne t (fun j => if j < _ then nI (misV (gV G) j) else t 453 j) hc)) _ (by omega))
      have hM := s_countMisprints (z := z) hok hst bk.1 bk.2.1 bk.2.2 hR.2.2.2.1 hR.2.2.2.2
      rw [show misB (sh (gV G) k).2.1 (sh (gV G) k).2.2 = misV (gV G) k from rfl] at hM
      refine j_callV X (hM) i_X7_countMisprints tw_2_115 tw_2_116 tw_2_117 bk.1 rfl dX9_sheetByMisprints_27 ?_ 
      refine j_iast X P8 rfl (by omega) (by decide) dX9_sheetByMisprints_30 ?_
      refine j_iinc X (i := 2) (v := (nI (k + 1))) dX9_sheetByMisprints_31 rfl (nI_1 k) (by decide) rfl ?_
      refine j_goto X (tgt := 2) dX9_sheetByMisprints_34 (by decide) ?_
      have e : jU (jUf t 453 (fun j => if j < k then nI (misV (gV G) j) else t 453 j)) 453 k (nI (misV (gV G) k)) = (jUf t 453 (fun j => if j < k + 1 then nI (misV (gV G) j) else t 453 j)) := by
        rw [jU_row, jUf_jUf, jUf_eq]
        congr 1
        funext j
        unfold upd
        by_cases hj : j = k
        · rw [if_pos hj, if_pos (by omega), hj]
        · rw [if_neg hj]
          show (if j < k then _ else _) = _
          by_cases h2 : j < k
          · rw [if_pos h2, if_pos (by omega)]
          · rw [if_neg h2, if_neg (by omega)]
      rw [e]
      exact ih
  refine j_iconst X (v := (nI 0)) dX9_sheetByMisprints_0 (by decide) ?_
  refine j_istore_n X (i := 2) dX9_sheetByMisprints_1 rfl (by decide) rfl ?_
  have k0 := fill 0 (Nat.zero_le _)
  rw [show (fun j => if j < 0 then nI (misV (gV G) j) else t 453 j) = t 453 from funext fun j => if_neg (Nat.not_lt_zero j), jUf_self] at k0
  exact k0

def fPV (n : Nat) (val : Value) (G : GS) (z : Option Nat) (sk : jS) (t : jT) : Option Value → Option Nat → jS → jT → Prop := fun v2 z2 sk2 t2 => n = 0 ∧ v2 = some val ∧ z = z2 ∧ sk = sk2 ∧ RcG t2 G ∧ ∀ c, 454 ≤ c → t2 c = t c
def fXV (n : Nat) (E0 : String) (G : GS) (sk : jS) (t : jT) : String → Option Nat → jS → jT → Prop := fun E z2 sk2 t2 => n = 1 ∧ E = E0 ∧ z2 = none ∧ sk2 = sk ∧ RcG t2 G ∧ ∀ c, 454 ≤ c → t2 c = t c
theorem f_requireSheets {l : Launch} {g : jG} (hok : jOk g) (hst : l.stackTraces = false) {z : Option Nat} {sk : jS} {t : jT} {kw : Nat → Nat} (hP : isPr g kw sk) {G : GS} (hG : RcG t G) (hK : okG G) : jMetX l g mX9_requireSheets 6 1 6 [.ref (jb g + 0)] z sk t (fun v2 z2 sk2 t2 => ns (gV G) ≠ 0 ∧ v2 = none ∧ z = z2 ∧ sk = sk2 ∧ t = t2) (fun E z2 sk2 t2 => ns (gV G) = 0 ∧ E = "java/lang/ArithmeticException" ∧ z2 = none ∧ sk2 = sk ∧ t2 = t) := by
  refine j_bodyX (lv := [some (.ref (jb g + 0))]) i_X9_requireSheets hok hst (fun p e s m args below meth c X => ?_)
  obtain ⟨P0, P1, P2, P3, P4, P5, P6, P7, P8⟩ := id hP
  obtain ⟨B0, B1, B2, B3, B4, B5⟩ := id P1
  obtain ⟨r1, r2, r3, r4, r5, r6, r7, r8, r9⟩ := id hG
  obtain ⟨v1, v2_, v3, v4, v5, v6⟩ := id r1
  obtain ⟨k1, k2, k3, k4, k5, k6, k7, k8⟩ := id hK.1
  refine j_aload_n X (i := 0) dX9_requireSheets_0 rfl rfl ?_
  refine jFd.get X fd_X9_12 P0 rfl dX9_requireSheets_1 ?_
  refine jFd.get X fd_X9_172 B0 rfl dX9_requireSheets_4 ?_
  rw [v2_]
  by_cases h0 : ns (gV G) = 0
  · refine j_if_ne X (tgt := 21) dX9_requireSheets_7 (by decide) (fun q9 => absurd ((congrArg nI h0)) q9) (fun _ => ?_)
    exact j_throwSW X thr_AE hok.x376 dX9_requireSheets_10 dX9_requireSheets_13 dX9_requireSheets_14 dX9_requireSheets_17 dX9_requireSheets_20 (⟨h0, rfl, rfl, rfl, rfl⟩)
  · refine j_if_ne X (tgt := 21) dX9_requireSheets_7 (by decide) (fun _ => ?_) (fun q9 => absurd q9 ((fun z9 => h0 ((nI_eq (by omega) (by decide)).mp z9))))
    exact j_vret_x X dX9_requireSheets_21 rfl ⟨h0, rfl, rfl, rfl, rfl⟩

theorem f_meanWetness {l : Launch} {g : jG} (hok : jOk g) (hst : l.stackTraces = false) {z : Option Nat} {sk : jS} {t : jT} {kw : Nat → Nat} (hP : isPr g kw sk) {G : GS} (hG : RcG t G) (hK : okG G) : jMetX l g mX9_meanWetness 7 1 6 [.ref (jb g + 0)] z sk t (fPV (a_meanN G) (.double (a_mean G)) G z sk t) (fXV (a_meanN G) "java/lang/ArithmeticException" G sk t) := by
  refine j_bodyX (lv := [some (.ref (jb g + 0)), none, none]) i_X9_meanWetness hok hst (fun p e s m args below meth c X => ?_)
  obtain ⟨P0, P1, P2, P3, P4, P5, P6, P7, P8⟩ := id hP
  obtain ⟨B0, B1, B2, B3, B4, B5⟩ := id P1
  obtain ⟨r1, r2, r3, r4, r5, r6, r7, r8, r9⟩ := id hG
  obtain ⟨v1, v2_, v3, v4, v5, v6⟩ := id r1
  obtain ⟨k1, k2, k3, k4, k5, k6, k7, k8⟩ := id hK.1
  refine j_aload_n X (i := 0) dX9_meanWetness_0 rfl rfl ?_
  refine j_callVX_p X (f_requireSheets hok hst hP hG hK) i_X9_requireSheets tw_5_72 tw_5_74 tp_12 P0 rfl dX9_meanWetness_1 (fun v2 z2 sk2 t1 hp => ?_) (fun E z2 sk2 t1 hp => jE_out (d := 0) X (⟨by unfold a_meanN; rw [if_pos hp.1], hp.2.1, hp.2.2.1, hp.2.2.2.1, by rw [hp.2.2.2.2]; exact hG, fun c _ => by rw [hp.2.2.2.2]⟩))
  obtain ⟨h0, rfl, rfl, rfl, rfl⟩ := hp
  have loop : ∀ k, k ≤ ns (gV G) → J p l e (jR 7 1 6) s m args below meth c (jQx below args s g 1 6 (fPV (a_meanN G) (.double (a_mean G)) G z sk t) (fXV (a_meanN G) "java/lang/ArithmeticException" G sk t)) 3 g (0 + 1) (0 + 6) z sk t 8 [some (.ref (jb g + 0)), some (.int (nI (fb_sm (fun k => (sh (gV G) k).1.1) k))), some (.int (nI k))] [] := by
    refine up_loop ?_ ?_
    · refine j_iload_n X (i := 2) dX9_meanWetness_8 rfl rfl ?_
      refine j_aload_n X (i := 0) dX9_meanWetness_9 rfl rfl ?_
      refine jFd.get X fd_X9_12 P0 rfl dX9_meanWetness_10 ?_
      refine jFd.get X fd_X9_172 B0 rfl dX9_meanWetness_13 ?_
      rw [v2_]
      refine j_icmp_ge X (tgt := 40) dX9_meanWetness_16 (by decide) (fun _ => ?_) (fun q9 => absurd (nI_le (Nat.le_refl _) (by omega)) q9)
      refine j_iload_n X (i := 1) dX9_meanWetness_40 rfl rfl ?_
      refine j_i2d X dX9_meanWetness_41 ?_
      refine j_aload_n X (i := 0) dX9_meanWetness_42 rfl rfl ?_
      refine jFd.get X fd_X9_12 P0 rfl dX9_meanWetness_43 ?_
      refine jFd.get X fd_X9_172 B0 rfl dX9_meanWetness_46 ?_
      rw [v2_]
      refine j_i2d X dX9_meanWetness_49 ?_
      have hsum : fb_sm (fun k => (sh (gV G) k).1.1) (ns (gV G)) ≤ ns (gV G) * 5 := fb_sm_bound (fun k hk => (k4 k (by omega)).1)
      refine j_ddiv X dX9_meanWetness_50 (fp_d _ (by omega) _ (by omega) (by omega)) ?_
      have e2 : a_mean G = FP.ddiv (FP.i2d (nI (fb_sm (fun k => (sh (gV G) k).1.1) (ns (gV G))))) (FP.i2d (nI (ns (gV G)))) := by unfold a_mean sumW; rw [if_neg h0]
      exact j_dret_x X dX9_meanWetness_51 rfl ⟨by unfold a_meanN; rw [if_neg h0], by rw [e2], rfl, rfl, hG, fun _ _ => rfl⟩
    · intro k hk ih
      refine j_iload_n X (i := 2) dX9_meanWetness_8 rfl rfl ?_
      refine j_aload_n X (i := 0) dX9_meanWetness_9 rfl rfl ?_
      refine jFd.get X fd_X9_12 P0 rfl dX9_meanWetness_10 ?_
      refine jFd.get X fd_X9_172 B0 rfl dX9_meanWetness_13 ?_
      rw [v2_]
      refine j_icmp_ge X (tgt := 40) dX9_meanWetness_16 (by decide) (fun q9 => absurd q9 (nI_ge hk (by omega))) (fun _ => ?_)
      refine j_iload_n X (i := 1) dX9_meanWetness_19 rfl rfl ?_
      refine j_aload_n X (i := 0) dX9_meanWetness_20 rfl rfl ?_
      refine jFd.get X fd_X9_12 P0 rfl dX9_meanWetness_21 ?_
      refine jFd.get X fd_X9_199 B0 rfl dX9_meanWetness_24 ?_
      refine j_iload_n X (i := 2) dX9_meanWetness_27 rfl rfl ?_
      refine j_aald X B2 (by decide) rfl (show k < 8 by omega) (by decide) rfl dX9_meanWetness_28 ?_
      refine jFd.get X fd_X9_187 (B5 k (by omega)).1 rfl dX9_meanWetness_29 ?_
      rw [(v6 k (by omega)).1]
      refine j_iadd X dX9_meanWetness_32 ?_
      rw [nI_add, ← fb_sm_succ (fun k => (sh (gV G) k).1.1)]
      refine j_istore_n X (i := 1) dX9_meanWetness_33 rfl (by decide) rfl ?_
      refine j_iinc X (i := 2) (v := (nI (k + 1))) dX9_meanWetness_34 rfl (nI_1 k) (by decide) rfl ?_
      refine j_goto X (tgt := 8) dX9_meanWetness_37 (by decide) ?_
      exact ih
  refine j_iconst X (v := (nI 0)) dX9_meanWetness_4 (by decide) ?_
  refine j_istore_n X (i := 1) dX9_meanWetness_5 rfl (by decide) rfl ?_
  refine j_iconst X (v := (nI 0)) dX9_meanWetness_6 (by decide) ?_
  refine j_istore_n X (i := 2) dX9_meanWetness_7 rfl (by decide) rfl ?_
  exact loop 0 (Nat.zero_le _)

theorem f_smearedFraction {l : Launch} {g : jG} (hok : jOk g) (hst : l.stackTraces = false) {z : Option Nat} {sk : jS} {t : jT} {kw : Nat → Nat} (hP : isPr g kw sk) {G : GS} (hG : RcG t G) (hK : okG G) : jMetX l g mX9_smearedFraction 7 1 6 [.ref (jb g + 0)] z sk t (fPV (a_meanN G) (.float (a_frac G)) G z sk t) (fXV (a_meanN G) "java/lang/ArithmeticException" G sk t) := by
  refine j_bodyX (lv := [some (.ref (jb g + 0)), none, none]) i_X9_smearedFraction hok hst (fun p e s m args below meth c X => ?_)
  obtain ⟨P0, P1, P2, P3, P4, P5, P6, P7, P8⟩ := id hP
  obtain ⟨B0, B1, B2, B3, B4, B5⟩ := id P1
  obtain ⟨r1, r2, r3, r4, r5, r6, r7, r8, r9⟩ := id hG
  obtain ⟨v1, v2_, v3, v4, v5, v6⟩ := id r1
  obtain ⟨k1, k2, k3, k4, k5, k6, k7, k8⟩ := id hK.1
  refine j_aload_n X (i := 0) dX9_smearedFraction_0 rfl rfl ?_
  refine j_callVX_p X (f_requireSheets hok hst hP hG hK) i_X9_requireSheets tw_5_72 tw_5_74 tp_12 P0 rfl dX9_smearedFraction_1 (fun v2 z2 sk2 t1 hp => ?_) (fun E z2 sk2 t1 hp => jE_out (d := 0) X (⟨by unfold a_meanN; rw [if_pos hp.1], hp.2.1, hp.2.2.1, hp.2.2.2.1, by rw [hp.2.2.2.2]; exact hG, fun c _ => by rw [hp.2.2.2.2]⟩))
  obtain ⟨h0, rfl, rfl, rfl, rfl⟩ := hp
  have loop : ∀ k, k ≤ ns (gV G) → J p l e (jR 7 1 6) s m args below meth c (jQx below args s g 1 6 (fPV (a_meanN G) (.float (a_frac G)) G z sk t) (fXV (a_meanN G) "java/lang/ArithmeticException" G sk t)) 3 g (0 + 1) (0 + 6) z sk t 8 [some (.ref (jb g + 0)), some (.int (nI (fb_ct (fun k => decide ((0 : Int32) < nI (sh (gV G) k).1.2.1)) k))), some (.int (nI k))] [] := by
    refine up_loop ?_ ?_
    · refine j_iload_n X (i := 2) dX9_smearedFraction_8 rfl rfl ?_
      refine j_aload_n X (i := 0) dX9_smearedFraction_9 rfl rfl ?_
      refine jFd.get X fd_X9_12 P0 rfl dX9_smearedFraction_10 ?_
      refine jFd.get X fd_X9_172 B0 rfl dX9_smearedFraction_13 ?_
      rw [v2_]
      refine j_icmp_ge X (tgt := 43) dX9_smearedFraction_16 (by decide) (fun _ => ?_) (fun q9 => absurd (nI_le (Nat.le_refl _) (by omega)) q9)
      refine j_iload_n X (i := 1) dX9_smearedFraction_43 rfl rfl ?_
      refine j_i2f X dX9_smearedFraction_44 ?_
      refine j_aload_n X (i := 0) dX9_smearedFraction_45 rfl rfl ?_
      refine jFd.get X fd_X9_12 P0 rfl dX9_smearedFraction_46 ?_
      refine jFd.get X fd_X9_172 B0 rfl dX9_smearedFraction_49 ?_
      rw [v2_]
      refine j_i2f X dX9_smearedFraction_52 ?_
      have hsum : fb_ct (fun k => decide ((0 : Int32) < nI (sh (gV G) k).1.2.1)) (ns (gV G)) ≤ ns (gV G) := fb_ct_le _ _
      refine j_fdiv X dX9_smearedFraction_53 (fp_f _ (by omega) _ (by omega) (by omega)) ?_
      have e2 : a_frac G = FP.fdiv (FP.i2f (nI (fb_ct (fun k => decide ((0 : Int32) < nI (sh (gV G) k).1.2.1)) (ns (gV G))))) (FP.i2f (nI (ns (gV G)))) := by unfold a_frac smC; rw [if_neg h0]
      exact j_fret_x X dX9_smearedFraction_54 rfl ⟨by unfold a_meanN; rw [if_neg h0], by rw [e2], rfl, rfl, hG, fun _ _ => rfl⟩
    · intro k hk ih
      have hs := fb_ct_succ (fun k => decide ((0 : Int32) < nI (sh (gV G) k).1.2.1)) k
      refine j_iload_n X (i := 2) dX9_smearedFraction_8 rfl rfl ?_
      refine j_aload_n X (i := 0) dX9_smearedFraction_9 rfl rfl ?_
      refine jFd.get X fd_X9_12 P0 rfl dX9_smearedFraction_10 ?_
      refine jFd.get X fd_X9_172 B0 rfl dX9_smearedFraction_13 ?_
      rw [v2_]
      refine j_icmp_ge X (tgt := 43) dX9_smearedFraction_16 (by decide) (fun q9 => absurd q9 (nI_ge hk (by omega))) (fun _ => ?_)
      refine j_aload_n X (i := 0) dX9_smearedFraction_19 rfl rfl ?_
      refine jFd.get X fd_X9_12 P0 rfl dX9_smearedFraction_20 ?_
      refine jFd.get X fd_X9_199 B0 rfl dX9_smearedFraction_23 ?_
      refine j_iload_n X (i := 2) dX9_smearedFraction_26 rfl rfl ?_
      refine j_aald X B2 (by decide) rfl (show k < 8 by omega) (by decide) rfl dX9_smearedFraction_27 ?_
      refine jFd.get X fd_X9_190 (B5 k (by omega)).1 rfl dX9_smearedFraction_28 ?_
      rw [(v6 k (by omega)).2.1]
      by_cases hp : (0 : Int32) < nI (sh (gV G) k).1.2.1
      · rw [show decide ((0 : Int32) < nI (sh (gV G) k).1.2.1) = true from decide_eq_true hp, if_pos rfl] at hs
        refine j_if_le X (tgt := 37) dX9_smearedFraction_31 (by decide) (fun q9 => absurd q9 ((fun z9 => by rw [fa_le] at z9; rw [fa_lt] at hp; omega))) (fun _ => ?_)
        refine j_iinc X (i := 1) (v := (nI (fb_ct (fun k => decide ((0 : Int32) < nI (sh (gV G) k).1.2.1)) (k + 1)))) dX9_smearedFraction_34 rfl (by rw [hs]; exact nI_1 _) (by decide) rfl ?_
        refine j_iinc X (i := 2) (v := (nI (k + 1))) dX9_smearedFraction_37 rfl (nI_1 k) (by decide) rfl ?_
        refine j_goto X (tgt := 8) dX9_smearedFraction_40 (by decide) ?_
        exact ih
      · rw [show decide ((0 : Int32) < nI (sh (gV G) k).1.2.1) = false from decide_eq_false hp, if_neg (by decide)] at hs
        refine j_if_le X (tgt := 37) dX9_smearedFraction_31 (by decide) (fun _ => ?_) (fun q9 => absurd (fa_of_nlt hp) q9)
        refine j_iinc X (i := 2) (v := (nI (k + 1))) dX9_smearedFraction_37 rfl (nI_1 k) (by decide) rfl ?_
        refine j_goto X (tgt := 8) dX9_smearedFraction_40 (by decide) ?_
        rw [(hs.trans (Nat.add_zero _)).symm]
        exact ih
  refine j_iconst X (v := (nI 0)) dX9_smearedFraction_4 (by decide) ?_
  refine j_istore_n X (i := 1) dX9_smearedFraction_5 rfl (by decide) rfl ?_
  refine j_iconst X (v := (nI 0)) dX9_smearedFraction_6 (by decide) ?_
  refine j_istore_n X (i := 2) dX9_smearedFraction_7 rfl (by decide) rfl ?_
  exact loop 0 (Nat.zero_le _)

