theorem and63 (x : Int32) : ∃ n, n < 64 ∧ x &&& nI 63 = nI n := by
  have hx : nI x.toUInt32.toNat = x := by
    show (UInt32.ofNat x.toUInt32.toNat).toInt32 = x
    rw [UInt32.ofNat_toNat]
    rfl
  refine ⟨x.toUInt32.toNat &&& 63, Nat.lt_of_le_of_lt Nat.and_le_right (by decide), ?_⟩
  rw [← nx_and, hx]
section LOOP
variable {p : Program} {l : Launch} {e : Env} {s : State} {m : MethodId} {args : Array Value} {below : List Frame} {meth : Method} {c : Code} {Q : State → Prop}
variable {g : jG} {nm : String} {kw : Nat → Nat} {b L K w9 : Nat} {xs : Nat → Int32} {sa : Nat → Nat}
/-- a call of the script, whichever it is -/
theorem law_call (X : jX p l s m args meth c (mLaw nm) g none) (hst : l.stackTraces = false) (hK9 : oKw g K kw sa w9) (hX : va_X b L xs (j0 g) (j0 g).heap) (hb : b < jb g) (hL : L ≤ 2560) {cells slots : Nat} {z : Option Nat} {sk : jS} {t : jT} {G : GS} {i : Nat} (hi : i + 5 ≤ L) (hc : cells + 3 ≤ 603072) (hs : slots + 18 ≤ 7219306) (I : LI g kw sk t G) (k : ∀ z2 sk2 t2 G2, LI g kw sk2 t2 G2 → J p l e room_1 s m args below meth c Q 9 g (cells + 3) (slots + 18) z2 sk2 t2 3209 [some (.ref b), some (.ref (jb g + 0)), some (.ref (jb g + 454)), some (.ref (jb g + 462)), some (.ref (jb g + 463)), some (.int (nI i)), none, none, none] []) {n : Nat} (hn : n < 64) : J p l e room_1 s m args below meth c Q 9 g cells slots z sk t 44 [some (.ref b), some (.ref (jb g + 0)), some (.ref (jb g + 454)), some (.ref (jb g + 462)), some (.ref (jb g + 463)), some (.int (nI i)), none, none, none] [.int (nI n)] := by
  have h53 : 53 ≤ n → J p l e room_1 s m args below meth c Q 9 g cells slots z sk t 44 [some (.ref b), some (.ref (jb g + 0)), some (.ref (jb g + 454)), some (.ref (jb g + 462)), some (.ref (jb g + 463)), some (.int (nI i)), none, none, none] [.int (nI n)] := fun h => by
    have hn9 : (nI n).toInt = (n : Int) := nI_toInt (by omega)
    refine j_tableOut X dL_law_44 (Or.inr (by rw [hn9]; omega)) (tgt := 3209) (by decide) ?_
    refine j_widen (k := cells + 3) (n := slots + 18) (by omega) (by omega) ?_
    exact k _ _ _ _ I
  match n, hn, h53 with
  | 0, _, _ => exact j_tableIn X dL_law_44 (by decide) (by decide) (off := 228) (tgt := 272) (by decide) (by decide) (law_0 X hst hK9 hX hb hi hL hc hs I k)
  | 1, _, _ => exact j_tableIn X dL_law_44 (by decide) (by decide) (off := 284) (tgt := 328) (by decide) (by decide) (law_1 X hst hK9 hX hb hi hL hc hs I k)
  | 2, _, _ => exact j_tableIn X dL_law_44 (by decide) (by decide) (off := 364) (tgt := 408) (by decide) (by decide) (law_2 X hst hK9 hX hb hi hL hc hs I k)
  | 3, _, _ => exact j_tableIn X dL_law_44 (by decide) (by decide) (off := 444) (tgt := 488) (by decide) (by decide) (law_3 X hst hK9 hX hb hi hL hc hs I k)
  | 4, _, _ => exact j_tableIn X dL_law_44 (by decide) (by decide) (off := 524) (tgt := 568) (by decide) (by decide) (law_4 X hst hK9 hX hb hi hL hc hs I k)
  | 5, _, _ => exact j_tableIn X dL_law_44 (by decide) (by decide) (off := 592) (tgt := 636) (by decide) (by decide) (law_5 X hst hK9 hX hb hi hL hc hs I k)
  | 6, _, _ => exact j_tableIn X dL_law_44 (by decide) (by decide) (off := 605) (tgt := 649) (by decide) (by decide) (law_6 X hst hK9 hX hb hi hL hc hs I k)
  | 7, _, _ => exact j_tableIn X dL_law_44 (by decide) (by decide) (off := 661) (tgt := 705) (by decide) (by decide) (law_7 X hst hK9 hX hb hi hL hc hs I k)
  | 8, _, _ => exact j_tableIn X dL_law_44 (by decide) (by decide) (off := 717) (tgt := 761) (by decide) (by decide) (law_8 X hst hK9 hX hb hi hL hc hs I k)
  | 9, _, _ => exact j_tableIn X dL_law_44 (by decide) (by decide) (off := 804) (tgt := 848) (by decide) (by decide) (law_9 X hst hK9 hX hb hi hL hc hs I k)
  | 10, _, _ => exact j_tableIn X dL_law_44 (by decide) (by decide) (off := 860) (tgt := 904) (by decide) (by decide) (law_10 X hst hK9 hX hb hi hL hc hs I k)
  | 11, _, _ => exact j_tableIn X dL_law_44 (by decide) (by decide) (off := 916) (tgt := 960) (by decide) (by decide) (law_11 X hst hK9 hX hb hi hL hc hs I k)
  | 12, _, _ => exact j_tableIn X dL_law_44 (by decide) (by decide) (off := 1008) (tgt := 1052) (by decide) (by decide) (law_12 X hst hK9 hX hb hi hL hc hs I k)
  | 13, _, _ => exact j_tableIn X dL_law_44 (by decide) (by decide) (off := 1076) (tgt := 1120) (by decide) (by decide) (law_13 X hst hK9 hX hb hi hL hc hs I k)
  | 14, _, _ => exact j_tableIn X dL_law_44 (by decide) (by decide) (off := 1144) (tgt := 1188) (by decide) (by decide) (law_14 X hst hK9 hX hb hi hL hc hs I k)
  | 15, _, _ => exact j_tableIn X dL_law_44 (by decide) (by decide) (off := 1212) (tgt := 1256) (by decide) (by decide) (law_15 X hst hK9 hX hb hi hL hc hs I k)
  | 16, _, _ => exact j_tableIn X dL_law_44 (by decide) (by decide) (off := 1280) (tgt := 1324) (by decide) (by decide) (law_16 X hst hK9 hX hb hi hL hc hs I k)
  | 17, _, _ => exact j_tableIn X dL_law_44 (by decide) (by decide) (off := 1324) (tgt := 1368) (by decide) (by decide) (law_17 X hst hK9 hX hb hi hL hc hs I k)
  | 18, _, _ => exact j_tableIn X dL_law_44 (by decide) (by decide) (off := 1392) (tgt := 1436) (by decide) (by decide) (law_18 X hst hK9 hX hb hi hL hc hs I k)
  | 19, _, _ => exact j_tableIn X dL_law_44 (by decide) (by decide) (off := 1455) (tgt := 1499) (by decide) (by decide) (law_19 X hst hK9 hX hb hi hL hc hs I k)
  | 20, _, _ => exact j_tableIn X dL_law_44 (by decide) (by decide) (off := 1468) (tgt := 1512) (by decide) (by decide) (law_20 X hst hK9 hX hb hi hL hc hs I k)
  | 21, _, _ => exact j_tableIn X dL_law_44 (by decide) (by decide) (off := 1548) (tgt := 1592) (by decide) (by decide) (law_21 X hst hK9 hX hb hi hL hc hs I k)
  | 22, _, _ => exact j_tableIn X dL_law_44 (by decide) (by decide) (off := 1628) (tgt := 1672) (by decide) (by decide) (law_22 X hst hK9 hX hb hi hL hc hs I k)
  | 23, _, _ => exact j_tableIn X dL_law_44 (by decide) (by decide) (off := 1696) (tgt := 1740) (by decide) (by decide) (law_23 X hst hK9 hX hb hi hL hc hs I k)
  | 24, _, _ => exact j_tableIn X dL_law_44 (by decide) (by decide) (off := 1752) (tgt := 1796) (by decide) (by decide) (law_24 X hst hK9 hX hb hi hL hc hs I k)
  | 25, _, _ => exact j_tableIn X dL_law_44 (by decide) (by decide) (off := 1808) (tgt := 1852) (by decide) (by decide) (law_25 X hst hK9 hX hb hi hL hc hs I k)
  | 26, _, _ => exact j_tableIn X dL_law_44 (by decide) (by decide) (off := 1864) (tgt := 1908) (by decide) (by decide) (law_26 X hst hK9 hX hb hi hL hc hs I k)
  | 27, _, _ => exact j_tableIn X dL_law_44 (by decide) (by decide) (off := 1920) (tgt := 1964) (by decide) (by decide) (law_27 X hst hK9 hX hb hi hL hc hs I k)
  | 28, _, _ => exact j_tableIn X dL_law_44 (by decide) (by decide) (off := 1976) (tgt := 2020) (by decide) (by decide) (law_28 X hst hK9 hX hb hi hL hc hs I k)
  | 29, _, _ => exact j_tableIn X dL_law_44 (by decide) (by decide) (off := 2032) (tgt := 2076) (by decide) (by decide) (law_29 X hst hK9 hX hb hi hL hc hs I k)
  | 30, _, _ => exact j_tableIn X dL_law_44 (by decide) (by decide) (off := 2088) (tgt := 2132) (by decide) (by decide) (law_30 X hst hK9 hX hb hi hL hc hs I k)
  | 31, _, _ => exact j_tableIn X dL_law_44 (by decide) (by decide) (off := 2144) (tgt := 2188) (by decide) (by decide) (law_31 X hst hK9 hX hb hi hL hc hs I k)
  | 32, _, _ => exact j_tableIn X dL_law_44 (by decide) (by decide) (off := 2200) (tgt := 2244) (by decide) (by decide) (law_32 X hst hK9 hX hb hi hL hc hs I k)
  | 33, _, _ => exact j_tableIn X dL_law_44 (by decide) (by decide) (off := 2268) (tgt := 2312) (by decide) (by decide) (law_33 X hst hK9 hX hb hi hL hc hs I k)
  | 34, _, _ => exact j_tableIn X dL_law_44 (by decide) (by decide) (off := 2324) (tgt := 2368) (by decide) (by decide) (law_34 X hst hK9 hX hb hi hL hc hs I k)
  | 35, _, _ => exact j_tableIn X dL_law_44 (by decide) (by decide) (off := 2380) (tgt := 2424) (by decide) (by decide) (law_35 X hst hK9 hX hb hi hL hc hs I k)
  | 36, _, _ => exact j_tableIn X dL_law_44 (by decide) (by decide) (off := 2393) (tgt := 2437) (by decide) (by decide) (law_36 X hst hK9 hX hb hi hL hc hs I k)
  | 37, _, _ => exact j_tableIn X dL_law_44 (by decide) (by decide) (off := 2449) (tgt := 2493) (by decide) (by decide) (law_37 X hst hK9 hX hb hi hL hc hs I k)
  | 38, _, _ => exact j_tableIn X dL_law_44 (by decide) (by decide) (off := 2505) (tgt := 2549) (by decide) (by decide) (law_38 X hst hK9 hX hb hi hL hc hs I k)
  | 39, _, _ => exact j_tableIn X dL_law_44 (by decide) (by decide) (off := 2549) (tgt := 2593) (by decide) (by decide) (law_39 X hst hK9 hX hb hi hL hc hs I k)
  | 40, _, _ => exact j_tableIn X dL_law_44 (by decide) (by decide) (off := 2593) (tgt := 2637) (by decide) (by decide) (law_40 X hst hK9 hX hb hi hL hc hs I k)
  | 41, _, _ => exact j_tableIn X dL_law_44 (by decide) (by decide) (off := 2658) (tgt := 2702) (by decide) (by decide) (law_41 X hst hK9 hX hb hi hL hc hs I k)
  | 42, _, _ => exact j_tableIn X dL_law_44 (by decide) (by decide) (off := 2724) (tgt := 2768) (by decide) (by decide) (law_42 X hst hK9 hX hb hi hL hc hs I k)
  | 43, _, _ => exact j_tableIn X dL_law_44 (by decide) (by decide) (off := 2792) (tgt := 2836) (by decide) (by decide) (law_43 X hst hK9 hX hb hi hL hc hs I k)
  | 44, _, _ => exact j_tableIn X dL_law_44 (by decide) (by decide) (off := 2848) (tgt := 2892) (by decide) (by decide) (law_44 X hst hK9 hX hb hi hL hc hs I k)
  | 45, _, _ => exact j_tableIn X dL_law_44 (by decide) (by decide) (off := 2861) (tgt := 2905) (by decide) (by decide) (law_45 X hst hK9 hX hb hi hL hc hs I k)
  | 46, _, _ => exact j_tableIn X dL_law_44 (by decide) (by decide) (off := 2919) (tgt := 2963) (by decide) (by decide) (law_46 X hst hK9 hX hb hi hL hc hs I k)
  | 47, _, _ => exact j_tableIn X dL_law_44 (by decide) (by decide) (off := 2963) (tgt := 3007) (by decide) (by decide) (law_47 X hst hK9 hX hb hi hL hc hs I k)
  | 48, _, _ => exact j_tableIn X dL_law_44 (by decide) (by decide) (off := 3007) (tgt := 3051) (by decide) (by decide) (law_48 X hst hK9 hX hb hi hL hc hs I k)
  | 49, _, _ => exact j_tableIn X dL_law_44 (by decide) (by decide) (off := 3051) (tgt := 3095) (by decide) (by decide) (law_49 X hst hK9 hX hb hi hL hc hs I k)
  | 50, _, _ => exact j_tableIn X dL_law_44 (by decide) (by decide) (off := 3095) (tgt := 3139) (by decide) (by decide) (law_50 X hst hK9 hX hb hi hL hc hs I k)
  | 51, _, _ => exact j_tableIn X dL_law_44 (by decide) (by decide) (off := 3108) (tgt := 3152) (by decide) (by decide) (law_51 X hst hK9 hX hb hi hL hc hs I k)
  | 52, _, _ => exact j_tableIn X dL_law_44 (by decide) (by decide) (off := 3121) (tgt := 3165) (by decide) (by decide) (law_52 X hst hK9 hX hb hi hL hc hs I k)
  | n + 53, _, h53 => exact h53 (by omega)
/-- the loop: j calls are made, m - 1 at most are to come -/
theorem law_loop (X : jX p l s m args meth c (mLaw nm) g none) (hst : l.stackTraces = false) (hK9 : oKw g K kw sa w9) (hX : va_X b L xs (j0 g) (j0 g).heap) (hb : b < jb g) (hL : L ≤ 2560) (kend : ∀ (cells slots : Nat) (z : Option Nat) (sk : jS) (t : jT) (lv : List (Option Value)), cells ≤ 603072 → slots ≤ 7219306 → J p l e room_1 s m args below meth c Q 9 g cells slots z sk t 3215 lv []) : ∀ (m9 j : Nat) (z : Option Nat) (sk : jS) (t : jT) (G : GS), j + m9 = 513 → LI g kw sk t G → J p l e room_1 s m args below meth c Q 9 g (464 + 3 * j) (9124 + 18 * j) z sk t 28 [some (.ref b), some (.ref (jb g + 0)), some (.ref (jb g + 454)), some (.ref (jb g + 462)), some (.ref (jb g + 463)), some (.int (nI (5 * j))), none, none, none] [] := by
  intro m9
  induction m9 with
  | zero =>
    intro j z sk t G hj I
    refine j_iload X (i := 5) dL_law_28 rfl ?_
    refine j_aload_n X (i := 0) dL_law_30 rfl rfl ?_
    refine j_slen X hX hb dL_law_31 ?_
    refine j_iconst X (v := nI 5) dL_law_32 (by decide) ?_
    refine j_isub X dL_law_33 ?_
    refine j_icmp_gt X (tgt := 3215) dL_law_34 (by decide) (fun _ => ?_) (fun h => ?_)
    · exact kend _ _ _ _ _ _ (by omega) (by omega)
    · rw [nI_subI, ← iN_nI (5 * j), iN_lt (by omega) (by omega) (by omega) (by omega)] at h
      exact absurd h (by omega)
  | succ m9 ih =>
    intro j z sk t G hj I
    refine j_iload X (i := 5) dL_law_28 rfl ?_
    refine j_aload_n X (i := 0) dL_law_30 rfl rfl ?_
    refine j_slen X hX hb dL_law_31 ?_
    refine j_iconst X (v := nI 5) dL_law_32 (by decide) ?_
    refine j_isub X dL_law_33 ?_
    refine j_icmp_gt X (tgt := 3215) dL_law_34 (by decide) (fun _ => ?_) (fun h => ?_)
    · exact kend _ _ _ _ _ _ (by omega) (by omega)
    · rw [nI_subI, ← iN_nI (5 * j), iN_lt (by omega) (by omega) (by omega) (by omega)] at h
      have hi : 5 * j + 5 ≤ L := by omega
      refine j_aload_n X (i := 0) dL_law_37 rfl rfl ?_
      refine j_iload X (i := 5) dL_law_38 rfl ?_
      refine j_sld X hX hb rfl (by omega) (by omega) dL_law_40 ?_
      refine j_bipush X (v := nI 63) dL_law_41 (by decide) ?_
      refine j_iand X dL_law_43 ?_
      obtain ⟨n, hn, hw⟩ := and63 (xs (5 * j))
      rw [hw]
      refine law_call X hst hK9 hX hb hL hi (by omega) (by omega) I (fun z2 sk2 t2 G2 I2 => ?_) hn
      refine j_iinc X (i := 5) (v := nI (5 * (j + 1))) dL_law_3209 rfl (nI_add (5 * j) 5) (by decide) rfl ?_
      refine j_goto X (tgt := 28) dL_law_3212 (by decide) ?_
      refine j_widen (k := 464 + 3 * (j + 1)) (n := 9124 + 18 * (j + 1)) (by omega) (by omega) ?_
      exact ih (j + 1) z2 sk2 t2 G2 (by omega) I2
end LOOP
