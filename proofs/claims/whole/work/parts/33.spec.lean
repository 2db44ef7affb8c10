/-- what a call answers: the place of what it throws (0: it returns), its answer, the state behind it -/
abbrev AN : Type := Nat × Int32 × GS
def a_ch (a b c : Int) (w : Bool) (G : GS) (r : CR) : AN := (cod a b c r.1, iN (ansI r.1), chX w G r)
def a_addPlate (w : Bool) (G : GS) (x : Int32) : AN := a_ch (-2) (-3) (-9) w G (toC G (vNewPlate (gV G) x))
def a_addStar (w : Bool) (G : GS) (q x y : Int32) : AN := a_ch (-1) (-2) (-3) w G (toC G (vNewStar (gV G) q x y))
def a_removeStar (w : Bool) (G : GS) (q x y : Int32) : AN := a_ch (-1) (-2) (-4) w G (toC G (vDropStar (gV G) q x y))
def a_setShift (w : Bool) (G : GS) (q x y : Int32) : AN := a_ch (-1) (-2) (-9) w G (toC G (vShift (gV G) q x y))
def a_fit (w : Bool) (G : GS) (q o : Int32) : AN := a_ch (-1) (-2) (-9) w G (toC G (vFit (gV G) q o))
def a_addSheet (w : Bool) (G : GS) : AN := a_ch (-3) (-9) (-9) w G (toC G (vNewSheet (gV G)))
def a_print (w : Bool) (G : GS) (q o : Int32) : AN := a_ch (-1) (-5) (-9) w G (vPrint (gV G) (gR G) q o)
def a_putInRack (w : Bool) (G : GS) (o : Int32) : AN := a_ch (-1) (-3) (-5) w G (vRack (gV G) (gR G) o)
def a_takeOut (w : Bool) (G : GS) (o : Int32) : AN := a_ch (-1) (-3) (-9) w G (toC G (vUnrack (gV G) o))
def a_addInk (w : Bool) (G : GS) (x y : Int32) : AN := a_ch (-2) (-3) (-9) w G (toC G (vRefill (gV G) x y))
def a_passHours (w : Bool) (G : GS) (x : Int32) : AN := a_ch (-2) (-9) (-9) w G (toC G (vHours (gV G) x))
def qP (G : GS) (b : Bool) (v : Int32) : AN := if b = true then (0, v, G) else (1, nI 0, G)
def qPP (G : GS) (b b2 : Bool) (v : Int32) : AN := if b = false then (1, nI 0, G) else if b2 = false then (2, nI 0, G) else (0, v, G)
def isPg (G : GS) (q : Int32) : Bool := pIx (np (gV G)) q
def isSg (G : GS) (o : Int32) : Bool := pIx (ns (gV G)) o
def a_plateCount (G : GS) : AN := (0, nI (np (gV G)), G)
def a_inkOf (G : GS) (q : Int32) : AN := qP G (isPg G q) (nI (pAt (gV G) q).1)
def a_starCount (G : GS) (q : Int32) : AN := qP G (isPg G q) (nI (cntB (pAt (gV G) q).2.2.2))
def a_hasStar (G : GS) (q x y : Int32) : AN := qPP G (isPg G q) (isPl x y) (nI ((pAt (gV G) q).2.2.2 (cAt x y)).toNat)
def a_shiftX (G : GS) (q : Int32) : AN := qP G (isPg G q) (iN (pAt (gV G) q).2.1)
def a_shiftY (G : GS) (q : Int32) : AN := qP G (isPg G q) (iN (pAt (gV G) q).2.2.1)
def a_matches (G : GS) (q o x y : Int32) : AN := qPP G (isPg G q && isPg G o) (isSh x y) (nI (matB (pAt (gV G) q).2.2.2 (pAt (gV G) o).2.2.2 x.toInt y.toInt))
def a_most (G : GS) (q o : Int32) : AN := qP G (isPg G q && isPg G o) (iN (bstV (gV G) q o).1)
def a_bestX (G : GS) (q o : Int32) : AN := qP G (isPg G q && isPg G o) (iN (bstV (gV G) q o).2.1)
def a_bestY (G : GS) (q o : Int32) : AN := qP G (isPg G q && isPg G o) (iN (bstV (gV G) q o).2.2)
def a_wouldSmear (G : GS) (o : Int32) : AN := qP G (isSg G o) (nI (decide (0 < (sAt (gV G) o).1.1)).toNat)
def a_sheetCount (G : GS) : AN := (0, nI (ns (gV G)), G)
def a_colour (G : GS) (o x y : Int32) : AN := qPP G (isSg G o) (isPl x y) (nI (colN (sAt (gV G) o).2.1 (cAt x y)))
def a_intended (G : GS) (o x y : Int32) : AN := qPP G (isSg G o) (isPl x y) (nI (colN (sAt (gV G) o).2.2 (cAt x y)))
def a_placesOf (G : GS) (o x : Int32) : AN := qPP G (isSg G o) (pIx 8 x) (nI (plaB (sAt (gV G) o).2.1 x.toInt.toNat))
def a_wetness (G : GS) (o : Int32) : AN := qP G (isSg G o) (nI (sAt (gV G) o).1.1)
def a_smears (G : GS) (o : Int32) : AN := qP G (isSg G o) (nI (sAt (gV G) o).1.2.1)
def misV (V : SV) (k : Nat) : Nat := misB (sh V k).2.1 (sh V k).2.2
def a_misprints (G : GS) (o : Int32) : AN := qP G (isSg G o) (nI (misV (gV G) o.toInt.toNat))
def befV (V : SV) (k o : Nat) : Bool := decide (misV V o < misV V k ∨ misV V o = misV V k ∧ o < k)
def rnkV (V : SV) (k : Nat) : Nat := fb_ct (befV V k) (ns V)
def fstV (V : SV) (r : Int32) : Nat := fa_first (fun k => decide (nI (rnkV V k) = r)) (ns V)
def a_byMis (G : GS) (r : Int32) : AN := if fstV (gV G) r < ns (gV G) then (0, nI (fstV (gV G) r), G) else (1, nI 0, G)
def a_rackPlace (G : GS) (o : Int32) : AN := qPP G (isSg G o) (decide (0 ≤ (sAt (gV G) o).1.2.2)) (iN (sAt (gV G) o).1.2.2)
def a_sheetInRack (G : GS) (x : Int32) : AN := qPP G (pIx 3 x) (decide (rkV (gV G) x.toInt ≠ -1)) (iN (rkV (gV G) x.toInt))
def a_drops (G : GS) (x : Int32) : AN := qP G (isIk x) (nI (dr (gV G) (x.toInt.toNat / 2)))
def a_hour (G : GS) : AN := (0, nI (hr (gV G)), G)
def dryV (V : SV) (s : TV) : Nat := dryT s.1.1 s.1.2.2 (hr V)
def a_untilDry (G : GS) (o : Int32) : AN := qP G (isSg G o) (nI (dryV (gV G) (sAt (gV G) o)))
def a_reason (G : GS) : AN := match gR G with | none => (1, nI 0, G) | some (a, _) => (0, nI a, G)
def a_detail (G : GS) : AN := match gR G with | none => (1, nI 0, G) | some (_, d) => (0, nI d, G)
def sgn (c : Nat) : Nat := if c = 0 then 46 else 48 + c
def rowV (P : Nat → Nat → Bool) (y i : Nat) : Nat := sgn (colN P (16 * y + i))
def setO (G : GS) (o : TXV) : GS := (gV G, gS G, gH G, gR G, gT G, o, gE G, gF G)
def setT (G : GS) (x : TXV) : GS := (gV G, gS G, gH G, gR G, x, gO G, gE G, gF G)
def a_writeRow (G : GS) (o y : Int32) : AN := if isSg G o = false then (1, nI 0, G) else if pIx 8 y = false then (2, nI 0, G) else (0, nI 16, setO G (16, rowV (sAt (gV G) o).2.1 y.toInt.toNat))
def a_outChar (G : GS) (x : Int32) : AN := if pIx (gO G).1 x = true then (0, nI ((gO G).2 x.toInt.toNat), G) else (1, nI 32, G)
def a_isConsistent (G : GS) : AN := (0, nI 1, G)
def a_feed (G : GS) (x : Nat) : AN := if (gT G).1 = 60 then (1, nI 0, G) else (0, nI ((gT G).1 + 1), setT G ((gT G).1 + 1, fun i => if i = (gT G).1 then x else (gT G).2 i))
def a_errorPos (G : GS) : AN := match gE G with | none => (1, nI 0, G) | some e => (0, nI e, G)
def a_failed (G : GS) : AN := match gF G with | none => (1, nI 0, G) | some e => (0, nI e, G)
def a_undo (G : GS) : AN := if (gH G).1 = 0 then (1, nI 0, G) else (0, nI ((gH G).1 - 1), ((gH G).2 ((gH G).1 - 1), gS G, ((gH G).1 - 1, (gH G).2), G.2.2.2))
def a_undoCount (G : GS) : AN := (0, nI (gH G).1, G)
def a_save (G : GS) : AN := (0, nI (ns (gV G)), (gV G, some (gV G), G.2.2))
def a_restore (G : GS) : AN := match gS G with | none => (1, nI 0, G) | some S => (0, nI (ns S), (S, some S, (0, (gH G).2), G.2.2.2))
theorem ch_no {a b c m : Int} {w : Bool} {G : GS} (h : m < 0) : a_ch a b c w G (toC G (m, gV G)) = (cod a b c m, nI 0, G) := by
  unfold a_ch
  rw [chX_no h, show (toC G (m, gV G)).1 = m from rfl, ansI_no h]
  rfl
theorem ch_yes {a b c m : Int} {w : Bool} {G : GS} {V : SV} (h : 0 ≤ m) (ha : a < 0) (hb : b < 0) (hc : c < 0) : a_ch a b c w G (toC G (m, V)) = (0, iN m, (V, (kpG w G).2)) := by
  unfold a_ch
  rw [chX_yes h, show (toC G (m, V)).1 = m from rfl, ansI_yes h, cod_yes h ha hb hc]
/-- what the model's method leaves -/
def mP (M : Nat) (w : WB) (r : AN) (z : Option Nat) (sk : jS) (t : jT) : Option Value → Option Nat → jS → jT → Prop := fun v2 z2 sk2 t2 => v2 = some (.int r.2.1) ∧ z = z2 ∧ sk = sk2 ∧ t2 M 7 = nI r.1 ∧ RmG t2 M w r.2.2 ∧ ∀ c, (c < M ∨ M + 8 ≤ c ∨ c = M + 4 ∨ c = M + 7) → t2 c = t c
theorem mP_mk {M : Nat} {w : WB} {r : AN} {z : Option Nat} {sk : jS} {t t2 : jT} {n : Nat} {v : Int32} {G2 : GS} (hr : r = (n, v, G2)) (h7 : t2 M 7 = nI n) (hG : RmG t2 M w G2) (hf : ∀ c, (c < M ∨ M + 8 ≤ c ∨ c = M + 4 ∨ c = M + 7) → t2 c = t c) : mP M w r z sk t (some (.int v)) z sk t2 := by
  subst hr
  exact ⟨rfl, rfl, rfl, h7, hG, hf⟩
theorem mP_no {M : Nat} {w : WB} {G : GS} {r : AN} {z : Option Nat} {sk : jS} {t : jT} {n : Nat} {v : Int32} (hG : RmG t M w G) (hr : r = (n, v, G)) : mP M w r z sk t (some (.int v)) z sk (jU t M 7 (nI n)) :=
  mP_mk hr (by rw [jU_eq]; rfl) (hG.jcode _) (fun c hc => jU_ne _ _ _ (by omega))
theorem RmV.upP {f f2 : Nat → Int32} {V : SV} (h : RmV f V) {k : Nat} (hk : k < np V) (h6 : np V ≤ 6) {p : PV} (hp : RmP f2 (9 + 7 * k) p) (ho : ∀ j, (j < 9 + 7 * k ∨ 9 + 7 * k + 7 ≤ j) → f2 j = f j) : RmV f2 (upP V k p) := by
  obtain ⟨h1, h2, h3, h4, h5, h6', h7⟩ := h
  refine ⟨(ho _ (by omega)).trans h1, (ho _ (by omega)).trans h2, (ho _ (by omega)).trans h3, fun i hi => (ho _ (by omega)).trans (h4 i hi), fun a ha => (ho _ (by omega)).trans (h5 a ha), fun j hj => ?_, fun j hj => (h7 j hj).cong fun i hi => ho _ (by omega)⟩
  have hj : j < np V := hj
  show RmP f2 (9 + 7 * j) (if j = k then p else pl V j)
  by_cases e : j = k
  · rw [if_pos e, e]; exact hp
  · rw [if_neg e]
    exact (h6' j hj).cong fun i hi => ho _ (by omega)
theorem RmV.newPlate {f f2 : Nat → Int32} {V : SV} (h : RmV f V) (h6 : np V < 6) {p : PV} (h0 : f2 0 = nI (np V + 1)) (hp : RmP f2 (9 + 7 * np V) p) (ho : ∀ j, j ≠ 0 → (j < 9 + 7 * np V ∨ 9 + 7 * np V + 7 ≤ j) → f2 j = f j) : RmV f2 ((np V + 1, ns V, hr V), dr V, (fun j => if j = np V then p else pl V j), sh V) := by
  obtain ⟨h1, h2, h3, h4, h5, h6', h7⟩ := h
  refine ⟨h0, (ho _ (by omega) (by omega)).trans h2, (ho _ (by omega) (by omega)).trans h3, fun i hi => (ho _ (by omega) (by omega)).trans (h4 i hi), fun a ha => (ho _ (by omega) (by omega)).trans (h5 a ha), fun j hj => ?_, fun j hj => (h7 j hj).cong fun i hi => ho _ (by omega) (by omega)⟩
  have hj : j < np V + 1 := hj
  show RmP f2 (9 + 7 * j) (if j = np V then p else pl V j)
  by_cases e : j = np V
  · rw [if_pos e, e]; exact hp
  · rw [if_neg e]
    exact (h6' j (by omega)).cong fun i hi => ho _ (by omega) (by omega)
theorem Wd_0 {f : Nat → Int32} {o : Nat} {S : Nat → Bool} (hf : ∀ w, w < 4 → f (o + w) = nI 0) (hS : ∀ j, j < 128 → S j = false) : Wd f o S := fun w hw => by
  rw [hf w hw, ← r32_0]
  exact congrArg nI (r32_cong fun j hj => (hS _ (by omega)).symm)
