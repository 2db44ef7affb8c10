abbrev jShop (g : jG) (b : Nat) : jK := kO 8 [fun _ => .ref (jb g + (b + 1)), fun _ => .ref (jb g + (b + 2)), fun _ => .ref (jb g + (b + 3)), .int, .int, .int]
/-- the places of a shop -/
def isShop (g : jG) (sk : jS) (b : Nat) : Prop := sk b = some (jShop g b) ∧ sk (b + 1) = some (kR "StarPress$Plate" 6 (fun k => some (jb g + (b + 4 + 2 * k)))) ∧ sk (b + 2) = some (kR "StarPress$Sheet" 8 (fun k => some (jb g + (b + 16 + 3 * k)))) ∧ sk (b + 3) = some (kA .int 3) ∧ (∀ k, k < 6 → sk ((b + 4 + 2 * k)) = some (jPlate g ((b + 4 + 2 * k) + 1)) ∧ sk ((b + 4 + 2 * k) + 1) = some (kA .int 8)) ∧ ∀ k, k < 8 → sk ((b + 16 + 3 * k)) = some (jSheet g ((b + 16 + 3 * k) + 1) ((b + 16 + 3 * k) + 2)) ∧ sk ((b + 16 + 3 * k) + 1) = some (kA .int 24) ∧ sk ((b + 16 + 3 * k) + 2) = some (kA .int 24)
abbrev np (V : SV) : Nat := V.1.1
abbrev ns (V : SV) : Nat := V.1.2.1
abbrev hr (V : SV) : Nat := V.1.2.2
abbrev dr (V : SV) : Nat → Nat := V.2.1
abbrev pl (V : SV) : Nat → PV := V.2.2.1
abbrev sh (V : SV) : Nat → TV := V.2.2.2
def upP (V : SV) (k : Nat) (p : PV) : SV := (V.1, dr V, (fun j => if j = k then p else pl V j), sh V)
def upS (V : SV) (k : Nat) (s : TV) : SV := (V.1, dr V, pl V, fun j => if j = k then s else sh V j)
def upD (V : SV) (i n : Nat) : SV := (V.1, (fun j => if j = i then n else dr V j), pl V, sh V)
/-- a shop in the memory -/
def RcV (t : jT) (b : Nat) (V : SV) : Prop := t b 3 = nI (np V) ∧ t b 4 = nI (ns V) ∧ t b 5 = nI (hr V) ∧ (∀ i, i < 3 → t (b + 3) i = nI (dr V i)) ∧ (∀ k, k < 6 → RcP t ((b + 4 + 2 * k)) ((b + 4 + 2 * k) + 1) (pl V k)) ∧ ∀ k, k < 8 → RcS t ((b + 16 + 3 * k)) ((b + 16 + 3 * k) + 1) ((b + 16 + 3 * k) + 2) (sh V k)
theorem RcP.cong {t u : jT} {i r : Nat} {p : PV} (h : RcP t i r p) (hi : u i = t i) (hr : u r = t r) : RcP u i r p := by
  unfold RcP
  rw [hi, hr]
  exact h
theorem RcV.cong {t u : jT} {b : Nat} {V : SV} (h : RcV t b V) (hc : ∀ c, b ≤ c → c < b + 40 → u c = t c) : RcV u b V := by
  obtain ⟨h1, h2, h3, h4, h5, h6⟩ := h
  refine ⟨by rw [hc b (by omega) (by omega)]; exact h1, by rw [hc b (by omega) (by omega)]; exact h2, by rw [hc b (by omega) (by omega)]; exact h3, fun i hi => by rw [hc (b + 3) (by omega) (by omega)]; exact h4 i hi, fun k hk => (h5 k hk).cong (hc _ (by omega) (by omega)) (hc _ (by omega) (by omega)), fun k hk => (h6 k hk).cong (hc _ (by omega) (by omega)) (hc _ (by omega) (by omega)) (hc _ (by omega) (by omega))⟩
theorem RcV.upP {t u : jT} {b : Nat} {V : SV} (h : RcV t b V) {k : Nat} (hk : k < 6) {p : PV} (hp : RcP u ((b + 4 + 2 * k)) ((b + 4 + 2 * k) + 1) p) (hc : ∀ c, b ≤ c → c < b + 40 → c ≠ (b + 4 + 2 * k) → c ≠ (b + 4 + 2 * k) + 1 → u c = t c) : RcV u b (upP V k p) := by
  obtain ⟨h1, h2, h3, h4, h5, h6⟩ := h
  refine ⟨by rw [hc b (by omega) (by omega) (by omega) (by omega)]; exact h1, by rw [hc b (by omega) (by omega) (by omega) (by omega)]; exact h2, by rw [hc b (by omega) (by omega) (by omega) (by omega)]; exact h3, fun i hi => by rw [hc (b + 3) (by omega) (by omega) (by omega) (by omega)]; exact h4 i hi, fun j hj => ?_, fun j hj => (h6 j hj).cong (hc _ (by omega) (by omega) (by omega) (by omega)) (hc _ (by omega) (by omega) (by omega) (by omega)) (hc _ (by omega) (by omega) (by omega) (by omega))⟩
  by_cases e : j = k
  · subst e
    show RcP u _ _ (if j = j then p else _)
    rw [if_pos rfl]
    exact hp
  · show RcP u _ _ (if j = k then p else _)
    rw [if_neg e]
    exact (h5 j hj).cong (hc _ (by omega) (by omega) (by omega) (by omega)) (hc _ (by omega) (by omega) (by omega) (by omega))
theorem RcV.upS {t u : jT} {b : Nat} {V : SV} (h : RcV t b V) {k : Nat} (hk : k < 8) {p : TV} (hp : RcS u ((b + 16 + 3 * k)) ((b + 16 + 3 * k) + 1) ((b + 16 + 3 * k) + 2) p) (hc : ∀ c, b ≤ c → c < b + 40 → c ≠ (b + 16 + 3 * k) → c ≠ (b + 16 + 3 * k) + 1 → c ≠ (b + 16 + 3 * k) + 2 → u c = t c) : RcV u b (upS V k p) := by
  obtain ⟨h1, h2, h3, h4, h5, h6⟩ := h
  refine ⟨by rw [hc b (by omega) (by omega) (by omega) (by omega) (by omega)]; exact h1, by rw [hc b (by omega) (by omega) (by omega) (by omega) (by omega)]; exact h2, by rw [hc b (by omega) (by omega) (by omega) (by omega) (by omega)]; exact h3, fun i hi => by rw [hc (b + 3) (by omega) (by omega) (by omega) (by omega) (by omega)]; exact h4 i hi, fun j hj => (h5 j hj).cong (hc _ (by omega) (by omega) (by omega) (by omega) (by omega)) (hc _ (by omega) (by omega) (by omega) (by omega) (by omega)), fun j hj => ?_⟩
  by_cases e : j = k
  · subst e
    show RcS u _ _ _ (if j = j then p else _)
    rw [if_pos rfl]
    exact hp
  · show RcS u _ _ _ (if j = k then p else _)
    rw [if_neg e]
    exact (h6 j hj).cong (hc _ (by omega) (by omega) (by omega) (by omega) (by omega)) (hc _ (by omega) (by omega) (by omega) (by omega) (by omega)) (hc _ (by omega) (by omega) (by omega) (by omega) (by omega))
theorem RcV.upD {t u : jT} {b : Nat} {V : SV} (h : RcV t b V) {i n : Nat} (hd : u (b + 3) = upd (t (b + 3)) i (nI n)) (hc : ∀ c, b ≤ c → c < b + 40 → c ≠ b + 3 → u c = t c) : RcV u b (upD V i n) := by
  obtain ⟨h1, h2, h3, h4, h5, h6⟩ := h
  refine ⟨by rw [hc b (by omega) (by omega) (by omega)]; exact h1, by rw [hc b (by omega) (by omega) (by omega)]; exact h2, by rw [hc b (by omega) (by omega) (by omega)]; exact h3, fun j hj => ?_, fun k hk => (h5 k hk).cong (hc _ (by omega) (by omega) (by omega)) (hc _ (by omega) (by omega) (by omega)), fun k hk => (h6 k hk).cong (hc _ (by omega) (by omega) (by omega)) (hc _ (by omega) (by omega) (by omega)) (hc _ (by omega) (by omega) (by omega))⟩
  rw [hd]
  show upd (t (b + 3)) i (nI n) j = nI (if j = i then n else dr V j)
  unfold upd
  by_cases e : j = i
  · rw [if_pos e, if_pos e]
  · rw [if_neg e, if_neg e]; exact h4 j hj
/-- only the shop's own counts change -/
theorem RcV.upB {t u : jT} {b : Nat} {V : SV} (h : RcV t b V) {a c2 d : Nat} (e3 : u b 3 = nI a) (e4 : u b 4 = nI c2) (e5 : u b 5 = nI d) (hc : ∀ c, b < c → c < b + 40 → u c = t c) : RcV u b ((a, c2, d), dr V, pl V, sh V) := by
  obtain ⟨h1, h2, h3, h4, h5, h6⟩ := h
  exact ⟨e3, e4, e5, fun i hi => by rw [hc (b + 3) (by omega) (by omega)]; exact h4 i hi, fun k hk => (h5 k hk).cong (hc _ (by omega) (by omega)) (hc _ (by omega) (by omega)), fun k hk => (h6 k hk).cong (hc _ (by omega) (by omega)) (hc _ (by omega) (by omega)) (hc _ (by omega) (by omega))⟩
def okP (p : PV) : Prop := (p.1 = 1 ∨ p.1 = 2 ∨ p.1 = 4) ∧ -3 ≤ p.2.1 ∧ p.2.1 ≤ 3 ∧ -3 ≤ p.2.2.1 ∧ p.2.2.1 ≤ 3 ∧ cntB p.2.2.2 ≤ 20
def okS (s : TV) : Prop := s.1.1 ≤ 5 ∧ -1 ≤ s.1.2.2 ∧ s.1.2.2 < 3
def okV (V : SV) : Prop := np V ≤ 6 ∧ ns V ≤ 8 ∧ (∀ k, k < 6 → okP (pl V k)) ∧ (∀ k, k < 8 → okS (sh V k)) ∧ (∀ i, i < 3 → dr V i ≤ 500) ∧ (∀ k, k < 6 → np V ≤ k → (pl V k).2.1 = 0 ∧ (pl V k).2.2.1 = 0 ∧ ∀ j, j < 128 → (pl V k).2.2.2 j = false) ∧ (∀ k, k < 8 → ns V ≤ k → (sh V k).1.1 = 0 ∧ (sh V k).1.2.1 = 0 ∧ (sh V k).1.2.2 = -1 ∧ ∀ i, i < 3 → ∀ j, j < 128 → (sh V k).2.1 i j = false ∧ (sh V k).2.2 i j = false) ∧ ∀ j k, j < ns V → k < ns V → 0 ≤ (sh V j).1.2.2 → (sh V j).1.2.2 = (sh V k).1.2.2 → j = k
def pIx (n : Nat) (x : Int32) : Bool := decide (0 ≤ x.toInt ∧ x.toInt < n)
theorem pIx_of {n : Nat} (hn : n ≤ 100) {x : Int32} (h : pIx n x = true) : ∃ k, k < n ∧ x = nI k ∧ x.toInt.toNat = k := by
  have h := of_decide_eq_true h
  refine ⟨x.toInt.toNat, by omega, ?_, rfl⟩
  rw [← Int32.toInt_inj, nI_toInt (by omega)]
  omega
def isIk (x : Int32) : Bool := decide (x = 1 ∨ x = 2 ∨ x = 4)
theorem isIk_of {x : Int32} (h : isIk x = true) : ∃ n, (n = 1 ∨ n = 2 ∨ n = 4) ∧ x = nI n ∧ x.toInt.toNat = n := by
  rcases of_decide_eq_true h with rfl | rfl | rfl
  · exact ⟨1, Or.inl rfl, rfl, rfl⟩
  · exact ⟨2, Or.inr (Or.inl rfl), rfl, rfl⟩
  · exact ⟨4, Or.inr (Or.inr rfl), rfl, rfl⟩

theorem s_isPlate {l : Launch} {g : jG} (hok : jOk g) (hst : l.stackTraces = false) {z : Option Nat} {sk : jS} {t : jT} (x : Int32) {b n : Nat} (hB : sk b = some (jShop g b)) (hn : t b 3 = nI n) (hle : n < 2 ^ 31) : jMet l g mX8_isPlate 1 0 0 [.ref (jb g + b), .int x] z sk t (jE (some (.int (nI (pIx n x).toNat))) z sk t) := by
  refine j_body (lv := [some (.ref (jb g + b)), some (.int x)]) i_X8_isPlate hok hst (fun p e s m args below meth c X => ?_)
  have no : pIx n x = false → J p l e (jR 1 0 0) s m args below meth c (jQm below args s g 0 0 (jE (some (.int (nI (pIx n x).toNat))) z sk t)) 2 g 0 0 z sk t 16 [some (.ref (jb g + b)), some (.int x)] [] := fun h => by
    refine j_iconst X (v := (nI 0)) dX8_isPlate_16 (by decide) ?_
    exact j_iret X dX8_isPlate_17 rfl rfl ⟨by rw [h]; rfl, rfl, rfl, rfl⟩
  refine j_iload_n X (i := 1) dX8_isPlate_0 rfl rfl ?_
  refine j_if_lt X (tgt := 16) dX8_isPlate_1 (by decide) (fun h1 => ?_) (fun h1 => ?_)
  · exact no (decide_eq_false (by rw [i_lt0] at h1; omega))
  rw [i_lt0] at h1
  refine j_iload_n X (i := 1) dX8_isPlate_4 rfl rfl ?_
  refine j_aload_n X (i := 0) dX8_isPlate_5 rfl rfl ?_
  refine jFd.get X fd_X8_27 hB rfl dX8_isPlate_6 ?_
  rw [hn]
  refine j_icmp_ge X (tgt := 16) dX8_isPlate_9 (by decide) (fun h9 => ?_) (fun h9 => ?_)
  · exact no (decide_eq_false (by rw [i_le hle] at h9; omega))
  rw [i_le hle] at h9
  refine j_iconst X (v := (nI 1)) dX8_isPlate_12 (by decide) ?_
  refine j_goto X (tgt := 17) dX8_isPlate_13 (by decide) ?_
  exact j_iret X dX8_isPlate_17 rfl rfl ⟨by rw [show pIx n x = true from decide_eq_true (by omega)]; rfl, rfl, rfl, rfl⟩

theorem s_isSheet {l : Launch} {g : jG} (hok : jOk g) (hst : l.stackTraces = false) {z : Option Nat} {sk : jS} {t : jT} (x : Int32) {b n : Nat} (hB : sk b = some (jShop g b)) (hn : t b 4 = nI n) (hle : n < 2 ^ 31) : jMet l g mX8_isSheet 1 0 0 [.ref (jb g + b), .int x] z sk t (jE (some (.int (nI (pIx n x).toNat))) z sk t) := by
  refine j_body (lv := [some (.ref (jb g + b)), some (.int x)]) i_X8_isSheet hok hst (fun p e s m args below meth c X => ?_)
  have no : pIx n x = false → J p l e (jR 1 0 0) s m args below meth c (jQm below args s g 0 0 (jE (some (.int (nI (pIx n x).toNat))) z sk t)) 2 g 0 0 z sk t 16 [some (.ref (jb g + b)), some (.int x)] [] := fun h => by
    refine j_iconst X (v := (nI 0)) dX8_isSheet_16 (by decide) ?_
    exact j_iret X dX8_isSheet_17 rfl rfl ⟨by rw [h]; rfl, rfl, rfl, rfl⟩
  refine j_iload_n X (i := 1) dX8_isSheet_0 rfl rfl ?_
  refine j_if_lt X (tgt := 16) dX8_isSheet_1 (by decide) (fun h1 => ?_) (fun h1 => ?_)
  · exact no (decide_eq_false (by rw [i_lt0] at h1; omega))
  rw [i_lt0] at h1
  refine j_iload_n X (i := 1) dX8_isSheet_4 rfl rfl ?_
  refine j_aload_n X (i := 0) dX8_isSheet_5 rfl rfl ?_
  refine jFd.get X fd_X8_31 hB rfl dX8_isSheet_6 ?_
  rw [hn]
  refine j_icmp_ge X (tgt := 16) dX8_isSheet_9 (by decide) (fun h9 => ?_) (fun h9 => ?_)
  · exact no (decide_eq_false (by rw [i_le hle] at h9; omega))
  rw [i_le hle] at h9
  refine j_iconst X (v := (nI 1)) dX8_isSheet_12 (by decide) ?_
  refine j_goto X (tgt := 17) dX8_isSheet_13 (by decide) ?_
  exact j_iret X dX8_isSheet_17 rfl rfl ⟨by rw [show pIx n x = true from decide_eq_true (by omega)]; rfl, rfl, rfl, rfl⟩

theorem s_isInk {l : Launch} {g : jG} (hok : jOk g) (hst : l.stackTraces = false) {z : Option Nat} {sk : jS} {t : jT} (x : Int32) : jMet l g mX9_isInk 1 0 0 [.int x] z sk t (jE (some (.int (nI (isIk x).toNat))) z sk t) := by
  refine j_body (lv := [some (.int x)]) i_X9_isInk hok hst (fun p e s m args below meth c X => ?_)
  have yes : isIk x = true → J p l e (jR 1 0 0) s m args below meth c (jQm below args s g 0 0 (jE (some (.int (nI (isIk x).toNat))) z sk t)) 1 g 0 0 z sk t 15 [some (.int x)] [] := fun h => by
    refine j_iconst X (v := (nI 1)) dX9_isInk_15 (by decide) ?_
    refine j_goto X (tgt := 20) dX9_isInk_16 (by decide) ?_
    exact j_iret X dX9_isInk_20 rfl rfl ⟨by rw [h]; rfl, rfl, rfl, rfl⟩
  refine j_iload_n X (i := 0) dX9_isInk_0 rfl rfl ?_
  refine j_iconst X (v := (nI 1)) dX9_isInk_1 (by decide) ?_
  refine j_icmp_eq X (tgt := 15) dX9_isInk_2 (by decide) (fun h2 => ?_) (fun h2 => ?_)
  · exact yes (decide_eq_true (Or.inl h2))
  refine j_iload_n X (i := 0) dX9_isInk_5 rfl rfl ?_
  refine j_iconst X (v := (nI 2)) dX9_isInk_6 (by decide) ?_
  refine j_icmp_eq X (tgt := 15) dX9_isInk_7 (by decide) (fun h7 => ?_) (fun h7 => ?_)
  · exact yes (decide_eq_true (Or.inr (Or.inl h7)))
  refine j_iload_n X (i := 0) dX9_isInk_10 rfl rfl ?_
  refine j_iconst X (v := (nI 4)) dX9_isInk_11 (by decide) ?_
  refine j_icmp_ne X (tgt := 19) dX9_isInk_12 (by decide) (fun h12 => ?_) (fun h12 => ?_)
  · refine j_iconst X (v := (nI 0)) dX9_isInk_19 (by decide) ?_
    exact j_iret X dX9_isInk_20 rfl rfl ⟨by rw [show isIk x = false from decide_eq_false (fun q => q.elim h2 (fun q => q.elim h7 h12))]; rfl, rfl, rfl, rfl⟩
  · exact yes (decide_eq_true (Or.inr (Or.inr h12)))

abbrev VR : Type := Int × SV
def vNewPlate (V : SV) (x : Int32) : VR := if isIk x = false then (-2, V) else if 6 ≤ np V then (-3, V) else ((np V : Int), ((np V + 1, ns V, hr V), dr V, (fun j => if j = np V then (x.toInt.toNat, (pl V j).2) else pl V j), sh V))
def flipS (S : Nat → Bool) (c : Nat) : Nat → Bool := fun k => S k ^^ decide (k = c)
def ptS (p : PV) (S : Nat → Bool) : PV := (p.1, p.2.1, p.2.2.1, S)
def ptD (p : PV) (dx dy : Int) : PV := (p.1, dx, dy, p.2.2.2)
def pAt (V : SV) (q : Int32) : PV := pl V q.toInt.toNat
def sAt (V : SV) (q : Int32) : TV := sh V q.toInt.toNat
def cAt (x y : Int32) : Nat := 16 * y.toInt.toNat + x.toInt.toNat
def vNewStar (V : SV) (q x y : Int32) : VR := if pIx (np V) q = false then (-1, V) else if isPl x y = false then (-2, V) else
  if (pAt V q).2.2.2 (cAt x y) = true ∨ 20 ≤ cntB (pAt V q).2.2.2 then (-3, V) else ((cntB (flipS (pAt V q).2.2.2 (cAt x y)) : Int), upP V q.toInt.toNat (ptS (pAt V q) (flipS (pAt V q).2.2.2 (cAt x y))))
def vDropStar (V : SV) (q x y : Int32) : VR := if pIx (np V) q = false then (-1, V) else if isPl x y = false then (-2, V) else
  if (pAt V q).2.2.2 (cAt x y) = false then (-4, V) else ((cntB (flipS (pAt V q).2.2.2 (cAt x y)) : Int), upP V q.toInt.toNat (ptS (pAt V q) (flipS (pAt V q).2.2.2 (cAt x y))))
def vShift (V : SV) (q dx dy : Int32) : VR := if pIx (np V) q = false then (-1, V) else if isSh dx dy = false then (-2, V) else
  ((besB (pAt V q).2.2.2 dx.toInt dy.toInt : Int), upP V q.toInt.toNat (ptD (pAt V q) dx.toInt dy.toInt))
def bstV (V : SV) (q o : Int32) : F3 := bst (pAt V q).2.2.2 (pAt V o).2.2.2
def vFit (V : SV) (q o : Int32) : VR := if pIx (np V) q = false ∨ pIx (np V) o = false then (-1, V) else if q = o then (-2, V) else
  ((bstV V q o).1, upP V q.toInt.toNat (ptD (pAt V q) (bstV V q o).2.1 (bstV V q o).2.2))
def vNewSheet (V : SV) : VR := if 8 ≤ ns V then (-3, V) else ((ns V : Int), ((np V, ns V + 1, hr V), dr V, pl V, sh V))
theorem isPl_of {x y : Int32} (h : isPl x y = true) : ∃ a b, a < 16 ∧ b < 8 ∧ x = nI a ∧ y = nI b ∧ x.toInt.toNat = a ∧ y.toInt.toNat = b := by
  have h := of_decide_eq_true h
  refine ⟨x.toInt.toNat, y.toInt.toNat, by omega, by omega, ?_, ?_, rfl, rfl⟩
  · rw [← Int32.toInt_inj, nI_toInt (by omega)]; omega
  · rw [← Int32.toInt_inj, nI_toInt (by omega)]; omega
theorem iN_toInt_self (x : Int32) : iN x.toInt = x := Int32.ofInt_toInt x
theorem Rows_flip {t : jT} {r : Nat} {S : Nat → Bool} (h : Rows (t r) S) {x y : Nat} (hx : x < 16) (hy : y < 8) : Rows ((jU t r y (nI (rN (fun x2 => S (16 * y + x2) ^^ decide (x2 = x))))) r) (flipS S (16 * y + x)) := by
  rw [jU_eq]
  intro y2 hy2
  unfold upd
  by_cases e : y2 = y
  · subst e
    rw [if_pos rfl]
    refine congrArg nI (rN_cong fun x2 hx2 => ?_)
    unfold flipS
    congr 1
    exact decide_eq_decide.mpr (by omega)
  · rw [if_neg e, h y2 hy2]
    refine congrArg nI (rN_cong fun x2 hx2 => ?_)
    unfold flipS
    rw [decide_eq_false (show ¬ 16 * y2 + x2 = 16 * y + x by omega)]
    simp
theorem s_newPlate {l : Launch} {g : jG} (hok : jOk g) (hst : l.stackTraces = false) {z : Option Nat} {sk : jS} {t : jT} {b : Nat} {V : SV} (hB : isShop g sk b) (hV : RcV t b V) (hk : okV V) (x : Int32) : jMet l g mX8_newPlate 2 0 0 [.ref (jb g + b), .int x] z sk t (fun v2 z2 sk2 t2 => v2 = some (.int (iN (vNewPlate V x).1)) ∧ z = z2 ∧ sk = sk2 ∧ RcV t2 b (vNewPlate V x).2 ∧ (∀ c, (c < b ∨ b + 40 ≤ c) → t2 c = t c)) := by
  refine j_body (lv := [some (.ref (jb g + b)), some (.int x)]) i_X8_newPlate hok hst (fun p e s m args below meth c X => ?_)
  obtain ⟨B1, B2, B3, B4, B5, B6⟩ := id hB
  obtain ⟨v1, v2, v3, v4, v5, v6⟩ := id hV
  obtain ⟨k1, k2, k3, k4, k5, k6, k7, k8⟩ := id hk
  refine j_iload_n X (i := 1) dX8_newPlate_0 rfl rfl ?_
  refine j_callSN X (s_isInk hok hst x) i_X9_isInk tw_2_202 tw_2_203 dX8_newPlate_1 ?_ 
  cases hq : isIk x with
  | false =>
    have ev : vNewPlate V x = (-2, V) := by unfold vNewPlate; rw [if_pos hq]
    refine j_if_ne X (tgt := 10) dX8_newPlate_4 (by decide) (fun q9 => absurd (by decide) q9) (fun _ => ?_)
    refine j_bipush X (v := -2) dX8_newPlate_7 (by decide) ?_
    exact j_iret X dX8_newPlate_9 rfl rfl ⟨by rw [ev]; rfl, rfl, rfl, by rw [ev]; exact hV, fun _ _ => rfl⟩
  | true =>
    obtain ⟨n, hn, hx, hxn⟩ := isIk_of hq
    refine j_if_ne X (tgt := 10) dX8_newPlate_4 (by decide) (fun _ => ?_) (fun q9 => absurd q9 (by decide))
    refine j_aload_n X (i := 0) dX8_newPlate_10 rfl rfl ?_
    refine jFd.get X fd_X8_27 B1 rfl dX8_newPlate_11 ?_
    refine j_bipush X (v := (nI 6)) dX8_newPlate_14 (by decide) ?_
    rw [v1]
    by_cases h6 : 6 ≤ np V
    · have ev : vNewPlate V x = (-3, V) := by unfold vNewPlate; rw [if_neg (by rw [hq]; decide), if_pos h6]
      refine j_icmp_lt X (tgt := 22) dX8_newPlate_16 (by decide) (fun q9 => absurd q9 (nI_nlt h6 (by omega))) (fun _ => ?_)
      refine j_bipush X (v := -3) dX8_newPlate_19 (by decide) ?_
      exact j_iret X dX8_newPlate_21 rfl rfl ⟨by rw [ev]; rfl, rfl, rfl, by rw [ev]; exact hV, fun _ _ => rfl⟩
    · have ev : vNewPlate V x = ((np V : Int), ((np V + 1, ns V, hr V), dr V, (fun j => if j = np V then (x.toInt.toNat, (pl V j).2) else pl V j), sh V)) := by unfold vNewPlate; rw [if_neg (by rw [hq]; decide), if_neg h6]
      refine j_icmp_lt X (tgt := 22) dX8_newPlate_16 (by decide) (fun _ => ?_) (fun q9 => absurd (nI_lt (by omega) (by decide)) q9)
      refine j_aload_n X (i := 0) dX8_newPlate_22 rfl rfl ?_
      refine jFd.get X fd_X8_11 B1 rfl dX8_newPlate_23 ?_
      refine j_aload_n X (i := 0) dX8_newPlate_26 rfl rfl ?_
      refine jFd.get X fd_X8_27 B1 rfl dX8_newPlate_27 ?_
      rw [v1]
      refine j_aald X B2 (by decide) rfl (show np V < 6 by omega) (by decide) rfl dX8_newPlate_30 ?_
      refine j_iload_n X (i := 1) dX8_newPlate_31 rfl rfl ?_
      have P5 := B5 (np V) (by omega)
      have nb : b ≠ (b + 4 + 2 * (np V)) := by omega
      refine jFd.put X fd_X8_62 P5.1 rfl rfl rfl rfl dX8_newPlate_32 ?_
      refine j_aload_n X (i := 0) dX8_newPlate_35 rfl rfl ?_
      refine j_dup X dX8_newPlate_36 rfl ?_
      refine jFd.get X fd_X8_27 B1 rfl dX8_newPlate_37 ?_
      rw [jU_ne _ _ _ nb, v1]
      refine j_iconst X (v := (nI 1)) dX8_newPlate_40 (by decide) ?_
      refine j_iadd X dX8_newPlate_41 ?_
      rw [nI_add]
      refine jFd.put X fd_X8_27 B1 rfl rfl rfl rfl dX8_newPlate_42 ?_
      refine j_aload_n X (i := 0) dX8_newPlate_45 rfl rfl ?_
      refine jFd.get X fd_X8_27 B1 rfl dX8_newPlate_46 ?_
      rw [jU_eq]
      refine j_iconst X (v := (nI 1)) dX8_newPlate_49 (by decide) ?_
      refine j_isub X dX8_newPlate_50 ?_
      have e9 : upd ((jU t ((b + 4 + 2 * (np V))) 1 x) b) 3 (nI (np V + 1)) 3 - nI 1 = nI (np V) := by
        show nI (np V + 1) - nI 1 = _
        rw [pk_sub (by omega)]; rfl
      refine j_iret X dX8_newPlate_51 rfl rfl ⟨by rw [ev]; exact congrArg (fun w => some (Value.int w)) (e9.trans (iN_nI _).symm), rfl, rfl, ?_, ?_⟩
      · rw [ev]
        have hP : RcP (jU t ((b + 4 + 2 * (np V))) 1 x) ((b + 4 + 2 * (np V))) ((b + 4 + 2 * (np V)) + 1) (x.toInt.toNat, (pl V (np V)).2) := by
          obtain ⟨p1, p2, p3, p4⟩ := v5 (np V) (by omega)
          refine ⟨?_, ?_, ?_, ?_⟩
          · rw [jU_eq, hxn, hx]; rfl
          · rw [jU_eq]; exact p2
          · rw [jU_eq]; exact p3
          · rw [jU_ne _ _ _ (by omega)]; exact p4
        have h1 := hV.upP (show np V < 6 by omega) hP (fun c _ _ hc _ => jU_ne _ _ _ hc)
        have h2 := h1.upB (u := jU (jU t ((b + 4 + 2 * (np V))) 1 x) b 3 (nI (np V + 1))) (a := np V + 1) (c2 := ns V) (d := hr V) (by rw [jU_eq]; rfl) (by rw [jU_eq, jU_ne _ _ _ nb]; exact v2) (by rw [jU_eq, jU_ne _ _ _ nb]; exact v3) (fun c h _ => jU_ne _ _ _ (by omega))
        refine (show RcV _ b _ from ?_)
        have e1 : (fun j => if j = np V then (x.toInt.toNat, (pl V j).2) else pl V j) = (fun j => if j = np V then (x.toInt.toNat, (pl V (np V)).2) else pl V j) := by
          funext j
          by_cases e : j = np V
          · subst e; rfl
          · rw [if_neg e, if_neg e]
        rw [e1]
        exact h2
      · intro c hc
        rw [jU_ne _ _ _ (by omega), jU_ne _ _ _ (by omega)]

