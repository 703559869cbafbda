/-! a strip as a row of 52 numbers; what is told of it -/
abbrev Row : Type := List Int
def rg (r : Row) (k : Nat) (p : Int) : Int := r.getD (k + p.toNat) 0
abbrev rN (r : Row) : Int := rg r 0 0
abbrev rF (r : Row) : Int := rg r 0 1
abbrev rB (r : Row) : Int := rg r 0 2
abbrev rE (r : Row) : Int := rg r 0 3
abbrev rK (r : Row) (p : Int) : Int := rg r 4 p
abbrev rW (r : Row) (p : Int) : Int := rg r 12 p
abbrev rBe (r : Row) (p : Int) : Int := rg r 20 p
abbrev rWe (r : Row) (p : Int) : Int := rg r 28 p
abbrev rSh (r : Row) (p : Int) : Int := rg r 36 p
abbrev rL (r : Row) (p : Int) : Int := rg r 44 p
def oct (f : Int → Int) : List Int := [f 0, f 1, f 2, f 3, f 4, f 5, f 6, f 7]
def rowX (D : Dat) (a : Nat) : Row := [D a 6, D a 7, D a 8, D a 9] ++ (oct (D (a + 1)) ++ (oct (D (a + 2)) ++ (oct (D (a + 3)) ++ (oct (D (a + 4)) ++ (oct (D (a + 5)) ++ oct (D (a + 6)))))))
def rowM (D : Dat) (c : Nat) (o : Int) : Row := (List.range 52).map (fun i : Nat => D c (o + (i : Int)))
theorem in8 {p : Int} (h : 0 ≤ p ∧ p < 8) : p = 0 ∨ p = 1 ∨ p = 2 ∨ p = 3 ∨ p = 4 ∨ p = 5 ∨ p = 6 ∨ p = 7 := by omega
theorem xN (D : Dat) (a : Nat) : rN (rowX D a) = D a 6 := rfl
theorem xF (D : Dat) (a : Nat) : rF (rowX D a) = D a 7 := rfl
theorem xB (D : Dat) (a : Nat) : rB (rowX D a) = D a 8 := rfl
theorem xE (D : Dat) (a : Nat) : rE (rowX D a) = D a 9 := rfl
theorem xK {D : Dat} {a : Nat} {p : Int} (h : 0 ≤ p ∧ p < 8) : rK (rowX D a) p = D (a + 1) p := by rcases in8 h with rfl | rfl | rfl | rfl | rfl | rfl | rfl | rfl <;> rfl
theorem xW {D : Dat} {a : Nat} {p : Int} (h : 0 ≤ p ∧ p < 8) : rW (rowX D a) p = D (a + 2) p := by rcases in8 h with rfl | rfl | rfl | rfl | rfl | rfl | rfl | rfl <;> rfl
theorem xBe {D : Dat} {a : Nat} {p : Int} (h : 0 ≤ p ∧ p < 8) : rBe (rowX D a) p = D (a + 3) p := by rcases in8 h with rfl | rfl | rfl | rfl | rfl | rfl | rfl | rfl <;> rfl
theorem xWe {D : Dat} {a : Nat} {p : Int} (h : 0 ≤ p ∧ p < 8) : rWe (rowX D a) p = D (a + 4) p := by rcases in8 h with rfl | rfl | rfl | rfl | rfl | rfl | rfl | rfl <;> rfl
theorem xSh {D : Dat} {a : Nat} {p : Int} (h : 0 ≤ p ∧ p < 8) : rSh (rowX D a) p = D (a + 5) p := by rcases in8 h with rfl | rfl | rfl | rfl | rfl | rfl | rfl | rfl <;> rfl
theorem xL {D : Dat} {a : Nat} {p : Int} (h : 0 ≤ p ∧ p < 8) : rL (rowX D a) p = D (a + 6) p := by rcases in8 h with rfl | rfl | rfl | rfl | rfl | rfl | rfl | rfl <;> rfl
theorem rowM_get {D : Dat} {c : Nat} {o : Int} {k : Nat} {p : Int} (hp : 0 ≤ p) (hk : (k : Int) + p < 52) : rg (rowM D c o) k p = D c (o + (k + p)) := by
  unfold rg rowM
  rw [List.getD_eq_getElem?_getD, List.getElem?_map, List.getElem?_range (by omega)]
  simp only [Option.map_some, Option.getD_some]
  congr 1
  omega
/-- the numbers of a row are as a strip's may be -/
def rOk (r : Row) : Prop := 0 ≤ rN r ∧ rN r ≤ 8 ∧ (0 ≤ rF r ∧ rF r ≤ 7) ∧ (0 ≤ rB r ∧ rB r ≤ 7) ∧ ∀ p : Int, 0 ≤ p → p < 8 → (0 ≤ rK r p ∧ rK r p ≤ 5) ∧ (0 ≤ rW r p ∧ rW r p ≤ 9) ∧ (0 ≤ rBe r p ∧ rBe r p ≤ 9) ∧ (0 ≤ rWe r p ∧ rWe r p ≤ 20) ∧ (0 ≤ rSh r p ∧ rSh r p ≤ 99) ∧ (0 ≤ rL r p ∧ rL r p ≤ 255) ∧ (p < rN r → 1 ≤ rK r p ∧ 1 ≤ rBe r p)
def sOk (D : Dat) (a : Nat) : Prop := rOk (rowX D a)
theorem sOk.n {D : Dat} {a : Nat} (h : sOk D a) : 0 ≤ D a 6 ∧ D a 6 ≤ 8 := ⟨h.1, h.2.1⟩
theorem sOk.f {D : Dat} {a : Nat} (h : sOk D a) : 0 ≤ D a 7 ∧ D a 7 ≤ 7 := h.2.2.1
theorem sOk.b {D : Dat} {a : Nat} (h : sOk D a) : 0 ≤ D a 8 ∧ D a 8 ≤ 7 := h.2.2.2.1
theorem sOk.at {D : Dat} {a : Nat} (h : sOk D a) {p : Int} (hp : 0 ≤ p ∧ p < 8) : (0 ≤ D (a + 1) p ∧ D (a + 1) p ≤ 5) ∧ (0 ≤ D (a + 2) p ∧ D (a + 2) p ≤ 9) ∧ (0 ≤ D (a + 3) p ∧ D (a + 3) p ≤ 9) ∧ (0 ≤ D (a + 4) p ∧ D (a + 4) p ≤ 20) ∧ (0 ≤ D (a + 5) p ∧ D (a + 5) p ≤ 99) ∧ (0 ≤ D (a + 6) p ∧ D (a + 6) p ≤ 255) ∧ (p < D a 6 → 1 ≤ D (a + 1) p ∧ 1 ≤ D (a + 3) p) := by
  have := h.2.2.2.2 p hp.1 hp.2
  rw [xK hp, xW hp, xBe hp, xWe hp, xSh hp, xL hp] at this
  exact this
def effK (kind shown : Int) : Int := if kind = 2 then 1 else if kind = 4 then 4 else if kind = 5 then (if 3 < shown then 1 else 4 - shown) else 2
def wearK (kind : Int) : Int := if kind = 3 then 2 else if kind = 4 ∨ kind = 5 then 0 else 1
abbrev hasP (r : Row) (p : Int) : Prop := 0 ≤ p ∧ p < rN r
def lnk (r : Row) (a b : Int) : Bool := tb (rL r a) b
/-- the first of the common neighbours on the way from one to another, as the class looks for it -/
def thGo (n both fr to : Int) : Nat → Int → Int
  | 0, _ => -4
  | f + 1, k => if n ≤ k then -4 else if (fr + k) % n = to then -4 else if tb both ((fr + k) % n) then (fr + k) % n else thGo n both fr to f (k + 1)
def band (x y : Int) : Int := ((x.toNat &&& y.toNat : Nat) : Int)
def thX (r : Row) (a b side : Int) : Int := if side = 0 then thGo (rN r) (band (rL r a) (rL r b)) a b 8 1 else thGo (rN r) (band (rL r a) (rL r b)) b a 8 1
theorem iAndB {x y : Int} (hx : 0 ≤ x ∧ x ≤ 255) (hy : 0 ≤ y ∧ y ≤ 255) : iAnd x y = band x y := by
  obtain ⟨a, rfl⟩ := toN hx.1
  obtain ⟨b, rfl⟩ := toN hy.1
  rw [iAnd_nat (by omega)]; rfl
theorem band_le {x y : Int} (hx : 0 ≤ x ∧ x ≤ 255) : 0 ≤ band x y ∧ band x y ≤ 255 := by
  unfold band
  have : x.toNat &&& y.toNat ≤ x.toNat := Nat.and_le_left
  omega
abbrev torn (r : Row) (p : Int) : Prop := hasP r p ∧ rBe r p ≤ rWe r p
theorem thGo_stop {n m f t k : Int} {fu : Nat} (h : n ≤ k) : thGo n m f t fu k = -4 := by
  cases fu with
  | zero => rfl
  | succ fu => rw [thGo, if_pos h]
theorem thGo_step {n m f t k : Int} (h : k ≤ 8) : thGo n m f t (9 - k).toNat k = if n ≤ k then -4 else if (f + k) % n = t then -4 else if tb m ((f + k) % n) then (f + k) % n else thGo n m f t (9 - (k + 1)).toNat (k + 1) := by
  rw [show (9 - k).toNat = (9 - (k + 1)).toNat + 1 by omega, thGo]
theorem thGo_in {n m f t : Int} (hn : 0 < n) : ∀ (fu : Nat) (k : Int), thGo n m f t fu k = -4 ∨ (0 ≤ thGo n m f t fu k ∧ thGo n m f t fu k < n)
  | 0, k => Or.inl rfl
  | fu + 1, k => by
    rw [thGo]
    have h1 := Int.emod_nonneg (f + k) (show n ≠ 0 by omega)
    have h2 := Int.emod_lt_of_pos (f + k) hn
    split
    · exact Or.inl rfl
    · split
      · exact Or.inl rfl
      · split
        · exact Or.inr ⟨h1, h2⟩
        · exact thGo_in hn fu (k + 1)
theorem thX_in {r : Row} {a b s : Int} (hn : 0 < rN r) : thX r a b s = -4 ∨ (0 ≤ thX r a b s ∧ thX r a b s < rN r) := by
  unfold thX
  split <;> exact thGo_in hn _ _
theorem in15 {k : Int} (h : 1 ≤ k ∧ k ≤ 5) : k = 1 ∨ k = 2 ∨ k = 3 ∨ k = 4 ∨ k = 5 := by omega
theorem stV1_le {k : Int} (h : 1 ≤ k ∧ k ≤ 5) : 0 ≤ stV 1 k.toNat ∧ stV 1 k.toNat ≤ 4 := by rcases in15 h with rfl | rfl | rfl | rfl | rfl <;> decide
theorem eff_fin {k s v : Int} (h : 1 ≤ k ∧ k ≤ 5) (hs : 0 ≤ s ∧ s ≤ 99) (hv : (k ≠ 5 ∧ v = stV 1 k.toNat) ∨ (k = 5 ∧ v = if 1 < stV 1 k.toNat - s then stV 1 k.toNat - s else 1)) : v = effK k s := by
  rcases in15 h with rfl | rfl | rfl | rfl | rfl
  · rcases hv with ⟨-, e⟩ | ⟨e, -⟩
    · exact e
    · omega
  · rcases hv with ⟨-, e⟩ | ⟨e, -⟩
    · exact e
    · omega
  · rcases hv with ⟨-, e⟩ | ⟨e, -⟩
    · exact e
    · omega
  · rcases hv with ⟨-, e⟩ | ⟨e, -⟩
    · exact e
    · omega
  · rcases hv with ⟨e, -⟩ | ⟨-, e⟩
    · omega
    · rw [show stV 1 (5 : Int).toNat = 4 from rfl] at e
      have e2 : effK 5 s = if 3 < s then 1 else 4 - s := rfl
      rw [e, e2]
      split <;> split <;> omega
theorem wear_fin {k : Int} (h : 1 ≤ k ∧ k ≤ 5) : stV 2 k.toNat = wearK k := by rcases in15 h with rfl | rfl | rfl | rfl | rfl <;> decide
theorem effK_in {k s : Int} (hs : 0 ≤ s) : 1 ≤ effK k s ∧ effK k s ≤ 4 := by
  unfold effK
  split
  · omega
  · split
    · omega
    · split
      · split <;> omega
      · omega
theorem wearK_in (k : Int) : 0 ≤ wearK k ∧ wearK k ≤ 2 := by
  unfold wearK
  split
  · omega
  · split <;> omega
/-- nothing but n cells from a on has changed -/
def frm (a n : Nat) (D D1 : Dat) : Prop := ∀ c, (c < a ∨ a + n ≤ c) → D1 c = D c
theorem frm.rf {a n : Nat} {D : Dat} : frm a n D D := fun _ _ => rfl
theorem frm.tr {a n : Nat} {D D1 D2 : Dat} (h1 : frm a n D D1) (h2 : frm a n D1 D2) : frm a n D D2 := fun c hc => (h2 c hc).trans (h1 c hc)
theorem frm.up {a n b : Nat} {D D1 : Dat} {i v : Int} (h : frm a n D D1) (hb : a ≤ b ∧ b < a + n) : frm a n D (upD D1 b i v) := fun c hc => by rw [upD_other (by omega)]; exact h c hc
theorem frm.cp {a n b a0 : Nat} {D D1 : Dat} {s i v : Int} (h : frm a n D D1) (hb : a ≤ b ∧ b < a + n) : frm a n D (cpD D1 a0 s b i v) := fun c hc => by
  have : cpD D1 a0 s b i v c = D1 c := by funext j; simp [cpD, show c ≠ b by omega]
  rw [this]; exact h c hc
theorem frm.row {a n b : Nat} {D D1 : Dat} (h : frm a n D D1) (hb : b + 7 ≤ a ∨ a + n ≤ b) : rowX D1 b = rowX D b := by
  unfold rowX
  rw [h b (by omega), h (b + 1) (by omega), h (b + 2) (by omega), h (b + 3) (by omega), h (b + 4) (by omega), h (b + 5) (by omega), h (b + 6) (by omega)]
theorem rowX_len (D : Dat) (a : Nat) : (rowX D a).length = 52 := rfl
theorem upD_s {D : Dat} {a : Nat} {i v : Int} : upD D a i v a i = v := by simp [upD]
theorem upD_n {D : Dat} {a b : Nat} {i j v : Int} (h : b ≠ a ∨ j ≠ i) : upD D a i v b j = D b j := by
  unfold upD
  split
  · split
    · omega
    · rfl
  · rfl
theorem oct_up {D : Dat} {a b : Nat} {i v : Int} (h : b ≠ a) : oct (upD D a i v b) = oct (D b) := by rw [upD_other h]
theorem oct_set {D : Dat} {b : Nat} {p v : Int} (h : 0 ≤ p ∧ p < 8) : oct (upD D b p v b) = (oct (D b)).set p.toNat v := by
  unfold oct
  rcases in8 h with rfl | rfl | rfl | rfl | rfl | rfl | rfl | rfl <;> simp [upD]
theorem rx_n {D : Dat} {a : Nat} {v : Int} : rowX (upD D a 6 v) a = (rowX D a).set 0 v := by
  unfold rowX
  rw [oct_up (by omega), oct_up (by omega), oct_up (by omega), oct_up (by omega), oct_up (by omega), oct_up (by omega), upD_s, upD_n (Or.inr (by omega)), upD_n (Or.inr (by omega)), upD_n (Or.inr (by omega))]; rfl
theorem rx_f {D : Dat} {a : Nat} {v : Int} : rowX (upD D a 7 v) a = (rowX D a).set 1 v := by
  unfold rowX
  rw [oct_up (by omega), oct_up (by omega), oct_up (by omega), oct_up (by omega), oct_up (by omega), oct_up (by omega), upD_s, upD_n (Or.inr (by omega)), upD_n (Or.inr (by omega)), upD_n (Or.inr (by omega))]; rfl
theorem rx_b {D : Dat} {a : Nat} {v : Int} : rowX (upD D a 8 v) a = (rowX D a).set 2 v := by
  unfold rowX
  rw [oct_up (by omega), oct_up (by omega), oct_up (by omega), oct_up (by omega), oct_up (by omega), oct_up (by omega), upD_s, upD_n (Or.inr (by omega)), upD_n (Or.inr (by omega)), upD_n (Or.inr (by omega))]; rfl
theorem rx_e {D : Dat} {a : Nat} {v : Int} : rowX (upD D a 9 v) a = (rowX D a).set 3 v := by
  unfold rowX
  rw [oct_up (by omega), oct_up (by omega), oct_up (by omega), oct_up (by omega), oct_up (by omega), oct_up (by omega), upD_s, upD_n (Or.inr (by omega)), upD_n (Or.inr (by omega)), upD_n (Or.inr (by omega))]; rfl
theorem rx_K {D : Dat} {a : Nat} {p v : Int} (h : 0 ≤ p ∧ p < 8) : rowX (upD D (a + 1) p v) a = (rowX D a).set (4 + p.toNat) v := by
  unfold rowX
  rw [oct_set h, oct_up (by omega), oct_up (by omega), oct_up (by omega), oct_up (by omega), oct_up (by omega), upD_n (Or.inl (by omega)), upD_n (Or.inl (by omega)), upD_n (Or.inl (by omega)), upD_n (Or.inl (by omega))]
  rcases in8 h with rfl | rfl | rfl | rfl | rfl | rfl | rfl | rfl <;> rfl
theorem rx_W {D : Dat} {a : Nat} {p v : Int} (h : 0 ≤ p ∧ p < 8) : rowX (upD D (a + 2) p v) a = (rowX D a).set (12 + p.toNat) v := by
  unfold rowX
  rw [oct_up (by omega), oct_set h, oct_up (by omega), oct_up (by omega), oct_up (by omega), oct_up (by omega), upD_n (Or.inl (by omega)), upD_n (Or.inl (by omega)), upD_n (Or.inl (by omega)), upD_n (Or.inl (by omega))]
  rcases in8 h with rfl | rfl | rfl | rfl | rfl | rfl | rfl | rfl <;> rfl
theorem rx_Be {D : Dat} {a : Nat} {p v : Int} (h : 0 ≤ p ∧ p < 8) : rowX (upD D (a + 3) p v) a = (rowX D a).set (20 + p.toNat) v := by
  unfold rowX
  rw [oct_up (by omega), oct_up (by omega), oct_set h, oct_up (by omega), oct_up (by omega), oct_up (by omega), upD_n (Or.inl (by omega)), upD_n (Or.inl (by omega)), upD_n (Or.inl (by omega)), upD_n (Or.inl (by omega))]
  rcases in8 h with rfl | rfl | rfl | rfl | rfl | rfl | rfl | rfl <;> rfl
theorem rx_We {D : Dat} {a : Nat} {p v : Int} (h : 0 ≤ p ∧ p < 8) : rowX (upD D (a + 4) p v) a = (rowX D a).set (28 + p.toNat) v := by
  unfold rowX
  rw [oct_up (by omega), oct_up (by omega), oct_up (by omega), oct_set h, oct_up (by omega), oct_up (by omega), upD_n (Or.inl (by omega)), upD_n (Or.inl (by omega)), upD_n (Or.inl (by omega)), upD_n (Or.inl (by omega))]
  rcases in8 h with rfl | rfl | rfl | rfl | rfl | rfl | rfl | rfl <;> rfl
theorem rx_Sh {D : Dat} {a : Nat} {p v : Int} (h : 0 ≤ p ∧ p < 8) : rowX (upD D (a + 5) p v) a = (rowX D a).set (36 + p.toNat) v := by
  unfold rowX
  rw [oct_up (by omega), oct_up (by omega), oct_up (by omega), oct_up (by omega), oct_set h, oct_up (by omega), upD_n (Or.inl (by omega)), upD_n (Or.inl (by omega)), upD_n (Or.inl (by omega)), upD_n (Or.inl (by omega))]
  rcases in8 h with rfl | rfl | rfl | rfl | rfl | rfl | rfl | rfl <;> rfl
theorem rx_L {D : Dat} {a : Nat} {p v : Int} (h : 0 ≤ p ∧ p < 8) : rowX (upD D (a + 6) p v) a = (rowX D a).set (44 + p.toNat) v := by
  unfold rowX
  rw [oct_up (by omega), oct_up (by omega), oct_up (by omega), oct_up (by omega), oct_up (by omega), oct_set h, upD_n (Or.inl (by omega)), upD_n (Or.inl (by omega)), upD_n (Or.inl (by omega)), upD_n (Or.inl (by omega))]
  rcases in8 h with rfl | rfl | rfl | rfl | rfl | rfl | rfl | rfl <;> rfl
theorem rg_set {r : Row} {k j : Nat} {p v : Int} (hl : r.length = 52) (hk : k + p.toNat < 52) : rg (r.set j v) k p = if k + p.toNat = j then v else rg r k p := by
  unfold rg
  rw [List.getD_eq_getElem?_getD, List.getD_eq_getElem?_getD, List.getElem?_set]
  by_cases h : j = k + p.toNat
  · rw [if_pos h, if_pos h.symm, if_pos (by omega)]; rfl
  · rw [if_neg h, if_neg (fun e => h e.symm)]
theorem set_len {r : Row} {j : Nat} {v : Int} (hl : r.length = 52) : (r.set j v).length = 52 := by simpa using hl
theorem rowM_len (D : Dat) (c : Nat) (o : Int) : (rowM D c o).length = 52 := by simp [rowM]
theorem rowM_up {D : Dat} {c : Nat} {o i v : Int} (h : o ≤ i ∧ i < o + 52) : rowM (upD D c i v) c o = (rowM D c o).set (i - o).toNat v := by
  apply List.ext_getElem?
  intro j
  by_cases hj : j < 52
  · unfold rowM
    rw [List.getElem?_set, List.getElem?_map, List.getElem?_map, List.getElem?_range hj]
    simp only [Option.map_some, List.length_map, List.length_range]
    by_cases h2 : (i - o).toNat = j
    · rw [if_pos h2, if_pos (by omega), show o + (j : Int) = i by omega, upD_s]
    · rw [if_neg h2, upD_n (Or.inr (by omega))]
  · rw [List.getElem?_eq_none (by rw [rowM_len]; omega), List.getElem?_eq_none (by rw [set_len (rowM_len D c o)]; omega)]
theorem rowM_up_o {D : Dat} {c b : Nat} {o i v : Int} (h : b ≠ c ∨ i < o ∨ o + 52 ≤ i) : rowM (upD D b i v) c o = rowM D c o := by
  unfold rowM
  apply List.map_congr_left
  intro j hj
  have := List.mem_range.mp hj
  exact upD_n (by omega)

