/-! a strip as a row of 52 numbers; what is told of it -/
abbrev Row : Type := List Int
def rg (r : Row) (k : Nat) (p : Int) : Int := r.getD (k + p.toNat) 0
abbrev rN (r : Row) : Int := rg r 0 0
abbrev rF (r : Row) : Int := rg r 0 1
abbrev rB (r : Row) : Int := rg r 0 2
abbrev rE (r : Row) : Int := rg r 0 3
abbrev rK (r : Row) (p : Int) : Int := rg r 4 p
abbrev rW (r : Row) (p : Int) : Int := rg r 12 p
abbrev rBe (r : Row) (p : Int) : Int := rg r 20 p
abbrev rWe (r : Row) (p : Int) : Int := rg r 28 p
abbrev rSh (r : Row) (p : Int) : Int := rg r 36 p
abbrev rL (r : Row) (p : Int) : Int := rg r 44 p
def oct (f : Int → Int) : List Int := [f 0, f 1, f 2, f 3, f 4, f 5, f 6, f 7]
def rowX (D : Dat) (a : Nat) : Row := [D a 6, D a 7, D a 8, D a 9] ++ (oct (D (a + 1)) ++ (oct (D (a + 2)) ++ (oct (D (a + 3)) ++ (oct (D (a + 4)) ++ (oct (D (a + 5)) ++ oct (D (a + 6)))))))
def rowM (D : Dat) (c : Nat) (o : Int) : Row := (List.range 52).map (fun i : Nat => D c (o + (i : Int)))
theorem in8 {p : Int} (h : 0 ≤ p ∧ p < 8) : p = 0 ∨ p = 1 ∨ p = 2 ∨ p = 3 ∨ p = 4 ∨ p = 5 ∨ p = 6 ∨ p = 7 := by omega
theorem xN (D : Dat) (a : Nat) : rN (rowX D a) = D a 6 := rfl
theorem xF (D : Dat) (a : Nat) : rF (rowX D a) = D a 7 := rfl
theorem xB (D : Dat) (a : Nat) : rB (rowX D a) = D a 8 := rfl
theorem xE (D : Dat) (a : Nat) : rE (rowX D a) = D a 9 := rfl
theorem xK {D : Dat} {a : Nat} {p : Int} (h : 0 ≤ p ∧ p < 8) : rK (rowX D a) p = D (a + 1) p := by rcases in8 h with rfl | rfl | rfl | rfl | rfl | rfl | rfl | rfl <;> rfl
theorem xW {D : Dat} {a : Nat} {p : Int} (h : 0 ≤ p ∧ p < 8) : rW (rowX D a) p = D (a + 2) p := by rcases in8 h with rfl | rfl | rfl | rfl | rfl | rfl | rfl | rfl <;> rfl
theorem xBe {D : Dat} {a : Nat} {p : Int} (h : 0 ≤ p ∧ p < 8) : rBe (rowX D a) p = D (a + 3) p := by rcases in8 h with rfl | rfl | rfl | rfl | rfl | rfl | rfl | rfl <;> rfl
theorem xWe {D : Dat} {a : Nat} {p : Int} (h : 0 ≤ p ∧ p < 8) : rWe (rowX D a) p = D (a + 4) p := by rcases in8 h with rfl | rfl | rfl | rfl | rfl | rfl | rfl | rfl <;> rfl
theorem xSh {D : Dat} {a : Nat} {p : Int} (h : 0 ≤ p ∧ p < 8) : rSh (rowX D a) p = D (a + 5) p := by rcases in8 h with rfl | rfl | rfl | rfl | rfl | rfl | rfl | rfl <;> rfl
theorem xL {D : Dat} {a : Nat} {p : Int} (h : 0 ≤ p ∧ p < 8) : rL (rowX D a) p = D (a + 6) p := by rcases in8 h with rfl | rfl | rfl | rfl | rfl | rfl | rfl | rfl <;> rfl
theorem rowM_get {D : Dat} {c : Nat} {o : Int} {k : Nat} {p : Int} (hp : 0 ≤ p) (hk : (k : Int) + p < 52) : rg (rowM D c o) k p = D c (o + (k + p)) := by
  unfold rg rowM
  rw [List.getD_eq_getElem?_getD, List.getElem?_map, List.getElem?_range (by omega)]
  simp only [Option.map_some, Option.getD_some]
  congr 1
  omega
/-- the numbers of a row are as a strip's may be -/
def rOk (r : Row) : Prop := 0 ≤ rN r ∧ rN r ≤ 8 ∧ (0 ≤ rF r ∧ rF r ≤ 7) ∧ (0 ≤ rB r ∧ rB r ≤ 7) ∧ ∀ p : Int, 0 ≤ p → p < 8 → (0 ≤ rK r p ∧ rK r p ≤ 5) ∧ (0 ≤ rW r p ∧ rW r p ≤ 9) ∧ (0 ≤ rBe r p ∧ rBe r p ≤ 9) ∧ (0 ≤ rWe r p ∧ rWe r p ≤ 20) ∧ (0 ≤ rSh r p ∧ rSh r p ≤ 99) ∧ (0 ≤ rL r p ∧ rL r p ≤ 255) ∧ (p < rN r → 1 ≤ rK r p ∧ 1 ≤ rBe r p)
def sOk (D : Dat) (a : Nat) : Prop := rOk (rowX D a)
theorem sOk.n {D : Dat} {a : Nat} (h : sOk D a) : 0 ≤ D a 6 ∧ D a 6 ≤ 8 := ⟨h.1, h.2.1⟩
theorem sOk.f {D : Dat} {a : Nat} (h : sOk D a) : 0 ≤ D a 7 ∧ D a 7 ≤ 7 := h.2.2.1
theorem sOk.b {D : Dat} {a : Nat} (h : sOk D a) : 0 ≤ D a 8 ∧ D a 8 ≤ 7 := h.2.2.2.1
theorem sOk.at {D : Dat} {a : Nat} (h : sOk D a) {p : Int} (hp : 0 ≤ p ∧ p < 8) : (0 ≤ D (a + 1) p ∧ D (a + 1) p ≤ 5) ∧ (0 ≤ D (a + 2) p ∧ D (a + 2) p ≤ 9) ∧ (0 ≤ D (a + 3) p ∧ D (a + 3) p ≤ 9) ∧ (0 ≤ D (a + 4) p ∧ D (a + 4) p ≤ 20) ∧ (0 ≤ D (a + 5) p ∧ D (a + 5) p ≤ 99) ∧ (0 ≤ D (a + 6) p ∧ D (a + 6) p ≤ 255) ∧ (p < D a 6 → 1 ≤ D (a + 1) p ∧ 1 ≤ D (a + 3) p) := by
  have := h.2.2.2.2 p hp.1 hp.2
  rw [xK hp, xW hp, xBe hp, xWe hp, xSh hp, xL hp] at this
  exact this
def effK (kind shown : Int) : Int := if kind = 2 then 1 else if kind = 4 then 4 else if kind = 5 then (if 3 < shown then 1 else 4 - shown) else 2
def wearK (kind : Int) : Int := if kind = 3 then 2 else if kind = 4 ∨ kind = 5 then 0 else 1
def hasP (r : Row) (p : Int) : Prop := 0 ≤ p ∧ p < rN r
def lnk (r : Row) (a b : Int) : Bool := tb (rL r a) b
/-- the first of the common neighbours on the way from one to another, as the class looks for it -/
def thGo (n both fr to : Int) : Nat → Int → Int
  | 0, _ => -4
  | f + 1, k => if n ≤ k then -4 else if (fr + k) % n = to then -4 else if tb both ((fr + k) % n) then (fr + k) % n else thGo n both fr to f (k + 1)
def band (x y : Int) : Int := ((x.toNat &&& y.toNat : Nat) : Int)
def thX (r : Row) (a b side : Int) : Int := if side = 0 then thGo (rN r) (band (rL r a) (rL r b)) a b 8 1 else thGo (rN r) (band (rL r a) (rL r b)) b a 8 1
theorem iAndB {x y : Int} (hx : 0 ≤ x ∧ x ≤ 255) (hy : 0 ≤ y ∧ y ≤ 255) : iAnd x y = band x y := by
  obtain ⟨a, rfl⟩ := toN hx.1
  obtain ⟨b, rfl⟩ := toN hy.1
  rw [iAnd_nat (by omega)]; rfl
theorem band_le {x y : Int} (hx : 0 ≤ x ∧ x ≤ 255) : 0 ≤ band x y ∧ band x y ≤ 255 := by
  unfold band
  have : x.toNat &&& y.toNat ≤ x.toNat := Nat.and_le_left
  omega
def torn (r : Row) (p : Int) : Prop := hasP r p ∧ rBe r p ≤ rWe r p
