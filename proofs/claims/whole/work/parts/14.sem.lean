/-! tape, sheets, kinds, history: what is told of them -/
def tAt (D : Dat) (p : Int) : Int := if 0 ≤ p ∧ p < D 1 1 then D 2 p else -1
def tOk (D : Dat) : Prop := 0 ≤ D 1 1 ∧ D 1 1 ≤ 80 ∧ ∀ p : Int, 0 ≤ p → p < 80 → 0 ≤ D 2 p ∧ D 2 p ≤ 255
theorem tAt_in {D : Dat} (h : tOk D) (p : Int) : -1 ≤ tAt D p ∧ tAt D p ≤ 255 := by
  unfold tAt
  split
  · have := h.2.2 p (by omega) (by have := h.2.1; omega)
    omega
  · omega
def shOk (D : Dat) (s : Nat) : Prop := (-1 ≤ D s 1 ∧ D s 1 ≤ 3) ∧ (0 ≤ D s 2 ∧ D s 2 ≤ 24) ∧ ∀ i : Int, 0 ≤ i → i < 24 → -9223372036854775808 ≤ D (s + 1) i ∧ D (s + 1) i ≤ 9223372036854775807
def spn (size i n : Int) : Prop := 0 ≤ n ∧ n ≤ size ∧ 0 ≤ i ∧ i ≤ size - n
theorem spn_dec (size i n : Int) : spn size i n ∨ ¬ spn size i n := Classical.em _
def refS (lane size want i n : Int) : Int := if lane = -1 then -11 else if lane ≠ want then -12 else if 0 ≤ n ∧ n ≤ size ∧ 0 ≤ i ∧ i ≤ size - n then 0 else -13
def cutL (lane v : Int) : Int := if lane = 0 then toB v else if lane = 1 then toS v else if lane = 2 then w32 v else v
theorem cutL_in {lane v : Int} (hv : -9223372036854775808 ≤ v ∧ v ≤ 9223372036854775807) : -9223372036854775808 ≤ cutL lane v ∧ cutL lane v ≤ 9223372036854775807 := by
  have h1 := toB_in v
  have h2 := toS_in v
  have h3 := w32_in v
  unfold cutL
  repeat' split
  all_goals omega
def kindL (x : Int) : Int := if x = 112 then 1 else if x = 103 then 2 else if x = 116 then 3 else if x = 115 then 4 else if x = 98 then 5 else -4
def undK (k q : Int) : Prop := q = 0 ∨ k = q ∨ (q = 1 ∧ (k = 2 ∨ k = 3)) ∨ (q = 4 ∧ k = 5)
theorem over_spec {t : Int} (h : 0 ≤ t ∧ t ≤ 5) : (t = 0 ∧ stV 0 t.toNat = -4) ∨ ((t = 1 ∨ t = 4) ∧ stV 0 t.toNat = 0) ∨ ((t = 2 ∨ t = 3) ∧ stV 0 t.toNat = 1) ∨ (t = 5 ∧ stV 0 t.toNat = 4) := by
  have : t = 0 ∨ t = 1 ∨ t = 2 ∨ t = 3 ∨ t = 4 ∨ t = 5 := by omega
  rcases this with rfl | rfl | rfl | rfl | rfl | rfl
  · exact Or.inl ⟨rfl, rfl⟩
  · exact Or.inr (Or.inl ⟨Or.inl rfl, rfl⟩)
  · exact Or.inr (Or.inr (Or.inl ⟨Or.inl rfl, rfl⟩))
  · exact Or.inr (Or.inr (Or.inl ⟨Or.inr rfl, rfl⟩))
  · exact Or.inr (Or.inl ⟨Or.inr rfl, rfl⟩)
  · exact Or.inr (Or.inr (Or.inr ⟨rfl, rfl⟩))
def takeF (s e : Int) : Int → Bool := fun k => decide (1 ≤ k ∧ effK k s = e)
def takeS (s e : Int) : Int := setOf (takeF s e) 6
/-- the set of kinds that pairs allow, as the class looks at them one by one; -2 where a pair is none -/
def fitX (f : Int → Int) : Nat → Int → Int → Int
  | 0, _, set => set
  | n + 1, i, set => if f i < 0 ∨ 99 < f i then -2 else fitX f n (i + 2) (band set (takeS (f i) (f (i + 1))))
def popc (x : Int) : Int := (if tb x 0 then 1 else 0) + (if tb x 1 then 1 else 0) + (if tb x 2 then 1 else 0) + (if tb x 3 then 1 else 0) + (if tb x 4 then 1 else 0) + (if tb x 5 then 1 else 0)
def bitE (x : Int) : Int :=
  let a := x - iAnd (iUshr x 1) 1431655765
  let b := iAnd a 858993459 + iAnd (iUshr a 2) 858993459
  let c := iAnd (b + iUshr b 4) 252645135
  let d := c + iUshr c 8
  let e := d + iUshr d 16
  iAnd e 63
theorem bit_tab : ∀ x, x < 64 → bitE ((x : Nat) : Int) = popc x := by decide +kernel
theorem bit_eq {x : Int} (h : 0 ≤ x ∧ x < 64) : bitE x = popc x := by
  obtain ⟨n, rfl⟩ := toN h.1
  exact bit_tab n (by omega)
def greatX (set s : Int) : Nat → Int
  | 0 => 0
  | k + 1 => if greatX set s k < popc (band set (takeS s (effK (k + 1) s))) then popc (band set (takeS s (effK (k + 1) s))) else greatX set s k
def bestX (set : Int) : Nat → Int
  | 0 => 0
  | k + 1 => if greatX set (k + 1) 5 < greatX set (bestX set k) 5 then k + 1 else bestX set k
theorem setOf_in6 (f : Int → Bool) (hf : f 0 = false) : ∀ k, k ≤ 6 → 0 ≤ setOf f k ∧ setOf f k ≤ 63
  | 0, _ => by rw [setOf]; omega
  | k + 1, h => by
    have ih := setOf_in6 f hf k (by omega)
    rw [setOf]
    split
    · have := sb_lt (m := 6) (x := setOf f k) (k := (k : Int)) (by omega) (by omega)
      omega
    · exact ih
theorem takeS_in (s e : Int) : 0 ≤ takeS s e ∧ takeS s e ≤ 63 := setOf_in6 _ rfl 6 (by omega)
theorem band_63 {x y : Int} (hx : 0 ≤ x ∧ x ≤ 63) : 0 ≤ band x y ∧ band x y ≤ 63 := by
  unfold band
  have : x.toNat &&& y.toNat ≤ x.toNat := Nat.and_le_left
  omega
theorem popc_in (x : Int) : 0 ≤ popc x ∧ popc x ≤ 6 := by
  unfold popc
  repeat' split
  all_goals omega
theorem greatX_in (set s : Int) : ∀ k, 0 ≤ greatX set s k ∧ greatX set s k ≤ 6
  | 0 => by rw [greatX]; omega
  | k + 1 => by
    have := popc_in (band set (takeS s (effK (k + 1) s)))
    have := greatX_in set s k
    rw [greatX]
    split <;> omega
theorem bestX_in (set : Int) : ∀ k, 0 ≤ bestX set k ∧ bestX set k ≤ k
  | 0 => by rw [bestX]; omega
  | k + 1 => by
    have := bestX_in set k
    rw [bestX]
    split <;> omega
def hOk (D : Dat) : Prop := (0 ≤ D 18 1 ∧ D 18 1 < 24) ∧ (0 ≤ D 18 2 ∧ D 18 2 ≤ 24)
theorem hHist {k : Int} (h : 0 ≤ k ∧ k < 24) : Fx 19 k.toNat = some (stHist k.toNat) ∧ isStrip (stHist k.toNat) := tHist k.toNat (by omega)
