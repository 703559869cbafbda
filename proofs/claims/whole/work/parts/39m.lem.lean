/-! ways: what a step costs, how far it is -/
def stepC (u : Int) (r : Row) (z m : Int) : Int := (if m = 2 then u else u * effK (rK r (bhR r z m / 8)) (rSh r (bhR r z m / 8))) + 1
def cstL (u far : Int) (r : Row) (L : Int → Int) (z m : Int) : Int := if bhR r z m < 0 then far else stepC u r z m + L (bhR r z m)
def meI (r : Row) (p u far : Int) (L : Int → Int) : Prop :=
  (∀ z : Int, 0 ≤ z → z < 64 → 0 ≤ L z ∧ L z ≤ far) ∧ (∀ z : Int, 0 ≤ z → z < 64 → z / 8 = p → L z = 0) ∧
  ∀ z : Int, 0 ≤ z → z < 64 → z / 8 ≠ p → L z < far → ∃ m : Int, 0 ≤ m ∧ m ≤ 2 ∧ 0 ≤ bhR r z m ∧ stepC u r z m + L (bhR r z m) ≤ L z
def meF (r : Row) (u : Int) (L : Int → Int) (z : Int) : Prop := ∀ m : Int, 0 ≤ m → m ≤ 2 → 0 ≤ bhR r z m → L z ≤ stepC u r z m + L (bhR r z m)
def mDist (r : Row) (p u far : Int) (L : Int → Int) : Prop := meI r p u far L ∧ ∀ z : Int, zOk r z → meF r u L z
theorem stepC_in {u : Int} {r : Row} {z m : Int} (hu : 1 ≤ u) (ho : rOk r) (hz : 0 ≤ bhR r z m) : 2 ≤ stepC u r z m ∧ stepC u r z m ≤ 4 * u + 1 := by
  have h8 := ho.2.1
  have hi := bhR_in (r := r) (z := z) (m := m) h8
  have hs := (ho.2.2.2.2 (bhR r z m / 8) (by omega) (by omega)).2.2.2.2.1
  have he := effK_in (k := rK r (bhR r z m / 8)) (s := rSh r (bhR r z m / 8)) hs.1
  unfold stepC
  split
  · omega
  · generalize effK (rK r (bhR r z m / 8)) (rSh r (bhR r z m / 8)) = e at *
    have h1 : u * 1 ≤ u * e := Int.mul_le_mul_of_nonneg_left he.1 (by omega)
    have h2 : u * e ≤ u * 4 := Int.mul_le_mul_of_nonneg_left he.2 (by omega)
    omega
theorem cst_in {r : Row} {p u far : Int} {L : Int → Int} {z m : Int} (hu : 1 ≤ u) (hf : 0 ≤ far) (ho : rOk r) (h : meI r p u far L) : 0 ≤ cstL u far r L z m ∧ cstL u far r L z m ≤ far + 4 * u + 1 := by
  unfold cstL
  split
  · omega
  · have hi := bhR_in (r := r) (z := z) (m := m) ho.2.1
    have h1 := h.1 (bhR r z m) (by omega) (by omega)
    have h2 := stepC_in (u := u) (r := r) (z := z) (m := m) hu ho (by omega)
    omega
theorem me_up {r : Row} {p u far : Int} {L L2 : Int → Int} {z m v : Int} (hu : 1 ≤ u) (ho : rOk r) (h : meI r p u far L) (hz : 0 ≤ z ∧ z < 64) (hm : 0 ≤ m ∧ m ≤ 2) (hv : v = cstL u far r L z m) (hlt : v < L z) (h2 : ∀ y : Int, L2 y = if y = z then v else L y) : meI r p u far L2 := by
  obtain ⟨a, b, c⟩ := h
  have az := a z hz.1 hz.2
  have hb : 0 ≤ bhR r z m := by
    rcases Int.lt_or_le (bhR r z m) 0 with q | q
    · unfold cstL at hv; rw [if_pos q] at hv; omega
    · exact q
  have hi := bhR_in (r := r) (z := z) (m := m) ho.2.1
  have hst := stepC_in (u := u) (r := r) (z := z) (m := m) hu ho hb
  have ab := a (bhR r z m) (by omega) (by omega)
  unfold cstL at hv
  rw [if_neg (by omega)] at hv
  have hne : bhR r z m ≠ z := fun q => by rw [q] at hv; omega
  have hle : ∀ y : Int, L2 y ≤ L y := fun y => by
    rw [h2]; split
    · rename_i q; rw [q]; omega
    · omega
  refine ⟨fun y y0 y1 => ?_, fun y y0 y1 yp => ?_, fun y y0 y1 yp yl => ?_⟩
  · rw [h2]; split
    · omega
    · exact a y y0 y1
  · rw [h2]; split
    · rename_i q; rw [q] at yp; have := b z hz.1 hz.2 yp; omega
    · exact b y y0 y1 yp
  · by_cases q : y = z
    · subst q
      refine ⟨m, hm.1, hm.2, hb, ?_⟩
      rw [h2 (bhR r y m), if_neg hne, h2 y, if_pos rfl]; omega
    · rw [h2 y, if_neg q] at yl ⊢
      obtain ⟨n, n0, n1, n2, n3⟩ := c y y0 y1 yp yl
      have := hle (bhR r y n)
      exact ⟨n, n0, n1, n2, by omega⟩
theorem sumI_up {f g : Int → Int} {z v : Int} (h : ∀ y : Int, g y = if y = z then v else f y) : ∀ k : Nat, sumI g k = sumI f k + (if 0 ≤ z ∧ z < k then v - f z else 0)
  | 0 => by rw [if_neg (by omega)]; rfl
  | k + 1 => by
    rw [sumI, sumI, sumI_up h k, h k]
    by_cases q : (k : Int) = z
    · rw [if_neg (by omega), if_pos q, if_pos (by omega), q]; omega
    · rw [if_neg q]
      by_cases q2 : 0 ≤ z ∧ z < k
      · rw [if_pos q2, if_pos (by omega)]; omega
      · rw [if_neg q2, if_neg (by omega)]; omega
theorem sumI_le {f : Int → Int} {B : Int} : ∀ k : Nat, (∀ i : Int, 0 ≤ i → i < k → 0 ≤ f i ∧ f i ≤ B) → 0 ≤ sumI f k ∧ sumI f k ≤ k * B
  | 0, _ => by rw [sumI]; simp
  | k + 1, h => by
    have h1 := sumI_le (B := B) k (fun i h0 h1 => h i h0 (by omega))
    have h2 := h k (by omega) (by omega)
    rw [sumI, show ((k + 1 : Nat) : Int) * B = k * B + B by rw [Int.natCast_add, Int.add_mul]; simp]
    omega
/-- a look at one move of one spot -/
theorem me_step {r : Row} {p u far : Int} {E W : Dat} {c : Nat} {z m v : Int} (hu : 1 ≤ u) (ho : rOk r) (h : meI r p u far (E c)) (hz : 0 ≤ z ∧ z < 64) (hm : 0 ≤ m ∧ m ≤ 2) (hv : v = cstL u far r (E c) z m) (hW : (v < E c z ∧ W = upD E c z v) ∨ (¬ v < E c z ∧ W = E)) : meI r p u far (W c) ∧ (sumI (W c) 64 ≤ sumI (E c) 64 ∧ (v < E c z → sumI (W c) 64 + 1 ≤ sumI (E c) 64)) ∧ (¬ v < E c z → W = E) ∧ ∀ b, b ≠ c → W b = E b := by
  rcases hW with ⟨h1, h2⟩ | ⟨h1, h2⟩
  · have e : ∀ y : Int, W c y = if y = z then v else E c y := fun y => by
      rw [h2]
      by_cases q : y = z
      · rw [if_pos q, q, upD_s]
      · rw [if_neg q, upD_n (Or.inr q)]
    have s := sumI_up e 64
    rw [if_pos (by omega)] at s
    refine ⟨me_up hu ho h hz hm hv h1 e, ⟨by omega, fun _ => by omega⟩, fun q => absurd h1 q, fun b hb => by rw [h2, upD_other hb]⟩
  · subst h2
    exact ⟨h, ⟨Int.le_refl _, fun q => absurd q h1⟩, fun _ => rfl, fun _ _ => rfl⟩
theorem me_0 {r : Row} {p u far : Int} {L : Int → Int} (hf : 0 ≤ far) (h : ∀ z : Int, 0 ≤ z → z < 64 → L z = if z / 8 = p then 0 else far) : meI r p u far L := by
  refine ⟨fun z z0 z1 => ?_, fun z z0 z1 zp => ?_, fun z z0 z1 zp zl => ?_⟩
  · rw [h z z0 z1]; split <;> omega
  · rw [h z z0 z1, if_pos zp]
  · rw [h z z0 z1, if_neg zp] at zl; omega
theorem me_ex {r : Row} {p u far : Int} {L : Int → Int} {z : Int} (h : mDist r p u far L) (hz : zOk r z) (h0 : 0 < L z) (hl : L z < far) : ∃ m : Int, 0 ≤ m ∧ m ≤ 2 ∧ 0 ≤ bhR r z m ∧ cstL u far r L z m = L z := by
  have hp : z / 8 ≠ p := fun q => by have := h.1.2.1 z hz.1.1 hz.1.2 q; omega
  obtain ⟨m, m0, m1, m2, m3⟩ := h.1.2.2 z hz.1.1 hz.1.2 hp hl
  have := h.2 z hz m m0 m1 m2
  refine ⟨m, m0, m1, m2, ?_⟩
  unfold cstL
  rw [if_neg (by omega)]
  omega
/-- the first move of the best -/
def frsL (u far : Int) (r : Row) (L : Int → Int) (z : Int) : Int := if cstL u far r L z 0 = L z then 0 else if cstL u far r L z 1 = L z then 1 else 2
def wmv (u far : Int) (r : Row) (L : Int → Int) : Nat → Int → Int
  | 0, z => if L z ≤ 0 then -4 else frsL u far r L z
  | k + 1, z => if L z ≤ 0 then -4 else wmv u far r L k (bhR r z (frsL u far r L z))
theorem frs_eq {u far : Int} {r : Row} {L : Int → Int} {z m : Int} (hm : 0 ≤ m ∧ m ≤ 2) (h : cstL u far r L z m = L z) (hn : ∀ n : Int, 0 ≤ n → n < m → cstL u far r L z n ≠ L z) : m = frsL u far r L z := by
  unfold frsL
  by_cases h0 : m = 0
  · subst h0; rw [if_pos h]
  · rw [if_neg (hn 0 (by omega) (by omega))]
    by_cases h1 : m = 1
    · subst h1; rw [if_pos h]
    · rw [if_neg (hn 1 (by omega) (by omega))]; omega
theorem frs_ok {u far : Int} {r : Row} {p : Int} {L : Int → Int} {z : Int} (h : mDist r p u far L) (hz : zOk r z) (h0 : 0 < L z) (hl : L z < far) : (0 ≤ frsL u far r L z ∧ frsL u far r L z ≤ 2) ∧ cstL u far r L z (frsL u far r L z) = L z ∧ 0 ≤ bhR r z (frsL u far r L z) := by
  obtain ⟨m, m0, m1, m2, m3⟩ := me_ex h hz h0 hl
  have key : (0 ≤ frsL u far r L z ∧ frsL u far r L z ≤ 2) ∧ cstL u far r L z (frsL u far r L z) = L z := by
    unfold frsL
    split
    · rename_i q; exact ⟨by omega, q⟩
    · split
      · rename_i q; exact ⟨by omega, q⟩
      · rename_i q1 q2
        refine ⟨by omega, ?_⟩
        have : m = 2 := by
          have : m = 0 ∨ m = 1 ∨ m = 2 := by omega
          rcases this with q | q | q
          · subst q; exact absurd m3 q1
          · subst q; exact absurd m3 q2
          · exact q
        subst this; exact m3
  refine ⟨key.1, key.2, ?_⟩
  rcases Int.lt_or_le (bhR r z (frsL u far r L z)) 0 with q | q
  · have := key.2
    unfold cstL at this
    rw [if_pos q] at this
    omega
  · exact q
/-- what is told of a way -/
def wayA (u far : Int) (r : Row) (L : Int → Int) (z k : Int) : Int := if far ≤ L z then -4 else if k = -2 then L z / u else if k = -1 then L z % u else wmv u far r L k.toNat z
theorem wmv_0 {u far : Int} {r : Row} {L : Int → Int} {z k n x : Int} (h : x = wmv u far r L (k - n).toNat z) (h0 : L z ≤ 0) : x = -4 := by
  rw [h]
  cases (k - n).toNat with
  | zero => rw [wmv, if_pos h0]
  | succ j => rw [wmv, if_pos h0]
theorem wmv_e {u far : Int} {r : Row} {L : Int → Int} {z k n m x : Int} (h : x = wmv u far r L (k - n).toNat z) (h0 : 0 < L z) (hn : n = k) (hm : m = frsL u far r L z) : m = x := by
  rw [h, show (k - n).toNat = 0 by omega, wmv, if_neg (by omega), hm]
theorem wmv_s {u far : Int} {r : Row} {L : Int → Int} {z k n m x y : Int} (h : x = wmv u far r L (k - n).toNat z) (h0 : 0 < L z) (hn : n < k) (hm : m = frsL u far r L z) (hy : y = bhR r z m) : x = wmv u far r L (k - (n + 1)).toNat y := by
  rw [h, show (k - n).toNat = (k - (n + 1)).toNat + 1 by omega, wmv, if_neg (by omega), hy, hm]
