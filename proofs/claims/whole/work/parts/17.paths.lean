/-! where moves lead while nothing wears: spots are 8 * front + back -/
def nxR (r : Row) (z m : Int) : Int :=
  if (0 ≤ z / 8 ∧ z / 8 < rN r) ∧ (0 ≤ z % 8 ∧ z % 8 < rN r) ∧ tb (rL r (z / 8)) (z % 8) = true then
    (if m = 2 then z % 8 * 8 + z / 8 else
     if thX r (z / 8) (z % 8) m < 0 ∨ ((0 ≤ thX r (z / 8) (z % 8) m ∧ thX r (z / 8) (z % 8) m < rN r) ∧ rBe r (thX r (z / 8) (z % 8) m) ≤ rWe r (thX r (z / 8) (z % 8) m)) then -4 else thX r (z / 8) (z % 8) m * 8 + z / 8)
  else -4
def bhR (r : Row) (z m : Int) : Int := if 0 ≤ z ∧ z < 64 ∧ 0 ≤ m ∧ m ≤ 2 then nxR r z m else -4
theorem nxR_in {r : Row} {z m : Int} (hn : rN r ≤ 8) : nxR r z m = -4 ∨ (0 ≤ nxR r z m ∧ nxR r z m < 64) := by
  unfold nxR
  split
  · rename_i h
    have hi := thX_in (r := r) (a := z / 8) (b := z % 8) (s := m) (by omega)
    split
    · right; omega
    · split
      · left; rfl
      · right; omega
  · left; rfl
theorem strOutTab : stripL.all (fun a => decide (a + 7 ≤ 190 ∨ 196 ≤ a)) = true := by decide +kernel
theorem strOut {a : Nat} (h : isStrip a) : a + 7 ≤ 190 ∨ 196 ≤ a := by
  have := List.all_eq_true.mp strOutTab a h
  simpa using this
theorem nx_a {r : Row} {z m f b : Int} (hf : f = z / 8) (hb : b = z % 8) (h : ¬ ((0 ≤ f ∧ f < rN r) ∧ (0 ≤ b ∧ b < rN r) ∧ tb (rL r f) b = true)) : -4 = nxR r z m := by
  unfold nxR; rw [← hf, ← hb, if_neg h]
theorem nx_t {r : Row} {z m f b : Int} (hf : f = z / 8) (hb : b = z % 8) (h : (0 ≤ f ∧ f < rN r) ∧ (0 ≤ b ∧ b < rN r) ∧ tb (rL r f) b = true) (hm : m = 2) : b * 8 + f = nxR r z m := by
  unfold nxR; rw [← hf, ← hb, if_pos h, if_pos hm]
theorem nx_n {r : Row} {z m f b t : Int} (hf : f = z / 8) (hb : b = z % 8) (h : (0 ≤ f ∧ f < rN r) ∧ (0 ≤ b ∧ b < rN r) ∧ tb (rL r f) b = true) (hm : m ≠ 2) (ht : t = thX r f b m) (h2 : t < 0 ∨ ((0 ≤ t ∧ t < rN r) ∧ rBe r t ≤ rWe r t)) : -4 = nxR r z m := by
  unfold nxR; rw [← hf, ← hb, if_pos h, if_neg hm, ← ht, if_pos h2]
theorem nx_s {r : Row} {z m f b t : Int} (hf : f = z / 8) (hb : b = z % 8) (h : (0 ≤ f ∧ f < rN r) ∧ (0 ≤ b ∧ b < rN r) ∧ tb (rL r f) b = true) (hm : m ≠ 2) (ht : t = thX r f b m) (h2 : ¬ (t < 0 ∨ ((0 ≤ t ∧ t < rN r) ∧ rBe r t ≤ rWe r t))) : t * 8 + f = nxR r z m := by
  unfold nxR; rw [← hf, ← hb, if_pos h, if_neg hm, ← ht, if_neg h2]
