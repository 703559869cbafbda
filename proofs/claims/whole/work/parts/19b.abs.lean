/-! the state as both sides tell it -/
/-- a row without what it keeps of pictures that it doesn't have -/
def can (r : Row) : Row := (List.range 52).map (fun i => if i < 4 ∨ (((i - 4) % 8 : Nat) : Int) < rN r then r.getD i 0 else 0)
theorem can_len (r : Row) : (can r).length = 52 := by simp [can]
theorem can_get {r : Row} {i : Nat} (hi : i < 52) : (can r).getD i 0 = if i < 4 ∨ (((i - 4) % 8 : Nat) : Int) < rN r then r.getD i 0 else 0 := by
  unfold can
  rw [List.getD_eq_getElem?_getD, List.getElem?_map, List.getElem?_range hi]
  rfl
theorem can_lo {r : Row} {i : Int} (h : 0 ≤ i ∧ i < 4) : rg (can r) 0 i = rg r 0 i := by
  unfold rg
  rw [can_get (by omega), if_pos (Or.inl (by omega))]
theorem can_at {r : Row} {j : Nat} {p : Int} (hj : j = 4 ∨ j = 12 ∨ j = 20 ∨ j = 28 ∨ j = 36 ∨ j = 44) (hp : 0 ≤ p ∧ p < 8) : rg (can r) j p = if p < rN r then rg r j p else 0 := by
  unfold rg
  rw [can_get (by omega)]
  have e : (((j + p.toNat - 4) % 8 : Nat) : Int) = p := by omega
  rw [e]
  by_cases h : p < rN r
  · rw [if_pos (Or.inr h), if_pos h]
  · rw [if_neg (by omega), if_neg h]
theorem can_N (r : Row) : rN (can r) = rN r := can_lo (by omega)
theorem can_F (r : Row) : rF (can r) = rF r := can_lo (by omega)
theorem can_B (r : Row) : rB (can r) = rB r := can_lo (by omega)
theorem can_E (r : Row) : rE (can r) = rE r := can_lo (by omega)
theorem can_p {r : Row} {j : Nat} {p : Int} (hj : j = 4 ∨ j = 12 ∨ j = 20 ∨ j = 28 ∨ j = 36 ∨ j = 44) (hn : rN r ≤ 8) (hp : 0 ≤ p ∧ p < rN r) : rg (can r) j p = rg r j p := by
  rw [can_at hj (by omega), if_pos hp.2]
/-- rows alike: the same pictures, the same numbers of them -/
def rEq (r s : Row) : Prop := (∀ i : Int, 0 ≤ i → i < 4 → rg r 0 i = rg s 0 i) ∧ ∀ (j : Nat) (p : Int), (j = 4 ∨ j = 12 ∨ j = 20 ∨ j = 28 ∨ j = 36 ∨ j = 44) → 0 ≤ p → p < rN r → rg r j p = rg s j p
theorem can_eq {r s : Row} (hn : rN r ≤ 8) (h : rEq r s) : can r = can s := by
  have hN : rN r = rN s := h.1 0 (by omega) (by omega)
  apply List.ext_getElem?
  intro i
  by_cases hi : i < 52
  · have e : ∀ r : Row, (can r)[i]? = some ((can r).getD i 0) := fun r => by
      rw [List.getD_eq_getElem?_getD]
      have : i < (can r).length := by rw [can_len]; exact hi
      rw [List.getElem?_eq_getElem this]; rfl
    rw [e r, e s, can_get hi, can_get hi, ← hN]
    congr 1
    by_cases h4 : i < 4
    · rw [if_pos (Or.inl h4), if_pos (Or.inl h4)]
      have := h.1 (i : Int) (by omega) (by omega)
      unfold rg at this
      simpa using this
    · by_cases hc : (((i - 4) % 8 : Nat) : Int) < rN r
      · rw [if_pos (Or.inr hc), if_pos (Or.inr hc)]
        have := h.2 (i - (i - 4) % 8) ((((i - 4) % 8 : Nat)) : Int) (by omega) (by omega) hc
        unfold rg at this
        rw [Int.toNat_natCast, show i - (i - 4) % 8 + (i - 4) % 8 = i by omega] at this
        exact this
      · rw [if_neg (by omega), if_neg (by omega)]
  · rw [List.getElem?_eq_none (by rw [can_len]; omega), List.getElem?_eq_none (by rw [can_len]; omega)]
theorem can_rEq {r s : Row} (hn : rN r ≤ 8) (h : can r = can s) : rEq r s := by
  have hN : rN r = rN s := by rw [← can_N r, ← can_N s, h]
  refine ⟨fun i h0 h1 => ?_, fun j p hj h0 h1 => ?_⟩
  · rw [← can_lo (r := r) ⟨h0, h1⟩, ← can_lo (r := s) ⟨h0, h1⟩, h]
  · have e1 := can_p (r := r) hj hn ⟨h0, h1⟩
    have e2 := can_p (r := s) hj (by omega) ⟨h0, by omega⟩
    rw [← e1, ← e2, h]
