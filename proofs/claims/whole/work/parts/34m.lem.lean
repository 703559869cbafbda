/-- what is noted ahead of an act -/
def notQ (D D1 : Dat) : Prop := (∀ c, c ≠ 283 → c ≠ 287 → D1 c = D c) ∧ (∀ j : Int, j ≠ 6 → D1 283 j = D 283 j) ∧ (D 283 6 = 24 → D1 283 6 = 24 ∧ (∀ i : Int, 0 ≤ i → i < 1196 → D1 287 i = D 287 (i + 52)) ∧ ∀ i : Int, 0 ≤ i → i < 52 → D1 287 (1196 + i) = D 284 i) ∧ (D 283 6 ≠ 24 → D1 283 6 = D 283 6 + 1 ∧ (∀ i : Int, 0 ≤ i → i < 52 * D 283 6 → D1 287 i = D 287 i) ∧ ∀ i : Int, 0 ≤ i → i < 52 → D1 287 (52 * D 283 6 + i) = D 284 i)
/-- the rows moved one ahead -/
def shiF (D E : Dat) (k : Int) : Prop := (∀ i : Int, 0 ≤ i → i < k - 52 → E 287 i = D 287 (i + 52)) ∧ (∀ i : Int, k - 52 ≤ i → E 287 i = D 287 i) ∧ ∀ c, c ≠ 287 → E c = D c
theorem shiF.z {D : Dat} : shiF D D 52 := ⟨fun i h0 h1 => by omega, fun _ _ => rfl, fun _ _ => rfl⟩
theorem shiF.s {D E : Dat} {k v : Int} (h : shiF D E k) (hk : 52 ≤ k) (hv : v = E 287 k) : shiF D (upD E 287 (k - 52) v) (k + 1) := by
  refine ⟨fun i h0 h1 => ?_, fun i hi => ?_, fun c hc => (upD_other hc).trans (h.2.2 c hc)⟩
  · by_cases e : i = k - 52
    · rw [e, upD_s, hv, h.2.1 k (by omega)]; congr 1; omega
    · rw [upD_n (Or.inr e)]; exact h.1 i h0 (by omega)
  · rw [upD_n (Or.inr (by omega))]; exact h.2.1 i (by omega)
