/-- what is noted ahead of an act -/
def notQ (D D1 : Dat) : Prop := (∀ c, c ≠ 283 → c ≠ 287 → D1 c = D c) ∧ (∀ j : Int, j ≠ 6 → D1 283 j = D 283 j) ∧ (D 283 6 = 24 → D1 283 6 = 24 ∧ (∀ i : Int, 0 ≤ i → i < 1196 → D1 287 i = D 287 (i + 52)) ∧ ∀ i : Int, 0 ≤ i → i < 52 → D1 287 (1196 + i) = D 284 i) ∧ (D 283 6 ≠ 24 → D1 283 6 = D 283 6 + 1 ∧ (∀ i : Int, 0 ≤ i → i < 52 * D 283 6 → D1 287 i = D 287 i) ∧ ∀ i : Int, 0 ≤ i → i < 52 → D1 287 (52 * D 283 6 + i) = D 284 i)
/-- the rows moved one ahead -/
def shiF (D E : Dat) (k : Int) : Prop := (∀ i : Int, 0 ≤ i → i < k - 52 → E 287 i = D 287 (i + 52)) ∧ (∀ i : Int, k - 52 ≤ i → E 287 i = D 287 i) ∧ ∀ c, c ≠ 287 → E c = D c
theorem shiF.z {D : Dat} : shiF D D 52 := ⟨fun i h0 h1 => by omega, fun _ _ => rfl, fun _ _ => rfl⟩
theorem shiF.s {D E : Dat} {k v : Int} (h : shiF D E k) (hk : 52 ≤ k) (hv : v = E 287 k) : shiF D (upD E 287 (k - 52) v) (k + 1) := by
  refine ⟨fun i h0 h1 => ?_, fun i hi => ?_, fun c hc => (upD_other hc).trans (h.2.2 c hc)⟩
  · by_cases e : i = k - 52
    · rw [e, upD_s, hv, h.2.1 k (by omega)]; congr 1; omega
    · rw [upD_n (Or.inr e)]; exact h.1 i h0 (by omega)
  · rw [upD_n (Or.inr (by omega))]; exact h.2.1 i (by omega)
def notW (D W : Dat) : Prop := (D 283 6 ≠ 24 ∧ W = D) ∨ (D 283 6 = 24 ∧ ∃ S, shiF D S 1248 ∧ W = upD S 283 6 23)
theorem not_e {D W E D1 : Dat} (ha : 0 ≤ D 283 6 ∧ D 283 6 ≤ 24) (hW : notW D W) (hc : cpF W E 287 (52 * W 283 6) 284 0 52) (h1 : D1 = upD E 283 6 (W 283 6 + 1)) : notQ D D1 := by
  have e0 : ∀ c, c ≠ 283 → D1 c = E c := fun c hc => by rw [h1, upD_other hc]
  have e6 : D1 283 6 = W 283 6 + 1 := by rw [h1, upD_s]
  have ej : ∀ j : Int, j ≠ 6 → D1 283 j = W 283 j := fun j hj => by rw [h1, upD_n (Or.inr hj), hc.2.2 283 (by omega)]
  have ec : ∀ i : Int, 0 ≤ i → i < 52 → D1 287 (52 * W 283 6 + i) = W 284 i := fun i h0 h2 => by
    rw [e0 287 (by omega), hc.1 i h0 h2]; congr 1; omega
  rcases hW with ⟨h, rfl⟩ | ⟨h, S, hS, rfl⟩
  · refine ⟨fun c c1 c2 => (e0 c c1).trans (hc.2.2 c c2), ej, fun z => absurd z h, fun _ => ⟨e6, fun i h0 h2 => ?_, ec⟩⟩
    rw [e0 287 (by omega)]; exact hc.2.1 i (Or.inl h2)
  · have s6 : upD S 283 6 23 283 6 = 23 := upD_s
    rw [s6] at e6 ec hc
    refine ⟨fun c c1 c2 => ?_, fun j hj => ?_, fun _ => ⟨by omega, fun i h0 h2 => ?_, fun i h0 h2 => ?_⟩, fun z => absurd h z⟩
    · rw [e0 c c1, hc.2.2 c c2, upD_other c1]; exact hS.2.2 c c2
    · rw [ej j hj, upD_n (Or.inr hj), hS.2.2 283 (by omega)]
    · rw [e0 287 (by omega), hc.2.1 i (Or.inl (by omega)), upD_other (by omega)]; exact hS.1 i h0 (by omega)
    · have := ec i h0 h2
      rw [upD_other (by omega), hS.2.2 284 (by omega)] at this
      exact this
