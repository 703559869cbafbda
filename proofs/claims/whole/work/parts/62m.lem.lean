/-! the law from its begin: both are made, then the loop -/
theorem zR_x0 {D : Dat} {a : Nat} (h : ∀ c, a ≤ c → c < a + 7 → ∀ i, D c i = 0) : rowX D a = zR := by
  unfold rowX oct
  rw [h a (by omega) (by omega), h a (by omega) (by omega), h a (by omega) (by omega), h a (by omega) (by omega)]
  simp only [h (a + 1) (by omega) (by omega), h (a + 2) (by omega) (by omega), h (a + 3) (by omega) (by omega), h (a + 4) (by omega) (by omega), h (a + 5) (by omega) (by omega), h (a + 6) (by omega) (by omega)]
  rfl
theorem zR_m0 {D : Dat} {c : Nat} {o : Int} (h : ∀ i, D c i = 0) : rowM D c o = zR := by
  unfold rowM zR
  simp only [h]
  rfl
theorem zR_R : rR zR zR := ⟨⟨⟨⟨rfl, rfl⟩, ⟨zR_ok, zR_ok⟩, ⟨rfl, rfl, rfl, rfl⟩, fun _ _ _ => ⟨rfl, rfl, rfl, rfl, rfl⟩⟩, fun _ _ _ => rfl⟩, Or.inl rfl⟩
def D0 : Dat := mdD (shD (fun _ _ => 0) 4) 4
theorem D0_at (c : Nat) (j : Int) : D0 c j = if c = 295 then (if 0 ≤ j ∧ j < 4 then -1 else 0) else if c = 275 ∨ c = 277 ∨ c = 279 ∨ c = 281 then (if j = 1 then -1 else 0) else 0 := by
  unfold D0
  simp only [mdD, shD]
  unfold upD
  by_cases h : c = 295
  · subst h
    rw [if_pos rfl]
    simp only [if_pos rfl]
    by_cases h4 : 0 ≤ j ∧ j < 4
    · rw [if_pos h4]
      have : j = 0 ∨ j = 1 ∨ j = 2 ∨ j = 3 := by omega
      rcases this with rfl | rfl | rfl | rfl <;> rfl
    · rw [if_neg h4]
      repeat' split
      all_goals first | rfl | omega
  · rw [if_neg h]
    simp only [if_neg h]
    repeat' split
    all_goals first | rfl | omega
theorem D0_z {c : Nat} (h : c ≠ 295) (h2 : c < 275 ∨ 283 ≤ c) (j : Int) : D0 c j = 0 := by
  rw [D0_at, if_neg h, if_neg (by omega)]
theorem I2_0 : I2 D0 D0 := by
  have hz : ∀ a, a + 7 ≤ 275 → rowX D0 a = zR := fun a ha => zR_x0 (fun c c0 c1 i => D0_z (by omega) (by omega) i)
  refine ⟨⟨?_, ⟨?_, ?_, fun p _ _ => ?_⟩, fun i _ _ => ?_⟩, ?_, ⟨⟨?_, ?_⟩, ?_, fun k k0 k1 => ?_⟩, fun k k0 k1 => ?_, fun s s0 s1 => ?_, ?_, ?_⟩
  · rw [D0_z (by decide) (by decide), D0_z (by decide) (by decide)]
  · rw [D0_z (by decide) (by decide)]; decide
  · rw [D0_z (by decide) (by decide)]; decide
  · rw [D0_z (by decide) (by decide)]; decide
  · rw [D0_z (by decide) (by decide), D0_z (by decide) (by decide)]
  · rw [hz 11 (by decide), zR_m0 (fun i => D0_z (by decide) (by decide) i)]; exact zR_R
  · rw [D0_z (by decide) (by decide)]; decide
  · rw [D0_z (by decide) (by decide)]; decide
  · rw [D0_z (by decide) (by decide), D0_z (by decide) (by decide)]
  · rw [D0_z (by decide) (by decide)] at k1; omega
  · rw [hz (stImg k.toNat) (by unfold stImg; omega), zR_m0 (fun i => D0_z (by decide) (by decide) i)]; exact zR_R
  · have hs : shAt s.toNat = 275 + 2 * s.toNat := rfl
    have e1 : D0 (shAt s.toNat) 1 = -1 := by rw [D0_at, if_neg (by omega), if_pos (by omega), if_pos rfl]
    have e2 : D0 (shAt s.toNat) 2 = 0 := by rw [D0_at, if_neg (by omega), if_pos (by omega), if_neg (by decide)]
    have e3 : ∀ j, D0 (shAt s.toNat + 1) j = 0 := fun j => by rw [D0_at, if_neg (by omega), if_neg (by omega)]
    have e4 : D0 295 s = -1 := by rw [D0_at, if_pos rfl, if_pos (by omega)]
    have e5 : D0 296 s = 0 := D0_z (by decide) (by decide) s
    unfold shOk
    rw [e1, e2, e4, e5]
    refine ⟨⟨by decide, by decide, fun i _ _ => by rw [e3]; decide⟩, rfl, by decide, fun z => absurd rfl z, fun i _ _ => by rw [e3, D0_z (by decide) (by decide)]⟩
  · unfold sOk; rw [hz 4 (by decide)]; exact zR_ok
  · unfold sOk; rw [hz 248 (by decide)]; exact zR_ok
