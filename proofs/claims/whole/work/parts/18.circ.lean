/-! going by turns of sides -/
def sym (r : Row) : Prop := ∀ p q : Int, 0 ≤ p → p < rN r → 0 ≤ q → q < rN r → tb (rL r p) q = tb (rL r q) p
def zOk (r : Row) (z : Int) : Prop := (0 ≤ z ∧ z < 64) ∧ (0 ≤ z / 8 ∧ z / 8 < rN r) ∧ (0 ≤ z % 8 ∧ z % 8 < rN r) ∧ tb (rL r (z / 8)) (z % 8) = true
theorem tb_band {x y k : Int} : tb (band x y) k = (tb x k && tb y k) := by
  unfold tb band; simp [Nat.testBit_and]
theorem thGo_bit {n m f t : Int} : ∀ (fu : Nat) (k : Int), 0 ≤ thGo n m f t fu k → tb m (thGo n m f t fu k) = true
  | 0, k, h => absurd h (by rw [thGo]; omega)
  | fu + 1, k, h => by
    rw [thGo] at h ⊢
    split at h
    · omega
    · rename_i h1
      rw [if_neg h1]
      split at h
      · omega
      · rename_i h2
        rw [if_neg h2]
        split at h
        · rename_i h3
          rw [if_pos h3]; exact h3
        · rename_i h3
          rw [if_neg h3]
          exact thGo_bit fu (k + 1) h
theorem thX_bit {r : Row} {a b s : Int} (h : 0 ≤ thX r a b s) : tb (rL r a) (thX r a b s) = true ∧ tb (rL r b) (thX r a b s) = true := by
  have : tb (band (rL r a) (rL r b)) (thX r a b s) = true := by
    unfold thX at h ⊢
    split at h
    · rename_i h1; rw [if_pos h1]; exact thGo_bit _ _ h
    · rename_i h1; rw [if_neg h1]; exact thGo_bit _ _ h
  rw [tb_band, Bool.and_eq_true] at this
  exact this
theorem bhR_ok {r : Row} {z m : Int} (hs : sym r) (hn : rN r ≤ 8) (hz : zOk r z) (hm : 0 ≤ m ∧ m ≤ 2) : (bhR r z m = -4 ∧ m ≠ 2) ∨ zOk r (bhR r z m) := by
  obtain ⟨h0, h1, h2, h3⟩ := hz
  unfold bhR
  rw [if_pos (by omega)]
  unfold nxR
  rw [if_pos ⟨h1, h2, h3⟩]
  by_cases e : m = 2
  · rw [if_pos e]
    right
    have a1 : (z % 8 * 8 + z / 8) / 8 = z % 8 := by omega
    have a2 : (z % 8 * 8 + z / 8) % 8 = z / 8 := by omega
    refine ⟨by omega, by omega, by omega, ?_⟩
    rw [a1, a2, ← hs _ _ h1.1 h1.2 h2.1 h2.2]; exact h3
  · rw [if_neg e]
    by_cases c : thX r (z / 8) (z % 8) m < 0 ∨ ((0 ≤ thX r (z / 8) (z % 8) m ∧ thX r (z / 8) (z % 8) m < rN r) ∧ rBe r (thX r (z / 8) (z % 8) m) ≤ rWe r (thX r (z / 8) (z % 8) m))
    · rw [if_pos c]; exact Or.inl ⟨rfl, e⟩
    · rw [if_neg c]
      right
      have hi := thX_in (r := r) (a := z / 8) (b := z % 8) (s := m) (by omega)
      have hb := thX_bit (r := r) (a := z / 8) (b := z % 8) (s := m) (by omega)
      generalize thX r (z / 8) (z % 8) m = t at *
      have a1 : (t * 8 + z / 8) / 8 = t := by omega
      have a2 : (t * 8 + z / 8) % 8 = z / 8 := by omega
      refine ⟨by omega, by omega, by omega, ?_⟩
      rw [a1, a2, hs _ _ (by omega) (by omega) h1.1 h1.2]; exact hb.1
def mvC (r : Row) (z s : Int) : Int := if 0 ≤ bhR r z s then s else if 0 ≤ bhR r z (1 - s) then 1 - s else 2
def cSeq (r : Row) (z0 : Int) : Nat → Int
  | 0 => z0
  | j + 1 => bhR r (cSeq r z0 j) (mvC r (cSeq r z0 j) ((j : Int) % 2))
theorem cSeq_step {r : Row} {z0 j : Int} (hj : 0 ≤ j) : cSeq r z0 (j + 1).toNat = bhR r (cSeq r z0 j.toNat) (mvC r (cSeq r z0 j.toNat) (j % 2)) := by
  rw [show (j + 1).toNat = j.toNat + 1 by omega, cSeq, show ((j.toNat : Nat) : Int) = j by omega]
theorem cN_ok {r : Row} {z s : Int} (hs : sym r) (hn : rN r ≤ 8) (hz : zOk r z) (h2 : 0 ≤ s ∧ s ≤ 1) : zOk r (bhR r z (mvC r z s)) := by
  unfold mvC
  split
  · rename_i h
    rcases bhR_ok (m := s) hs hn hz (by omega) with ⟨e, -⟩ | e
    · omega
    · exact e
  · split
    · rename_i h
      rcases bhR_ok (m := 1 - s) hs hn hz (by omega) with ⟨e, -⟩ | e
      · omega
      · exact e
    · rcases bhR_ok (m := 2) hs hn hz (by omega) with ⟨-, e⟩ | e
      · exact absurd rfl e
      · exact e
theorem cSeq_ok {r : Row} {z0 : Int} (hs : sym r) (hn : rN r ≤ 8) (hz : zOk r z0) : ∀ j, zOk r (cSeq r z0 j)
  | 0 => hz
  | j + 1 => by rw [cSeq]; exact cN_ok hs hn (cSeq_ok hs hn hz j) (by omega)
def cKey (r : Row) (z0 : Int) (j : Nat) : Int := cSeq r z0 j * 2 + (j : Int) % 2
def isCirc (r : Row) (z0 : Int) (i j : Nat) : Prop := i < j ∧ cKey r z0 i = cKey r z0 j ∧ ∀ a b : Nat, a < b → b < j → cKey r z0 a ≠ cKey r z0 b
theorem isCirc_uniq {r : Row} {z0 : Int} {i j i2 j2 : Nat} (h : isCirc r z0 i j) (h2 : isCirc r z0 i2 j2) : i = i2 ∧ j = j2 := by
  obtain ⟨a1, a2, a3⟩ := h
  obtain ⟨b1, b2, b3⟩ := h2
  have hj : j = j2 := by
    rcases Nat.lt_or_ge j j2 with h | h
    · exact absurd a2 (b3 i j a1 h)
    · rcases Nat.lt_or_ge j2 j with h2 | h2
      · exact absurd b2 (a3 i2 j2 b1 h2)
      · omega
  subst hj
  refine ⟨?_, rfl⟩
  rcases Nat.lt_or_ge i i2 with h | h
  · exact absurd (a2.trans b2.symm) (a3 i i2 h b1)
  · rcases Nat.lt_or_ge i2 i with h2 | h2
    · exact absurd (b2.trans a2.symm) (a3 i2 i h2 a1)
    · omega
theorem pigeon : ∀ (N : Nat) (f : Nat → Nat), (∀ i, i ≤ N → f i < N) → ∃ a b, a < b ∧ b ≤ N ∧ f a = f b
  | 0, f, h => absurd (h 0 (Nat.le_refl 0)) (by omega)
  | N + 1, f, h => by
    by_cases hx : ∃ i, i ≤ N ∧ f i = f (N + 1)
    · obtain ⟨i, h1, h2⟩ := hx
      exact ⟨i, N + 1, by omega, Nat.le_refl _, h2⟩
    · have hne : ∀ i, i ≤ N → f i ≠ f (N + 1) := fun i h1 h2 => hx ⟨i, h1, h2⟩
      obtain ⟨a, b, h1, h2, h3⟩ := pigeon N (fun i => if f (N + 1) < f i then f i - 1 else f i) (fun i hi => by
        have e1 := h i (by omega)
        have e2 := h (N + 1) (Nat.le_refl _)
        have e3 := hne i hi
        show (if f (N + 1) < f i then f i - 1 else f i) < N
        split <;> omega)
      refine ⟨a, b, h1, by omega, ?_⟩
      have e3 := hne a (by omega)
      have e4 := hne b (by omega)
      try dsimp at h3
      split at h3 <;> split at h3 <;> omega
theorem cKey_in {r : Row} {z0 : Int} (hs : sym r) (hn : rN r ≤ 8) (hz : zOk r z0) (j : Nat) : 0 ≤ cKey r z0 j ∧ cKey r z0 j < 128 := by
  have := (cSeq_ok hs hn hz j).1
  unfold cKey
  omega
theorem cKey_rep {r : Row} {z0 : Int} (hs : sym r) (hn : rN r ≤ 8) (hz : zOk r z0) : ∃ a b : Nat, a < b ∧ b ≤ 128 ∧ cKey r z0 a = cKey r z0 b := by
  obtain ⟨a, b, h1, h2, h3⟩ := pigeon 128 (fun j => (cKey r z0 j).toNat) (fun i _ => by have := cKey_in hs hn hz i; show (cKey r z0 i).toNat < 128; omega)
  have e1 := cKey_in hs hn hz a
  have e2 := cKey_in hs hn hz b
  try dsimp at h3
  exact ⟨a, b, h1, h2, by omega⟩
theorem cutTab : ∀ v, v < 8 → toB ((v : Nat) : Int) = v ∧ toS ((v : Nat) : Int) = v ∧ w32 ((v : Nat) : Int) = v := by decide +kernel
theorem cutL_small {lane v : Int} (h : 0 ≤ v ∧ v < 8) : cutL lane v = v := by
  obtain ⟨n, rfl⟩ := toN h.1
  obtain ⟨h1, h2, h3⟩ := cutTab n (by omega)
  unfold cutL
  repeat' split
  all_goals first | assumption | rfl
theorem shOut {s : Nat} (h : isSh s) : 275 ≤ s ∧ s ≤ 281 := by
  unfold isSh at h
  simp at h
  omega
