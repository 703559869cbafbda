/-! the class' own methods -/
theorem shTk : ∀ k, k < 4 → Fx 189 k = some (shAt k) ∧ shAt k ∈ [275, 277, 279, 281] := by decide +kernel
theorem hSh {k : Int} (h : 0 ≤ k ∧ k ≤ 3) : Fx 189 k.toNat = some (shAt k.toNat) ∧ isSh (shAt k.toNat) := shTk k.toNat (by omega)
theorem hImg {k : Int} (h : 0 ≤ k ∧ k ≤ 1) : Fx 188 k.toNat = some (stImg k.toNat) ∧ isStrip (stImg k.toNat) := tImg k.toNat (by omega)
def kepX (D K : Dat) : Prop := rowX K (stHist (D 18 1).toNat) = rowX D 11 ∧ K 18 1 = (D 18 1 + 1) % 24 ∧ K 18 2 = (if D 18 2 + 1 < 24 then D 18 2 + 1 else 24) ∧ ∀ c, c ≠ 18 → (c < stHist (D 18 1).toNat ∨ stHist (D 18 1).toNat + 7 ≤ c) → K c = D c
theorem kepX.r {D K : Dat} (h : kepX D K) : rowX K 11 = rowX D 11 := by
  have e : ∀ c, c < 18 → K c = D c := fun c hc => h.2.2.2 c (by omega) (by unfold stHist; omega)
  unfold rowX
  rw [e 11 (by omega), e (11 + 1) (by omega), e (11 + 2) (by omega), e (11 + 3) (by omega), e (11 + 4) (by omega), e (11 + 5) (by omega), e (11 + 6) (by omega)]
theorem gI_in {a b : Int} (hb : 1 ≤ b ∧ b ≤ 1000000) : 1 ≤ gI a b ∧ gI a b ≤ 1000000 := by
  have h1 := gI_pos (a := a) (b := b) (by omega)
  have h2 := gI_le (a := a) (b := b) (by omega)
  omega
theorem zR_x {D : Dat} (h : gdR (rowX D 11)) : zOk (rowX D 11) (D 11 7 * 8 + D 11 8) := by
  have hf := h.1.2.2.1
  have hb := h.1.2.2.2
  have hl := h.2.2.2
  have h8 := h.1.2.1.2.1
  rw [xF] at hf
  rw [xB] at hb
  rw [xF, xB] at hl
  have e1 : (D 11 7 * 8 + D 11 8) / 8 = D 11 7 := by omega
  have e2 : (D 11 7 * 8 + D 11 8) % 8 = D 11 8 := by omega
  refine ⟨by omega, ?_, ?_, ?_⟩
  · rw [e1]; exact hf
  · rw [e2]; exact hb
  · rw [e1, e2]; exact hl
/-- what a strip that is there keeps, beside -/
def gdX (r : Row) : Prop := gdR r ∧ irr r ∧ cntB (lkB r) 64 ≤ 26 ∧ 3 ≤ rN r
theorem gd_step {a b k : Int} (hb : 0 < b) (hx : b ≤ 1000000) (hk : 0 ≤ k) (hc : (k = 0 ∧ 1 ≤ b) ∨ (b < a ∧ a + b ≤ bnd (41 - k).toNat)) : a % b < b ∧ b + a % b ≤ bnd (41 - (k + 1)).toNat := by
  have hem := emod_in (a := a) hb
  rcases hc with q | q
  · rw [show (41 - (k + 1)).toNat = 40 by omega]
    have := bnd_40
    omega
  · rcases Int.lt_or_le k 41 with w | w
    · rw [show (41 - k).toNat = (41 - (k + 1)).toNat + 1 by omega] at q
      exact bnd_s hb q.1 q.2
    · rw [show (41 - k).toNat = 0 by omega, bnd] at q
      omega
theorem gd_k {a b k : Int} (hb : 0 < b) (hk : 0 ≤ k) (hc : (k = 0 ∧ 1 ≤ b) ∨ (b < a ∧ a + b ≤ bnd (41 - k).toNat)) : k ≤ 41 := by
  rcases hc with q | q
  · omega
  · rcases Int.lt_or_le k 41 with w | w
    · omega
    · rw [show (41 - k).toNat = 0 by omega, bnd] at q
      omega
def wayX (r : Row) (L : Int → Int) (z k : Int) : Int := if 1000000 ≤ L z then -4 else if k = -2 then L z / 100 else if k = -1 then L z % 100 else if 0 ≤ k ∧ k < L z % 100 then wmv 100 1000000 r L k.toNat z else -4
