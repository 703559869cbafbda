/-! what the class tells of all foldings; of kinds -/
def fdX (Ls : List LL) (N : Int) (f : Int → Int) (o n w : Int) : Int := if w = 0 then ((Ls.countP (fun L => decide (gsX (LI L) N f o n ≠ -4)) : Nat) : Int) else if ((Ls.countP (fun L => decide (gsX (LI L) N f o n ≠ -4)) : Nat) : Int) = 0 then -4 else if mx9 (fun k => ((Ls.countP (fun L => decide (ouX 1 (LI L) N f o n = k)) : Nat) : Int)) 9 < mx9 (fun k => ((Ls.countP (fun L => decide (ouX 0 (LI L) N f o n = k)) : Nat) : Int)) 9 then 1 else 0
theorem fd_0 {Ls : List LL} {N : Int} {f : Int → Int} {o n w : Int} {E : Dat} (hw : w = 0) (h : E 247 13 = ((Ls.countP (fun L => decide (gsX (LI L) N f o n ≠ -4)) : Nat) : Int)) : E 247 13 = fdX Ls N f o n w := by
  unfold fdX; rw [if_pos hw, h]
theorem mx9_c {g h : Int → Int} : ∀ k : Nat, (∀ i : Int, 0 ≤ i → i < k → g i = h i) → mx9 g k = mx9 h k
  | 0, _ => rfl
  | k + 1, e => by rw [mx9, mx9, mx9_c k (fun i i0 i1 => e i i0 (by omega)), e k (by omega) (by omega)]
theorem fd_2 {Ls : List LL} {N : Int} {f : Int → Int} {o n w v : Int} {E : Dat} (hw : w ≠ 0) (h : E 247 13 = ((Ls.countP (fun L => decide (gsX (LI L) N f o n ≠ -4)) : Nat) : Int)) (h2 : ∀ s k : Int, 0 ≤ s → s ≤ 1 → 0 ≤ k → k ≤ 8 → E 260 (s * 9 + k) = ((Ls.countP (fun L => decide (ouX s (LI L) N f o n = k)) : Nat) : Int)) (hv : v = if E 247 13 = 0 then -4 else if mx9 (fun k => E 260 (1 * 9 + k)) 9 < mx9 (fun k => E 260 (0 * 9 + k)) 9 then 1 else 0) : v = fdX Ls N f o n w := by
  rw [mx9_c (g := fun k => E 260 (1 * 9 + k)) (h := fun k => ((Ls.countP (fun L => decide (ouX 1 (LI L) N f o n = k)) : Nat) : Int)) 9 (fun i i0 i1 => h2 1 i (by omega) (by omega) i0 (by omega)), mx9_c (g := fun k => E 260 (0 * 9 + k)) (h := fun k => ((Ls.countP (fun L => decide (ouX 0 (LI L) N f o n = k)) : Nat) : Int)) 9 (fun i i0 i1 => h2 0 i (by omega) (by omega) i0 (by omega)), h] at hv
  unfold fdX
  rw [if_neg hw]
  exact hv
theorem fit_in {f : Int → Int} : ∀ (n : Nat) (i s : Int), 0 ≤ s ∧ s ≤ 63 → fitX f n i s = -2 ∨ (0 ≤ fitX f n i s ∧ fitX f n i s ≤ 63)
  | 0, i, s, h => Or.inr h
  | n + 1, i, s, h => by
    rw [fitX]
    split
    · exact Or.inl rfl
    · exact fit_in n (i + 2) _ (band_63 h)
