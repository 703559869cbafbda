theorem xor_tab : ∀ x, x < 256 → ∀ k, k < 8 → tb ((x : Nat) : Int) ((k : Nat) : Int) = true → iXor ((x : Nat) : Int) (iShl 1 ((k : Nat) : Int)) = cb x k := by decide +kernel
theorem xor8 {x k : Int} (hx : 0 ≤ x ∧ x ≤ 255) (hk : 0 ≤ k ∧ k < 8) (h : tb x k = true) : iXor x (iShl 1 k) = cb x k := by
  obtain ⟨n, rfl⟩ := toN hx.1
  obtain ⟨j, rfl⟩ := toN hk.1
  exact xor_tab n (by omega) j (by omega) h
/-- two parted, in a row of links -/
def ptM (D : Dat) (c : Nat) (o a b : Int) : Dat := upD (upD D c (o + a) (cb (D c (o + a)) b)) c (o + b) (cb (upD D c (o + a) (cb (D c (o + a)) b) c (o + b)) a)
theorem pt_row {D : Dat} {c : Nat} {a b : Int} (ha : 0 ≤ a ∧ a < 8) (hb : 0 ≤ b ∧ b < 8) : rowM (ptM D c 44 a b) c 0 = partR (rowM D c 0) a b := by
  unfold ptM partR
  rw [rowM_up (by omega), rowM_up (by omega)]
  rw [show (44 + a - 0).toNat = 44 + a.toNat by omega, show (44 + b - 0).toNat = 44 + b.toNat by omega]
  have e1 : D c (44 + a) = rL (rowM D c 0) a := (mL ha).symm
  have e2 : upD D c (44 + a) (cb (D c (44 + a)) b) c (44 + b) = rL (rowM (upD D c (44 + a) (cb (D c (44 + a)) b)) c 0) b := (mL hb).symm
  rw [e2, rowM_up (by omega), show (44 + a - 0).toNat = 44 + a.toNat by omega, e1]
theorem ptM_ok {D : Dat} {c : Nat} {o a b : Int} (h : lkOk D c o) (ha : 0 ≤ a ∧ a < 8) (hb : 0 ≤ b ∧ b < 8) : lkOk (ptM D c o a b) c o := by
  intro p h0 h1
  have e1 : lkOk (upD D c (o + a) (cb (D c (o + a)) b)) c o := by
    intro q g0 g1
    by_cases hq : q = a
    · rw [hq, upD_s]; exact cb_in (h a ha.1 ha.2)
    · rw [upD_n (Or.inr (by omega))]; exact h q g0 g1
  unfold ptM
  by_cases hq : p = b
  · rw [hq, upD_s]; exact cb_in (e1 b hb.1 hb.2)
  · rw [upD_n (Or.inr (by omega))]; exact e1 p h0 h1
theorem ptM_fr {D : Dat} {c b : Nat} {o x y : Int} (h : b ≠ c) : ptM D c o x y b = D b := by
  unfold ptM
  rw [upD_other h, upD_other h]
theorem lnM_fo {D : Dat} {c b : Nat} {o x y : Int} (h : b ≠ c) : lnM D c o x y b = D b := by
  unfold lnM
  rw [upD_other h, upD_other h]
