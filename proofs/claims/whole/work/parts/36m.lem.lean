theorem xor_tab : ∀ x, x < 256 → ∀ k, k < 8 → tb ((x : Nat) : Int) ((k : Nat) : Int) = true → iXor ((x : Nat) : Int) (iShl 1 ((k : Nat) : Int)) = cb x k := by decide +kernel
theorem xor8 {x k : Int} (hx : 0 ≤ x ∧ x ≤ 255) (hk : 0 ≤ k ∧ k < 8) (h : tb x k = true) : iXor x (iShl 1 k) = cb x k := by
  obtain ⟨n, rfl⟩ := toN hx.1
  obtain ⟨j, rfl⟩ := toN hk.1
  exact xor_tab n (by omega) j (by omega) h
/-- two parted, in a row of links -/
def ptM (D : Dat) (c : Nat) (o a b : Int) : Dat := upD (upD D c (o + a) (cb (D c (o + a)) b)) c (o + b) (cb (upD D c (o + a) (cb (D c (o + a)) b) c (o + b)) a)
theorem pt_row {D : Dat} {c : Nat} {a b : Int} (ha : 0 ≤ a ∧ a < 8) (hb : 0 ≤ b ∧ b < 8) : rowM (ptM D c 44 a b) c 0 = partR (rowM D c 0) a b := by
  unfold ptM partR
  rw [rowM_up (by omega), rowM_up (by omega)]
  rw [show (44 + a - 0).toNat = 44 + a.toNat by omega, show (44 + b - 0).toNat = 44 + b.toNat by omega]
  have e1 : D c (44 + a) = rL (rowM D c 0) a := (mL ha).symm
  have e2 : upD D c (44 + a) (cb (D c (44 + a)) b) c (44 + b) = rL (rowM (upD D c (44 + a) (cb (D c (44 + a)) b)) c 0) b := (mL hb).symm
  rw [e2, rowM_up (by omega), show (44 + a - 0).toNat = 44 + a.toNat by omega, e1]
theorem ptM_ok {D : Dat} {c : Nat} {o a b : Int} (h : lkOk D c o) (ha : 0 ≤ a ∧ a < 8) (hb : 0 ≤ b ∧ b < 8) : lkOk (ptM D c o a b) c o := by
  intro p h0 h1
  have e1 : lkOk (upD D c (o + a) (cb (D c (o + a)) b)) c o := by
    intro q g0 g1
    by_cases hq : q = a
    · rw [hq, upD_s]; exact cb_in (h a ha.1 ha.2)
    · rw [upD_n (Or.inr (by omega))]; exact h q g0 g1
  unfold ptM
  by_cases hq : p = b
  · rw [hq, upD_s]; exact cb_in (e1 b hb.1 hb.2)
  · rw [upD_n (Or.inr (by omega))]; exact e1 p h0 h1
theorem ptM_fr {D : Dat} {c b : Nat} {o x y : Int} (h : b ≠ c) : ptM D c o x y b = D b := by
  unfold ptM
  rw [upD_other h, upD_other h]
theorem lnM_fo {D : Dat} {c b : Nat} {o x y : Int} (h : b ≠ c) : lnM D c o x y b = D b := by
  unfold lnM
  rw [upD_other h, upD_other h]
/-- the fold that a refold asks for -/
def foldM (D : Dat) (p q : Int) : Prop := 1 < (q - p + D 284 0) % D 284 0 ∧ (q - p + D 284 0) % D 284 0 < D 284 0 - 1 ∧ tb (D 284 (44 + p)) q = true
def heldM (D : Dat) (p q : Int) : Prop := (D 284 1 = p ∧ D 284 2 = q) ∨ (D 284 1 = q ∧ D 284 2 = p)
abbrev tdM (D : Dat) (p q : Int) : Int := thMk (fun z => D 284 (44 + z)) (D 284 0) p q (D 284 0).toNat
def refQ (D D1 : Dat) (v p q : Int) : Prop := ∃ N, notQ D N ∧ D1 = lnM (ptM N 284 44 p q) 284 44 (tdM D p q) (tdM D q p) ∧ v = (if tdM D p q < tdM D q p then 10 * tdM D p q + tdM D q p else 10 * tdM D q p + tdM D p q)
def hasM (D : Dat) (p q : Int) : Prop := (0 ≤ p ∧ p < D 284 0) ∧ (0 ≤ q ∧ q < D 284 0) ∧ p ≠ q
theorem if1 {b : Bool} : (if b then (1 : Int) else 0) = 1 ↔ b = true := by cases b <;> simp
