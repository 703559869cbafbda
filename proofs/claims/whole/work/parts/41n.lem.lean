/-! kinds, as the reference looks for them -/
def isM (f : Int → Int) (kd o : Int) : Nat → Bool
  | 0 => true
  | k + 1 => isM f kd o k && decide (effK kd (f (o + 2 * k)) = f (o + 2 * k + 1))
def okM (f : Int → Int) (o : Int) : Nat → Bool
  | 0 => true
  | k + 1 => okM f o k && decide (0 ≤ f (o + 2 * k) ∧ f (o + 2 * k) ≤ 99)
def kdF (f : Int → Int) (o : Int) (n : Nat) : Int → Bool := fun z => decide (1 ≤ z) && isM f z o n
def stK (f : Int → Int) (o : Int) (n : Nat) : Int := setOf (kdF f o n) 6
theorem isM_step {f : Int → Int} {kd o k : Int} (hk : 0 ≤ k) : isM f kd o (k + 1).toNat = (isM f kd o k.toNat && decide (effK kd (f (o + 2 * k)) = f (o + 2 * k + 1))) := by
  rw [show (k + 1).toNat = k.toNat + 1 by omega, isM, show ((k.toNat : Nat) : Int) = k by omega]
theorem okM_step {f : Int → Int} {o k : Int} (hk : 0 ≤ k) : okM f o (k + 1).toNat = (okM f o k.toNat && decide (0 ≤ f (o + 2 * k) ∧ f (o + 2 * k) ≤ 99)) := by
  rw [show (k + 1).toNat = k.toNat + 1 by omega, okM, show ((k.toNat : Nat) : Int) = k by omega]
theorem okM_at {f : Int → Int} {o : Int} : ∀ {n : Nat}, okM f o n = true → ∀ k : Int, 0 ≤ k → k < n → 0 ≤ f (o + 2 * k) ∧ f (o + 2 * k) ≤ 99
  | 0, _, k, h0, h1 => by omega
  | n + 1, h, k, h0, h1 => by
    rw [okM, Bool.and_eq_true] at h
    by_cases q : k = n
    · rw [q]; exact of_decide_eq_true h.2
    · exact okM_at h.1 k h0 (by omega)
theorem okM_f {f : Int → Int} {o k n : Int} (h : 0 ≤ k ∧ k < n) (hb : ¬ (0 ≤ f (o + 2 * k) ∧ f (o + 2 * k) ≤ 99)) : okM f o n.toNat = false := by
  cases q : okM f o n.toNat with
  | false => rfl
  | true => exact absurd (okM_at q k h.1 (by omega)) hb
def b01 (b : Bool) : Int := if b then 1 else 0
theorem b01_in (b : Bool) : b01 b = 0 ∨ b01 b = 1 := by cases b <;> simp [b01]
theorem b01_t {b : Bool} : b01 b = 1 ↔ b = true := by cases b <;> simp [b01]
theorem b01_f {b : Bool} : b01 b = 0 ↔ b = false := by cases b <;> simp [b01]
theorem isM_1 {f : Int → Int} {kd o j v : Int} (hj : 0 ≤ j) (h : v = b01 (isM f kd o j.toNat)) (h1 : v ≠ 0) (he : effK kd (f (o + 2 * j)) = f (o + 2 * j + 1)) : (1 : Int) = b01 (isM f kd o (j + 1).toNat) := by
  rw [isM_step hj]
  have : isM f kd o j.toNat = true := by cases q : isM f kd o j.toNat <;> simp_all [b01]
  rw [this, he]; simp [b01]
theorem isM_0 {f : Int → Int} {kd o j v : Int} (hj : 0 ≤ j) (h : v = b01 (isM f kd o j.toNat)) (h1 : v = 0 ∨ ¬ effK kd (f (o + 2 * j)) = f (o + 2 * j + 1)) : (0 : Int) = b01 (isM f kd o (j + 1).toNat) := by
  rw [isM_step hj]
  rcases h1 with q | q
  · have : isM f kd o j.toNat = false := b01_f.1 (by rw [← h, q])
    rw [this]; rfl
  · rw [decide_eq_false q, Bool.and_false]; rfl
theorem kd_1 {f : Int → Int} {o kd acc y v : Int} {n : Nat} (hk : 1 ≤ kd) (hv : acc = setOf (kdF f o n) kd.toNat) (hi : v = b01 (isM f kd o n)) (h1 : v ≠ 0) (hy : y = pw kd) : bor acc y = setOf (kdF f o n) (kd + 1).toNat := by
  rw [setOf_step (by omega), ← hv, hy, bor_pw, if_pos]
  unfold kdF
  have : isM f kd o n = true := by cases q : isM f kd o n <;> simp_all [b01]
  rw [this, decide_eq_true hk]; rfl
theorem kd_0 {f : Int → Int} {o kd acc y v : Int} {n : Nat} (hk : 1 ≤ kd) (ha : 0 ≤ acc) (hv : acc = setOf (kdF f o n) kd.toNat) (hi : v = b01 (isM f kd o n)) (h1 : v = 0) (hy : y = 0) : bor acc y = setOf (kdF f o n) (kd + 1).toNat := by
  rw [setOf_step (by omega), ← hv, hy, bor_0 ha, if_neg]
  unfold kdF
  have : isM f kd o n = false := b01_f.1 (by rw [← hi, h1])
  rw [this, Bool.and_false]; decide
def alkM (t sh a : Int) : Nat → Int
  | 0 => 0
  | k + 1 => alkM t sh a k + (if (tb t a && tb t (k + 1)) = true ∧ effK a sh = effK (k + 1) sh then 1 else 0)
def mstM (t sh : Int) : Nat → Int
  | 0 => 0
  | k + 1 => if mstM t sh k < alkM t sh (k + 1) 5 then alkM t sh (k + 1) 5 else mstM t sh k
def bstM (t : Int) : Nat → Int × Int
  | 0 => (-4, 99)
  | k + 1 => if mstM t k 5 < (bstM t k).2 then ((k : Int), mstM t k 5) else bstM t k
theorem bst_tab : ∀ t, t < 64 → t ≠ 0 → (bstM ((t : Nat) : Int) 10).1 = bestX t 9 := by decide +kernel
theorem alk_in (t sh a : Int) : ∀ k, 0 ≤ alkM t sh a k ∧ alkM t sh a k ≤ k
  | 0 => by rw [alkM]; omega
  | k + 1 => by have := alk_in t sh a k; rw [alkM]; split <;> omega
theorem mst_in (t sh : Int) : ∀ k, 0 ≤ mstM t sh k ∧ mstM t sh k ≤ 5
  | 0 => by rw [mstM]; omega
  | k + 1 => by
    have := mst_in t sh k
    have := alk_in t sh (k + 1) 5
    rw [mstM]; split <;> omega
theorem bst_in (t : Int) : ∀ k, (-4 ≤ (bstM t k).1 ∧ (bstM t k).1 ≤ k) ∧ 0 ≤ (bstM t k).2 ∧ (bstM t k).2 ≤ 99
  | 0 => by rw [bstM]; exact ⟨⟨by decide, by decide⟩, by decide, by decide⟩
  | k + 1 => by
    have h := bst_in t k
    have := mst_in t k 5
    rw [bstM]; split
    · exact ⟨⟨by show -4 ≤ (k : Int); omega, by show (k : Int) ≤ _; omega⟩, by show 0 ≤ mstM t k 5; omega, by show mstM t k 5 ≤ 99; omega⟩
    · exact ⟨⟨h.1.1, by have := h.1.2; omega⟩, h.2⟩
theorem and3_tab : ∀ t, t < 64 → ∀ a, a < 6 → ∀ c, c < 6 → iAnd (iAnd (iShr ((t : Nat) : Int) ((a : Nat) : Int)) (iShr ((t : Nat) : Int) ((c : Nat) : Int))) 1 = b01 (tb t a && tb t c) := by decide +kernel
theorem and3 {t a c : Int} (ht : 0 ≤ t ∧ t ≤ 63) (ha : 0 ≤ a ∧ a ≤ 5) (hc : 0 ≤ c ∧ c ≤ 5) : iAnd (iAnd (iShr t a) (iShr t c)) 1 = b01 (tb t a && tb t c) := by
  obtain ⟨x, rfl⟩ := toN ht.1
  obtain ⟨y, rfl⟩ := toN ha.1
  obtain ⟨z, rfl⟩ := toN hc.1
  exact and3_tab x (by omega) y (by omega) z (by omega)
theorem alk_step {t sh a c : Int} (hc : 1 ≤ c) : alkM t sh a (c + 1 - 1).toNat = alkM t sh a (c - 1).toNat + (if (tb t a && tb t c) = true ∧ effK a sh = effK c sh then 1 else 0) := by
  rw [show (c + 1 - 1).toNat = (c - 1).toNat + 1 by omega, alkM, show (((c - 1).toNat : Nat) : Int) + 1 = c by omega]
theorem mst_step {t sh a : Int} (ha : 1 ≤ a) : mstM t sh (a + 1 - 1).toNat = if mstM t sh (a - 1).toNat < alkM t sh a 5 then alkM t sh a 5 else mstM t sh (a - 1).toNat := by
  rw [show (a + 1 - 1).toNat = (a - 1).toNat + 1 by omega, mstM, show (((a - 1).toNat : Nat) : Int) + 1 = a by omega]
theorem bst_step {t sh : Int} (h : 0 ≤ sh) : bstM t (sh + 1).toNat = if mstM t sh 5 < (bstM t sh.toNat).2 then (sh, mstM t sh 5) else bstM t sh.toNat := by
  rw [show (sh + 1).toNat = sh.toNat + 1 by omega, bstM, show ((sh.toNat : Nat) : Int) = sh by omega]
def tryK (t : Int) : Int := if t = 0 then -4 else bestX t 9
def kndA (f : Int → Int) (o n w : Int) : Int := if okM f o n.toNat = false then -2 else if w = 0 then stK f o n.toNat else tryK (stK f o n.toNat)
