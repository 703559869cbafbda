/-! what can be reached; sets of spots as longs -/
theorem lsh63 : ∀ k, k < 64 → (((nI k).toInt64 &&& 63).toBitVec.smod 64).toNat = k := by decide +kernel
theorem lN_of_nat (n : Nat) : Int64.ofInt (n : Int) = lN n := Int64.ofInt_eq_ofNat
theorem lN_toI {n : Nat} (h : n < 9223372036854775808) : (lN n).toInt = (n : Int) := by
  rw [← lN_of_nat]; exact n64_in (by omega)
theorem lShr_nat {n k : Nat} (hn : n < 9223372036854775808) (hk : k < 64) : lShr n k = ((n / 2 ^ k : Nat) : Int) := by
  unfold lShr
  rw [lN_of_nat, nI_of_nat]
  show ((lN n).toBitVec.sshiftRight (((nI k).toInt64 &&& 63).toBitVec.smod 64).toNat).toInt = _
  rw [lsh63 k hk, BitVec.toInt_sshiftRight]
  have : (lN n).toBitVec.toInt = (n : Int) := lN_toI hn
  rw [this, Int.shiftRight_eq_div_pow]
  rfl
theorem lAnd_nat {a b : Nat} (ha : a < 9223372036854775808) : lAnd a b = ((a &&& b : Nat) : Int) := by
  unfold lAnd
  have h1 : a &&& b ≤ a := Nat.and_le_left
  have : lN a &&& lN b = lN (a &&& b) := by
    apply Int64.toBitVec_inj.mp
    simp [lN]
  rw [lN_of_nat, lN_of_nat, this, lN_toI (by omega)]
theorem lOr_nat {a b : Nat} (ha : a < 9223372036854775808) (hb : b < 9223372036854775808) : lOr a b = ((a ||| b : Nat) : Int) := by
  unfold lOr
  have h1 : a ||| b < 2 ^ 63 := Nat.or_lt_two_pow ha hb
  have : lN a ||| lN b = lN (a ||| b) := by
    apply Int64.toBitVec_inj.mp
    simp [lN]
  rw [lN_of_nat, lN_of_nat, this, lN_toI (by omega)]
theorem bitL {x k : Int} (hx : 0 ≤ x ∧ x ≤ 9223372036854775807) (hk : 0 ≤ k ∧ k < 64) : lAnd (lShr x k) 1 = if tb x k then 1 else 0 := by
  obtain ⟨n, rfl⟩ := toN hx.1
  obtain ⟨j, rfl⟩ := toN hk.1
  have h1 : n / 2 ^ j ≤ n := Nat.div_le_self _ _
  rw [lShr_nat (by omega) (by omega)]
  have := lAnd_nat (a := n / 2 ^ j) (b := 1) (by omega)
  rw [show ((1 : Nat) : Int) = 1 from rfl] at this
  rw [this]
  unfold tb
  simp only [Int.toNat_natCast]
  simp only [Nat.testBit_eq_decide_div_mod_eq, Nat.and_one_is_mod]
  have h2 : n / 2 ^ j % 2 = 0 ∨ n / 2 ^ j % 2 = 1 := by omega
  rcases h2 with h2 | h2 <;> simp [h2]
def pw (z : Int) : Int := ((2 ^ z.toNat : Nat) : Int)
def bor (x y : Int) : Int := ((x.toNat ||| y.toNat : Nat) : Int)
theorem lShl1_tab : ∀ k, k < 63 → lShl 1 ((k : Nat) : Int) = pw k := by decide +kernel
theorem lShl1 {z : Int} (h : 0 ≤ z ∧ z < 63) : lShl 1 z = pw z := by
  obtain ⟨n, rfl⟩ := toN h.1
  exact lShl1_tab n (by omega)
theorem lOrB {x y : Int} (hx : 0 ≤ x ∧ x ≤ 9223372036854775807) (hy : 0 ≤ y ∧ y ≤ 9223372036854775807) : lOr x y = bor x y := by
  obtain ⟨a, rfl⟩ := toN hx.1
  obtain ⟨b, rfl⟩ := toN hy.1
  rw [lOr_nat (by omega) (by omega)]; rfl
theorem bor_in {x y : Int} (hx : 0 ≤ x ∧ x ≤ 9223372036854775807) (hy : 0 ≤ y ∧ y ≤ 9223372036854775807) : 0 ≤ bor x y ∧ bor x y ≤ 9223372036854775807 := by
  have h1 : x.toNat < 2 ^ 63 := by omega
  have h2 : y.toNat < 2 ^ 63 := by omega
  have := Nat.or_lt_two_pow h1 h2
  unfold bor
  omega
theorem tb_bor {x y k : Int} : tb (bor x y) k = (tb x k || tb y k) := by
  unfold tb bor; simp [Nat.testBit_or]
theorem tb_pw {z k : Int} (hz : 0 ≤ z) (hk : 0 ≤ k) : tb (pw z) k = decide (k = z) := by
  unfold tb pw
  rw [Int.toNat_natCast, Nat.testBit_two_pow]
  by_cases h : k = z
  · subst h; simp
  · simp [h]; omega
theorem pw_in {z : Int} (h : 0 ≤ z ∧ z < 63) : 0 ≤ pw z ∧ pw z ≤ 9223372036854775807 := by
  unfold pw
  have : 2 ^ z.toNat < 2 ^ 63 := Nat.pow_lt_pow_right (by omega) (by omega)
  generalize 2 ^ z.toNat = t at *
  omega
theorem tb_ext {x y : Int} {m : Nat} (hx : 0 ≤ x ∧ x < (2 ^ m : Nat)) (hy : 0 ≤ y ∧ y < (2 ^ m : Nat)) (h : ∀ k : Int, 0 ≤ k → k < m → tb x k = tb y k) : x = y := by
  have : x.toNat = y.toNat := by
    apply Nat.eq_of_testBit_eq
    intro i
    by_cases hi : i < m
    · have := h (i : Int) (by omega) (by omega)
      unfold tb at this
      simpa using this
    · have e1 : x.toNat < 2 ^ i := Nat.lt_of_lt_of_le (show x.toNat < 2 ^ m by omega) (Nat.pow_le_pow_right (by omega) (by omega))
      have e2 : y.toNat < 2 ^ i := Nat.lt_of_lt_of_le (show y.toNat < 2 ^ m by omega) (Nat.pow_le_pow_right (by omega) (by omega))
      rw [Nat.testBit_lt_two_pow e1, Nat.testBit_lt_two_pow e2]
  omega
def irr (r : Row) : Prop := ∀ p : Int, 0 ≤ p → p < 8 → tb (rL r p) p = false
theorem zOk_63 {r : Row} {z : Int} (hi : irr r) (h : zOk r z) : 0 ≤ z ∧ z < 63 := by
  obtain ⟨h0, h1, h2, h3⟩ := h
  refine ⟨h0.1, ?_⟩
  rcases Int.lt_or_le z 63 with q | q
  · exact q
  · have e : z = 63 := by omega
    subst e
    rw [show (63 : Int) / 8 = 7 from rfl, show (63 : Int) % 8 = 7 from rfl, hi 7 (by omega) (by omega)] at h3
    cases h3
def Rn (r : Row) (s : Int) : Nat → Int → Prop
  | 0, z => z = s
  | k + 1, z => ∃ y m : Int, Rn r s k y ∧ 0 ≤ m ∧ m ≤ 2 ∧ bhR r y m = z ∧ 0 ≤ z
def Rch (r : Row) (s z : Int) : Prop := ∃ k, Rn r s k z
def isReach (r : Row) (s v : Int) : Prop := (0 ≤ v ∧ v < 256) ∧ ∀ p : Int, 0 ≤ p → p < 8 → (tb v p = true ↔ ∃ z, Rch r s z ∧ z / 8 = p)
theorem isReach_uniq {r : Row} {s v w : Int} (h1 : isReach r s v) (h2 : isReach r s w) : v = w := by
  refine tb_ext (m := 8) (by have := h1.1; omega) (by have := h2.1; omega) (fun k k0 k1 => ?_)
  have e1 := h1.2 k k0 (by omega)
  have e2 := h2.2 k k0 (by omega)
  cases ha : tb v k <;> cases hb : tb w k
  · rfl
  · exact absurd (e1.mpr (e2.mp hb)) (by rw [ha]; simp)
  · exact absurd (e2.mpr (e1.mp ha)) (by rw [hb]; simp)
  · rfl
theorem Rn_ok {r : Row} {s : Int} (hs : sym r) (hn : rN r ≤ 8) (hz : zOk r s) : ∀ (k : Nat) {z : Int}, Rn r s k z → zOk r z
  | 0, z, h => by rw [Rn] at h; rw [h]; exact hz
  | k + 1, z, h => by
    obtain ⟨y, m, h1, h2, h3, h4, h5⟩ := h
    have hy := Rn_ok hs hn hz k h1
    rcases bhR_ok (m := m) hs hn hy ⟨h2, h3⟩ with ⟨e, -⟩ | e
    · omega
    · rw [← h4]; exact e
theorem Rch.step {r : Row} {s y m z : Int} (h : Rch r s y) (hm : 0 ≤ m ∧ m ≤ 2) (e : bhR r y m = z) (hz : 0 ≤ z) : Rch r s z := by
  obtain ⟨k, hk⟩ := h
  exact ⟨k + 1, y, m, hk, hm.1, hm.2, e, hz⟩
theorem Rch.closed {r : Row} {s : Int} (P : Int → Prop) (h0 : P s) (hc : ∀ y m z : Int, P y → 0 ≤ m → m ≤ 2 → bhR r y m = z → 0 ≤ z → P z) {z : Int} (h : Rch r s z) : P z := by
  obtain ⟨k, hk⟩ := h
  induction k generalizing z with
  | zero => rw [Rn] at hk; rw [hk]; exact h0
  | succ k ih =>
    obtain ⟨y, m, h1, h2, h3, h4, h5⟩ := hk
    exact hc y m z (ih h1) h2 h3 h4 h5
def oneM (r : Row) (z : Int) : Nat → Int
  | 0 => 0
  | m + 1 => if 0 ≤ bhR r z m then bor (oneM r z m) (pw (bhR r z m)) else oneM r z m
theorem oneM_step {r : Row} {z m : Int} (hm : 0 ≤ m) : oneM r z (m + 1).toNat = if 0 ≤ bhR r z m then bor (oneM r z m.toNat) (pw (bhR r z m)) else oneM r z m.toNat := by
  rw [show (m + 1).toNat = m.toNat + 1 by omega, oneM, show ((m.toNat : Nat) : Int) = m by omega]
theorem oneM_in {r : Row} {z : Int} (hs : sym r) (hn : rN r ≤ 8) (hi : irr r) (hz : zOk r z) : ∀ m : Nat, m ≤ 3 → 0 ≤ oneM r z m ∧ oneM r z m ≤ 9223372036854775807
  | 0, _ => by rw [oneM]; omega
  | m + 1, h => by
    have ih := oneM_in hs hn hi hz m (by omega)
    rw [oneM]
    split
    · rename_i hb
      refine bor_in ih (pw_in ?_)
      rcases bhR_ok (m := (m : Int)) hs hn hz (by omega) with ⟨e, -⟩ | e
      · omega
      · exact zOk_63 hi e
    · exact ih
theorem oneM_bit {r : Row} {z k : Int} (hk : 0 ≤ k) : ∀ m : Nat, tb (oneM r z m) k = true ↔ ∃ n : Nat, n < m ∧ bhR r z n = k
  | 0 => by rw [oneM, tb_0]; simp
  | m + 1 => by
    have ih := oneM_bit (r := r) (z := z) hk m
    rw [oneM]
    split
    · rename_i hb
      rw [tb_bor, Bool.or_eq_true, ih, tb_pw hb hk, decide_eq_true_eq]
      constructor
      · rintro (⟨n, h1, h2⟩ | h)
        · exact ⟨n, by omega, h2⟩
        · exact ⟨m, by omega, h.symm⟩
      · rintro ⟨n, h1, h2⟩
        by_cases e : n = m
        · subst e; exact Or.inr h2.symm
        · exact Or.inl ⟨n, by omega, h2⟩
    · rename_i hb
      rw [ih]
      constructor
      · rintro ⟨n, h1, h2⟩; exact ⟨n, by omega, h2⟩
      · rintro ⟨n, h1, h2⟩
        by_cases e : n = m
        · subst e; omega
        · exact ⟨n, by omega, h2⟩
def cntB (f : Nat → Bool) : Nat → Nat
  | 0 => 0
  | k + 1 => cntB f k + (if f k then 1 else 0)
theorem cntB_le (f : Nat → Bool) : ∀ k, cntB f k ≤ k
  | 0 => Nat.le_refl 0
  | k + 1 => by
    have := cntB_le f k
    rw [cntB]
    split <;> omega
theorem cntB_mono {f g : Nat → Bool} (h : ∀ i, f i = true → g i = true) : ∀ k, cntB f k ≤ cntB g k
  | 0 => Nat.le_refl 0
  | k + 1 => by
    have := cntB_mono h k
    have h2 := h k
    rw [cntB, cntB]
    cases hf : f k
    · simp only [Bool.false_eq_true, if_false]; omega
    · rw [h2 hf]; simp only [if_true]; omega
theorem cntB_lt {f g : Nat → Bool} (h : ∀ i, f i = true → g i = true) {z : Nat} (hf : f z = false) (hg : g z = true) : ∀ k, z < k → cntB f k + 1 ≤ cntB g k
  | 0, hz => absurd hz (Nat.not_lt_zero _)
  | k + 1, hz => by
    rw [cntB, cntB]
    by_cases e : z = k
    · subst e
      have := cntB_mono h z
      rw [hf, hg]
      simp only [Bool.false_eq_true, if_false, if_true]; omega
    · have := cntB_lt h hf hg k (by omega)
      have h2 := h k
      cases hfk : f k
      · simp only [Bool.false_eq_true, if_false]; omega
      · rw [h2 hfk]; simp only [if_true]; omega
def cntS (w : Int) : Nat := cntB (fun i => tb w (i : Int)) 64
theorem cntS_le (w : Int) : cntS w ≤ 64 := cntB_le _ 64
theorem cntS_lt {v w : Int} (hv : 0 ≤ v ∧ v ≤ 9223372036854775807) (hw : 0 ≤ w ∧ w ≤ 9223372036854775807) (h : ∀ k : Int, 0 ≤ k → tb v k = true → tb w k = true) (hne : w ≠ v) : cntS v + 1 ≤ cntS w := by
  have hx : ∃ z : Nat, z < 64 ∧ tb v z = false ∧ tb w z = true := by
    apply Classical.byContradiction
    intro hno
    apply hne
    refine tb_ext (m := 63) (by omega) (by omega) (fun k k0 k1 => ?_)
    obtain ⟨n, rfl⟩ := toN k0
    cases ha : tb w n <;> cases hb : tb v n
    · rfl
    · exact absurd (h n (by omega) hb) (by rw [ha]; simp)
    · exact absurd ⟨n, by omega, hb, ha⟩ hno
    · rfl
  obtain ⟨z, h1, h2, h3⟩ := hx
  exact cntB_lt (fun i hi => h i (by omega) hi) h2 h3 64 h1
theorem zOk_of_rch {r : Row} {s z : Int} (hs : sym r) (hn : rN r ≤ 8) (hz : zOk r s) (h : Rch r s z) : zOk r z := by
  obtain ⟨k, hk⟩ := h
  exact Rn_ok hs hn hz k hk
theorem bhR_in {r : Row} {z m : Int} (hn : rN r ≤ 8) : bhR r z m = -4 ∨ (0 ≤ bhR r z m ∧ bhR r z m < 64) := by
  unfold bhR
  split
  · exact nxR_in hn
  · exact Or.inl rfl
