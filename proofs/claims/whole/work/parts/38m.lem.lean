/-! what is tried on the row and laid back -/
theorem z0_ok {D : Dat} (h : gdR (rowM D 284 0)) : zOk (rowM D 284 0) (8 * D 284 1 + D 284 2) := by
  have hf := h.1.2.2.1
  have hb := h.1.2.2.2
  have hl := h.2.2.2
  have h8 := h.1.2.1.2.1
  rw [mF] at hf
  rw [mB] at hb
  rw [mF, mB] at hl
  have e1 : (8 * D 284 1 + D 284 2) / 8 = D 284 1 := by omega
  have e2 : (8 * D 284 1 + D 284 2) % 8 = D 284 2 := by omega
  refine ⟨by omega, ?_, ?_, ?_⟩
  · rw [e1]; exact hf
  · rw [e2]; exact hb
  · rw [e1, e2]; exact hl
def asF (D E : Dat) : Prop := (∀ c, c ≠ 283 → c ≠ 284 → c ≠ 289 → c ≠ 294 → E c = D c) ∧ (∀ j : Int, j ≠ 13 → E 283 j = D 283 j) ∧ ∀ i : Int, 0 ≤ i → i < 52 → E 289 i = D 284 i
def bkF (D E : Dat) : Prop := rowM E 284 0 = rowM D 284 0 ∧ (∀ c, c ≠ 283 → c ≠ 284 → c ≠ 289 → c ≠ 294 → E c = D c) ∧ ∀ j : Int, j ≠ 13 → E 283 j = D 283 j
theorem asF.of {D E : Dat} (h : cpF D E 289 0 284 0 52) : asF D E := ⟨fun c _ _ h3 _ => h.2.2 c h3, fun j _ => by rw [h.2.2 283 (by omega)], fun i h0 h1 => by
  have := h.1 i h0 h1
  simpa using this⟩
theorem asF.mv {D E F : Dat} (h : asF D E) (g : ∀ c, c ≠ 284 → F c = E c) : asF D F := ⟨fun c h1 h2 h3 h4 => (g c h2).trans (h.1 c h1 h2 h3 h4), fun j hj => by rw [g 283 (by omega)]; exact h.2.1 j hj, fun i h0 h1 => by rw [g 289 (by omega)]; exact h.2.2 i h0 h1⟩
theorem asF.nt {D E : Dat} {v : Int} (h : asF D E) : asF D (upD E 283 13 v) := ⟨fun c h1 h2 h3 h4 => (upD_other h1).trans (h.1 c h1 h2 h3 h4), fun j hj => (upD_n (Or.inr hj)).trans (h.2.1 j hj), fun i h0 h1 => by rw [upD_other (by omega)]; exact h.2.2 i h0 h1⟩
theorem asF.en {D E : Dat} {i v : Int} (h : asF D E) : asF D (upD E 294 i v) := ⟨fun c h1 h2 h3 h4 => (upD_other h4).trans (h.1 c h1 h2 h3 h4), fun j hj => (upD_n (Or.inl (by omega))).trans (h.2.1 j hj), fun i h0 h1 => by rw [upD_other (by omega)]; exact h.2.2 i h0 h1⟩
theorem asF.bk {D E F : Dat} (h : asF D E) (g : cpF E F 284 0 289 0 52) : asF D F ∧ bkF D F := by
  have h1 : asF D F := h.mv (fun c hc => g.2.2 c hc)
  refine ⟨h1, ?_, h1.1, h1.2.1⟩
  refine row_cp (fun i h0 h2 => ?_)
  have e := g.1 i h0 h2
  have e2 := h.2.2 i h0 h2
  simp only [Int.zero_add] at e ⊢
  rw [e, e2]
theorem row_nt {E : Dat} {v : Int} : rowM (upD E 283 13 v) 284 0 = rowM E 284 0 := rowM_up_o (Or.inl (by omega))
theorem gd_c {D E : Dat} (h : gdR (rowM D 284 0)) (e : rowM E 284 0 = rowM D 284 0) : gdR (rowM E 284 0) := by rw [e]; exact h
theorem gd_g {D : Dat} (h : gdR (rowM D 284 0)) : 0 < D 284 0 ∧ D 284 1 < D 284 0 ∧ D 284 2 < D 284 0 := by
  have hf := h.1.2.2.1
  have hb := h.1.2.2.2
  rw [mF, mN] at hf
  rw [mB, mN] at hb
  omega
theorem gd_o {D : Dat} (h : gdR (rowM D 284 0)) : mOk D 284 := h.1.2.1
theorem gd_ct (r : Row) (h : gdR r) : 0 ≤ comesR r 2 := h.1.2.2.2.1
/-- the greatest divisor -/
def gI (a b : Int) : Int := ((Nat.gcd a.toNat b.toNat : Nat) : Int)
theorem gI_s {a b : Int} (ha : 0 ≤ a) (hb : 0 < b) : gI b (a % b) = gI a b := by
  obtain ⟨m, rfl⟩ := toN ha
  obtain ⟨n, rfl⟩ := toN (Int.le_of_lt hb)
  unfold gI
  have e : ((m : Int) % (n : Int)).toNat = m % n := by
    have : (m : Int) % (n : Int) = ((m % n : Nat) : Int) := rfl
    rw [this, Int.toNat_natCast]
  rw [e, Int.toNat_natCast, Int.toNat_natCast, Nat.gcd_comm n (m % n), ← Nat.gcd_rec, Nat.gcd_comm]
theorem gI_z {a : Int} (ha : 0 ≤ a) : gI a 0 = a := by
  unfold gI
  rw [show (0 : Int).toNat = 0 from rfl, Nat.gcd_zero_right]; omega
theorem gI_pos {a b : Int} (hb : 0 < b) : 0 < gI a b := by
  unfold gI
  have := Nat.gcd_pos_of_pos_right (n := b.toNat) a.toNat (by omega)
  omega
theorem gI_le {a b : Int} (hb : 0 < b) : gI a b ≤ b := by
  unfold gI
  have := Nat.gcd_le_right (n := b.toNat) a.toNat (by omega)
  omega
theorem emod_in {a b : Int} (hb : 0 < b) : 0 ≤ a % b ∧ a % b < b := ⟨Int.emod_nonneg a (by omega), Int.emod_lt_of_pos a hb⟩
def bnd : Nat → Int
  | 0 => 1
  | c + 1 => (3 * bnd c + 2) / 2
theorem bnd_s {a b : Int} {c : Nat} (hb : 0 < b) (hab : b < a) (h : a + b ≤ bnd (c + 1)) : a % b < b ∧ b + a % b ≤ bnd c := by
  have h1 := emod_in (a := a) hb
  have h2 : b * (a / b) + a % b = a := Int.mul_ediv_add_emod a b
  have h3 : 1 ≤ a / b := by
    rcases Int.lt_or_le (a / b) 1 with q | q
    · have : b * (a / b) ≤ b * 0 := Int.mul_le_mul_of_nonneg_left (by omega) (by omega)
      omega
    · exact q
  have h4 : b * 1 ≤ b * (a / b) := Int.mul_le_mul_of_nonneg_left h3 (by omega)
  rw [bnd] at h
  omega
theorem bnd_40 : 2000000 ≤ bnd 40 := by decide +kernel
/-- moves by the bits of a set -/
def bt (s t : Int) : Int := if tb s t then 1 else 0
theorem bt_in (s t : Int) : 0 ≤ bt s t ∧ bt s t ≤ 1 := by unfold bt; split <;> omega
def wHm (q : Int) : Nat → Int → Int → Int
  | 0, _, _ => 1
  | k + 1, t, s => wtq q (bt s t) * wHm q k (t + 1) s
def eHm : Nat → Int → Int → Row → Row
  | 0, _, _, r => r
  | k + 1, t, s, r => eHm k (t + 1) s (goR r (mvR r (bt s t)))
def sumI (f : Int → Int) : Nat → Int
  | 0 => 0
  | k + 1 => sumI f k + f k
theorem sumI_step {f : Int → Int} {k : Int} (hk : 0 ≤ k) : sumI f (k + 1).toNat = sumI f k.toNat + f k := by
  rw [show (k + 1).toNat = k.toNat + 1 by omega, sumI, show ((k.toNat : Nat) : Int) = k by omega]
theorem sumI_2 (f : Int → Int) : ∀ k : Nat, sumI f (2 * k) = sumI (fun s => f (2 * s) + f (2 * s + 1)) k
  | 0 => rfl
  | k + 1 => by
    rw [show 2 * (k + 1) = 2 * k + 1 + 1 by omega, sumI, sumI, sumI_2 f k, sumI]
    rw [show ((2 * k : Nat) : Int) = 2 * (k : Int) by omega, show ((2 * k + 1 : Nat) : Int) = 2 * (k : Int) + 1 by omega]
    omega
theorem sumI_c {f g : Int → Int} : ∀ k : Nat, (∀ i : Int, 0 ≤ i → i < k → f i = g i) → sumI f k = sumI g k
  | 0, _ => rfl
  | k + 1, h => by
    rw [sumI, sumI, sumI_c k (fun i h0 h1 => h i h0 (by omega)), h k (by omega) (by omega)]
theorem sumI_mul (c : Int) (f : Int → Int) : ∀ k : Nat, sumI (fun s => c * f s) k = c * sumI f k
  | 0 => by rw [sumI, sumI, Int.mul_zero]
  | k + 1 => by rw [sumI, sumI, sumI_mul c f k, Int.mul_add]
theorem sumI_add (f g : Int → Int) : ∀ k : Nat, sumI (fun s => f s + g s) k = sumI f k + sumI g k
  | 0 => rfl
  | k + 1 => by rw [sumI, sumI, sumI, sumI_add f g k]; omega
theorem bt_2 {s t : Int} {b : Int} (hs : 0 ≤ s) (ht : 0 ≤ t) (hb : b = 0 ∨ b = 1) : bt (2 * s + b) (t + 1) = bt s t := by
  unfold bt tb
  obtain ⟨m, rfl⟩ := toN hs
  obtain ⟨n, rfl⟩ := toN ht
  have e : (2 * (m : Int) + b).toNat = 2 * m + b.toNat := by omega
  rw [e, show ((n : Int) + 1).toNat = n + 1 by omega, Int.toNat_natCast, Int.toNat_natCast, Nat.testBit_succ, show (2 * m + b.toNat) / 2 = m by omega]
theorem bt_0 {s b : Int} (hs : 0 ≤ s) (hb : b = 0 ∨ b = 1) : bt (2 * s + b) 0 = b := by
  unfold bt tb
  obtain ⟨m, rfl⟩ := toN hs
  have e : (2 * (m : Int) + b).toNat = 2 * m + b.toNat := by omega
  rw [e, show (0 : Int).toNat = 0 from rfl, Nat.testBit_zero]
  rcases hb with rfl | rfl <;> simp <;> omega
theorem wHm_2 {q s b : Int} (hs : 0 ≤ s) (hb : b = 0 ∨ b = 1) : ∀ (k : Nat) (t : Int), 0 ≤ t → wHm q k (t + 1) (2 * s + b) = wHm q k t s
  | 0, _, _ => rfl
  | k + 1, t, ht => by rw [wHm, wHm, bt_2 hs ht hb, wHm_2 hs hb k (t + 1) (by omega)]
theorem eHm_2 {s b : Int} (hs : 0 ≤ s) (hb : b = 0 ∨ b = 1) : ∀ (k : Nat) (t : Int) (r : Row), 0 ≤ t → eHm k (t + 1) (2 * s + b) r = eHm k t s r
  | 0, _, _, _ => rfl
  | k + 1, t, r, ht => by rw [eHm, eHm, bt_2 hs ht hb, eHm_2 hs hb k (t + 1) _ (by omega)]
theorem below_eq {q : Int} : ∀ k : Nat, sumI (fun s => wHm q k 0 s) (2 ^ k) = (10 : Int) ^ k
  | 0 => by simp [sumI, wHm]
  | k + 1 => by
    rw [show 2 ^ (k + 1) = 2 * 2 ^ k by omega, sumI_2, Int.pow_succ, ← below_eq (q := q) k]
    rw [sumI_c (g := fun s => 10 * wHm q k 0 s) (2 ^ k) (fun i h0 h1 => ?_), sumI_mul, Int.mul_comm]
    have e0 := wHm_2 (q := q) (s := i) (b := 0) h0 (Or.inl rfl) k 0 (by omega)
    have e1 := wHm_2 (q := q) (s := i) (b := 1) h0 (Or.inr rfl) k 0 (by omega)
    have b0 := bt_0 (s := i) (b := 0) h0 (Or.inl rfl)
    have b1 := bt_0 (s := i) (b := 1) h0 (Or.inr rfl)
    simp only [Int.add_zero] at e0 b0
    show wHm q (k + 1) 0 (2 * i) + wHm q (k + 1) 0 (2 * i + 1) = _
    rw [wHm, wHm, b0, b1, e0, e1, ← Int.add_mul]
    congr 1
    show q + (10 - q) = 10
    omega
theorem above_eq {p q : Int} (hq : 0 ≤ q ∧ q ≤ 10) : ∀ (k : Nat) (r : Row), sumI (fun s => if rF (eHm k 0 s r) = p then wHm q k 0 s else 0) (2 ^ k) = partsR p q k r
  | 0, r => by
    show (0 : Int) + (if rF r = p then 1 else 0) = if rF r = p then 1 else 0
    rw [Int.zero_add]
  | k + 1, r => by
    rw [show 2 ^ (k + 1) = 2 * 2 ^ k by omega, sumI_2, partsR]
    rw [sumI_c (g := fun s => q * (fun s => if rF (eHm k 0 s (goR r (mvR r 0))) = p then wHm q k 0 s else 0) s + (10 - q) * (fun s => if rF (eHm k 0 s (goR r (mvR r 1))) = p then wHm q k 0 s else 0) s) (2 ^ k) (fun i h0 h1 => ?_), sumI_add, sumI_mul, sumI_mul, above_eq hq k, above_eq hq k]
    · congr 1
      · split
        · rfl
        · rw [show q = 0 by omega, Int.zero_mul]
      · split
        · rfl
        · rw [show 10 - q = 0 by omega, Int.zero_mul]
    · have e0 := wHm_2 (q := q) (s := i) (b := 0) h0 (Or.inl rfl) k 0 (by omega)
      have e1 := wHm_2 (q := q) (s := i) (b := 1) h0 (Or.inr rfl) k 0 (by omega)
      have b0 := bt_0 (s := i) (b := 0) h0 (Or.inl rfl)
      have b1 := bt_0 (s := i) (b := 1) h0 (Or.inr rfl)
      have f0 := fun r => eHm_2 (s := i) (b := 0) h0 (Or.inl rfl) k 0 r (by omega)
      have f1 := fun r => eHm_2 (s := i) (b := 1) h0 (Or.inr rfl) k 0 r (by omega)
      simp only [Int.add_zero] at e0 b0 f0
      show (if rF (eHm (k + 1) 0 (2 * i) r) = p then wHm q (k + 1) 0 (2 * i) else 0) + (if rF (eHm (k + 1) 0 (2 * i + 1) r) = p then wHm q (k + 1) 0 (2 * i + 1) else 0) = _
      rw [wHm, wHm, eHm, eHm, b0, b1, e0, e1, f0, f1]
      show (if _ then q * _ else 0) + (if _ then (10 - q) * _ else 0) = _
      congr 1
      · by_cases hc : rF (eHm k 0 i (goR r (mvR r 0))) = p
        · rw [if_pos hc]; dsimp only; rw [if_pos hc]
        · rw [if_neg hc]; dsimp only; rw [if_neg hc, Int.mul_zero]
      · by_cases hc : rF (eHm k 0 i (goR r (mvR r 1))) = p
        · rw [if_pos hc]; dsimp only; rw [if_pos hc]
        · rw [if_neg hc]; dsimp only; rw [if_neg hc, Int.mul_zero]
