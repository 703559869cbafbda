/-! moves on rows: what stays, what is foretold of them -/
def pOk (r : Row) : Prop := r.length = 52 ∧ rOk r ∧ (0 ≤ rF r ∧ rF r < rN r) ∧ (0 ≤ rB r ∧ rB r < rN r)
def flexR (r : Row) (c e w s : Int) : Row := ((((r.set 3 e).set (28 + c.toNat) w).set (36 + c.toNat) s).set 2 (rF r)).set 1 c
theorem rg_flex {r : Row} {c e w s : Int} {j : Nat} {i : Int} (hl : r.length = 52) (hj : j + i.toNat < 52) : rg (flexR r c e w s) j i = if j + i.toNat = 1 then c else if j + i.toNat = 2 then rF r else if j + i.toNat = 36 + c.toNat then s else if j + i.toNat = 28 + c.toNat then w else if j + i.toNat = 3 then e else rg r j i := by
  unfold flexR
  have l1 := set_len (j := 3) (v := e) hl
  have l2 := set_len (j := 28 + c.toNat) (v := w) l1
  have l3 := set_len (j := 36 + c.toNat) (v := s) l2
  have l4 := set_len (j := 2) (v := rF r) l3
  rw [rg_set l4 hj, rg_set l3 hj, rg_set l2 hj, rg_set l1 hj, rg_set hl hj]
section Flx
variable {r : Row} {c e w s q : Int}
theorem fl_len (hl : r.length = 52) : (flexR r c e w s).length = 52 := by unfold flexR; simpa using hl
theorem fl_N (hl : r.length = 52) (hc : 0 ≤ c ∧ c < 8) : rN (flexR r c e w s) = rN r := by
  unfold rN; rw [rg_flex hl (by decide), if_neg (by decide), if_neg (by decide), if_neg (by simp; omega), if_neg (by simp; omega), if_neg (by decide)]
theorem fl_F (hl : r.length = 52) : rF (flexR r c e w s) = c := by
  unfold rF; rw [rg_flex hl (by decide), if_pos (by decide)]
theorem fl_B (hl : r.length = 52) : rB (flexR r c e w s) = rF r := by
  unfold rB; rw [rg_flex hl (by decide), if_neg (by decide), if_pos (by decide)]
theorem fl_E (hl : r.length = 52) (hc : 0 ≤ c ∧ c < 8) : rE (flexR r c e w s) = e := by
  unfold rE; rw [rg_flex hl (by decide), if_neg (by decide), if_neg (by decide), if_neg (by simp; omega), if_neg (by simp; omega), if_pos (by decide)]
theorem fl_K (hl : r.length = 52) (hc : 0 ≤ c ∧ c < 8) (hq : 0 ≤ q ∧ q < 8) : rK (flexR r c e w s) q = rK r q := by
  unfold rK; rw [rg_flex hl (by omega), if_neg (by omega), if_neg (by omega), if_neg (by omega), if_neg (by omega), if_neg (by omega)]
theorem fl_W (hl : r.length = 52) (hc : 0 ≤ c ∧ c < 8) (hq : 0 ≤ q ∧ q < 8) : rW (flexR r c e w s) q = rW r q := by
  unfold rW; rw [rg_flex hl (by omega), if_neg (by omega), if_neg (by omega), if_neg (by omega), if_neg (by omega), if_neg (by omega)]
theorem fl_Be (hl : r.length = 52) (hc : 0 ≤ c ∧ c < 8) (hq : 0 ≤ q ∧ q < 8) : rBe (flexR r c e w s) q = rBe r q := by
  unfold rBe; rw [rg_flex hl (by omega), if_neg (by omega), if_neg (by omega), if_neg (by omega), if_neg (by omega), if_neg (by omega)]
theorem fl_L (hl : r.length = 52) (hc : 0 ≤ c ∧ c < 8) (hq : 0 ≤ q ∧ q < 8) : rL (flexR r c e w s) q = rL r q := by
  unfold rL; rw [rg_flex hl (by omega), if_neg (by omega), if_neg (by omega), if_neg (by omega), if_neg (by omega), if_neg (by omega)]
theorem fl_We (hl : r.length = 52) (hc : 0 ≤ c ∧ c < 8) (hq : 0 ≤ q ∧ q < 8) : rWe (flexR r c e w s) q = if q = c then w else rWe r q := by
  unfold rWe; rw [rg_flex hl (by omega), if_neg (by omega), if_neg (by omega), if_neg (by omega)]
  by_cases h : q = c
  · rw [if_pos (by omega), if_pos h]
  · rw [if_neg (by omega), if_neg (by omega), if_neg h]
theorem fl_Sh (hl : r.length = 52) (hc : 0 ≤ c ∧ c < 8) (hq : 0 ≤ q ∧ q < 8) : rSh (flexR r c e w s) q = if q = c then s else rSh r q := by
  unfold rSh; rw [rg_flex hl (by omega), if_neg (by omega), if_neg (by omega)]
  by_cases h : q = c
  · rw [if_pos (by omega), if_pos h]
  · rw [if_neg (by omega), if_neg (by omega), if_neg (by omega), if_neg h]
end Flx
def turnR (r : Row) : Row := ((r.set 3 (rE r + 1)).set 2 (rF r)).set 1 (rB r)
theorem rg_turn {r : Row} {j : Nat} {i : Int} (hl : r.length = 52) (hj : j + i.toNat < 52) : rg (turnR r) j i = if j + i.toNat = 1 then rB r else if j + i.toNat = 2 then rF r else if j + i.toNat = 3 then rE r + 1 else rg r j i := by
  unfold turnR
  have l1 := set_len (j := 3) (v := rE r + 1) hl
  have l4 := set_len (j := 2) (v := rF r) l1
  rw [rg_set l4 hj, rg_set l1 hj, rg_set hl hj]
theorem goR_cases {r : Row} {m : Int} (hb : 0 ≤ rB r) : (comesR r m < 0 ∧ goR r m = r) ∨ (0 ≤ comesR r m ∧ m = 2 ∧ goR r m = turnR r) ∨ (0 ≤ comesR r m ∧ m ≠ 2 ∧ goR r m = flexR r (comesR r m) (rE r + effK (rK r (comesR r m)) (rSh r (comesR r m))) (rWe r (comesR r m) + wearK (rK r (comesR r m))) (if rSh r (comesR r m) + 1 < 99 then rSh r (comesR r m) + 1 else 99)) := by
  by_cases h : comesR r m < 0
  · exact Or.inl ⟨h, goR_no h⟩
  · by_cases hm : m = 2
    · subst hm
      exact Or.inr (Or.inl ⟨by omega, rfl, goR_turn hb⟩)
    · exact Or.inr (Or.inr ⟨by omega, hm, goR_flex hm rfl (by omega)⟩)
theorem comesR_nt {r : Row} {m : Int} (hm : m ≠ 2) (h : 0 ≤ comesR r m) (hn : comesR r m < rN r) : rWe r (comesR r m) < rBe r (comesR r m) := by
  unfold comesR at h hn ⊢
  rw [if_neg hm] at h hn ⊢
  split at h
  · omega
  · rename_i hz
    rw [if_neg hz] at hn ⊢
    have : ¬ (rBe r (thX r (rF r) (rB r) m) ≤ rWe r (thX r (rF r) (rB r) m)) := fun z => hz ⟨⟨h, hn⟩, z⟩
    omega
theorem goR_ok {r : Row} {m : Int} (h : pOk r) : pOk (goR r m) ∧ rN (goR r m) = rN r := by
  obtain ⟨hl, ⟨h1, h2, h3, h4, h5⟩, hf, hb⟩ := h
  rcases goR_cases (r := r) (m := m) hb.1 with ⟨-, e⟩ | ⟨-, -, e⟩ | ⟨hc, hm, e⟩
  · rw [e]; exact ⟨⟨hl, ⟨h1, h2, h3, h4, h5⟩, hf, hb⟩, rfl⟩
  · rw [e]
    have e0 : rN (turnR r) = rN r := by unfold rN; rw [rg_turn hl (by decide), if_neg (by decide), if_neg (by decide), if_neg (by decide)]
    have e1 : rF (turnR r) = rB r := by unfold rF; rw [rg_turn hl (by decide), if_pos (by decide)]
    have e2 : rB (turnR r) = rF r := by unfold rB; rw [rg_turn hl (by decide), if_neg (by decide), if_pos (by decide)]
    refine ⟨⟨by unfold turnR; simpa using hl, ?_, by rw [e0, e1]; exact hb, by rw [e0, e2]; exact hf⟩, e0⟩
    unfold rOk
    rw [e0, e1, e2]
    refine ⟨h1, h2, h4, h3, fun q q1 q2 => ?_⟩
    have h6 := h5 q q1 q2
    have g : ∀ j : Nat, 4 ≤ j → j + q.toNat < 52 → rg (turnR r) j q = rg r j q := fun j j1 j2 => by rw [rg_turn hl j2, if_neg (by omega), if_neg (by omega), if_neg (by omega)]
    unfold rK rW rBe rWe rSh rL at h6 ⊢
    rw [g 4 (by omega) (by omega), g 12 (by omega) (by omega), g 20 (by omega) (by omega), g 28 (by omega) (by omega), g 36 (by omega) (by omega), g 44 (by omega) (by omega)]
    exact h6
  · have hin := comesR_in (r := r) (m := m) (by omega) hb
    have hc2 : comesR r m < rN r := by omega
    have hnt := comesR_nt hm hc hc2
    generalize hcc : comesR r m = c at *
    rw [e]
    have h7 := h5 c hc (by omega)
    have hw := wearK_in (rK r c)
    refine ⟨⟨fl_len hl, ?_, by rw [fl_F hl, fl_N hl (by omega)]; omega, by rw [fl_B hl, fl_N hl (by omega)]; exact hf⟩, fl_N hl (by omega)⟩
    unfold rOk
    rw [fl_N hl (by omega), fl_F hl, fl_B hl]
    refine ⟨h1, h2, by omega, h3, fun q q1 q2 => ?_⟩
    have h6 := h5 q q1 q2
    rw [fl_K hl (by omega) ⟨q1, q2⟩, fl_W hl (by omega) ⟨q1, q2⟩, fl_Be hl (by omega) ⟨q1, q2⟩, fl_We hl (by omega) ⟨q1, q2⟩, fl_Sh hl (by omega) ⟨q1, q2⟩, fl_L hl (by omega) ⟨q1, q2⟩]
    refine ⟨h6.1, h6.2.1, h6.2.2.1, ?_, ?_, h6.2.2.2.2.2.1, h6.2.2.2.2.2.2⟩
    · split
      · omega
      · exact h6.2.2.2.1
    · split
      · split <;> omega
      · exact h6.2.2.2.2.1
def mvR (r : Row) (m : Int) : Int := if 0 ≤ comesR r m then m else 2
def partsR (p q : Int) : Nat → Row → Int
  | 0, r => if rF r = p then 1 else 0
  | k + 1, r => (if 0 < q then q * partsR p q k (goR r (mvR r 0)) else 0) + (if 0 < 10 - q then (10 - q) * partsR p q k (goR r (mvR r 1)) else 0)
def gStep (r : Row) (f : Row → Int) (m b : Int) : Int := if 0 ≤ comesR r m then (if b < (if m = 2 then 0 else rW r (comesR r m)) - f (goR r m) then (if m = 2 then 0 else rW r (comesR r m)) - f (goR r m) else b) else b
def gainR : Nat → Row → Int
  | 0, _ => 0
  | k + 1, r => gStep r (gainR k) 2 (gStep r (gainR k) 1 (gStep r (gainR k) 0 (-1000)))
theorem gStep_in {r : Row} {f : Row → Int} {m b B : Int} (h : pOk r) (hf : -B ≤ f (goR r m) ∧ f (goR r m) ≤ B) (hb : -(B + 9) ≤ b ∧ b ≤ B + 9) : -(B + 9) ≤ gStep r f m b ∧ gStep r f m b ≤ B + 9 := by
  unfold gStep
  split
  · rename_i hc
    have hin := comesR_in (r := r) (m := m) (by have := h.2.2.1; omega) h.2.2.2
    have hn := h.2.1.2.1
    have hw := (h.2.1.2.2.2.2 (comesR r m) hc (by omega)).2.1
    split
    · split <;> omega
    · omega
  · omega
theorem gainR_in : ∀ (k : Nat) {r : Row}, pOk r → -(1000 + 9 * (k : Int)) ≤ gainR k r ∧ gainR k r ≤ 1000 + 9 * (k : Int)
  | 0, r, _ => by rw [gainR]; omega
  | k + 1, r, h => by
    have i : ∀ m : Int, -(1000 + 9 * (k : Int)) ≤ gainR k (goR r m) ∧ gainR k (goR r m) ≤ 1000 + 9 * (k : Int) := fun m => gainR_in k (goR_ok (m := m) h).1
    have s0 := gStep_in (b := -1000) h (i 0) (by omega)
    have s1 := gStep_in h (i 1) s0
    have s2 := gStep_in h (i 2) s1
    rw [gainR]
    omega
def drawR : Nat → Int → Row → Row
  | 0, _, r => r
  | n + 1, x, r => drawR n (16807 * x % 2147483647) (goR r (mvR r (16807 * x % 2147483647 / 8 % 3)))
theorem hGo {k : Int} (h : 0 ≤ k ∧ k < 7) : Fx 197 k.toNat = some (stGo k.toNat) ∧ isStrip (stGo k.toNat) := tGo k.toNat (by omega)
theorem pOk.s {D : Dat} {a : Nat} (h : pOk (rowX D a)) : sOk D a := h.2.1
theorem pOk.f {D : Dat} {a : Nat} (h : pOk (rowX D a)) : 0 ≤ D a 7 ∧ D a 7 < D a 6 := h.2.2.1
theorem pOk.b {D : Dat} {a : Nat} (h : pOk (rowX D a)) : 0 ≤ D a 8 ∧ D a 8 < D a 6 := h.2.2.2
def wtq (q s : Int) : Int := if s = 0 then q else 10 - q
def partT (p q : Int) (k : Nat) (r : Row) (s : Int) : Int := if 0 < wtq q s then wtq q s * partsR p q k (goR r (mvR r s)) else 0
def pS (T : Int → Int) (s : Int) : Int := (if 1 ≤ s then T 0 else 0) + (if 2 ≤ s then T 1 else 0)
theorem pS_step {T : Int → Int} {s : Int} (h : 0 ≤ s ∧ s ≤ 1) : pS T (s + 1) = pS T s + T s := by
  unfold pS
  have : s = 0 ∨ s = 1 := by omega
  rcases this with rfl | rfl <;> simp
theorem partsR_pS {p q : Int} {k : Int} {r : Row} (hk : 1 ≤ k) : partsR p q k.toNat r = pS (partT p q (k - 1).toNat r) 2 := by
  rw [show k.toNat = (k - 1).toNat + 1 by omega]
  rfl
def gS (r : Row) (f : Row → Int) : Nat → Int
  | 0 => -1000
  | m + 1 => gStep r f m (gS r f m)
theorem gS_step {r : Row} {f : Row → Int} {m : Int} (h : 0 ≤ m) : gS r f (m + 1).toNat = gStep r f m (gS r f m.toNat) := by
  rw [show (m + 1).toNat = m.toNat + 1 by omega, gS, show ((m.toNat : Nat) : Int) = m by omega]
theorem gainR_gS {k : Int} {r : Row} (hk : 1 ≤ k) : gainR k.toNat r = gS r (gainR (k - 1).toNat) 3 := by
  rw [show k.toNat = (k - 1).toNat + 1 by omega]
  rfl
theorem gS_in {r : Row} {k : Nat} (h : pOk r) (hk : k ≤ 6) : ∀ m : Nat, -2000 ≤ gS r (gainR k) m ∧ gS r (gainR k) m ≤ 2000
  | 0 => by rw [gS]; omega
  | m + 1 => by
    have ih := gS_in h hk m
    have g := gainR_in k (goR_ok (m := (m : Int)) h).1
    have := gStep_in (f := gainR k) (m := (m : Int)) (b := gS r (gainR k) m) (B := 1991) h (by omega) (by omega)
    rw [gS]
    omega
theorem isS198 : isStrip 198 := by unfold isStrip; decide +kernel
theorem partsR_in {p q : Int} (hq : 0 ≤ q ∧ q ≤ 10) : ∀ (k : Nat) (r : Row), 0 ≤ partsR p q k r ∧ partsR p q k r ≤ (10 : Int) ^ k
  | 0, r => by rw [partsR]; split <;> simp
  | k + 1, r => by
    have h0 := partsR_in (p := p) hq k (goR r (mvR r 0))
    have h1 := partsR_in (p := p) hq k (goR r (mvR r 1))
    rw [partsR, Int.pow_succ]
    generalize partsR p q k (goR r (mvR r 0)) = x at *
    generalize partsR p q k (goR r (mvR r 1)) = y at *
    generalize (10 : Int) ^ k = z at *
    have a1 : q * x ≤ q * z := Int.mul_le_mul_of_nonneg_left h0.2 hq.1
    have a2 : (10 - q) * y ≤ (10 - q) * z := Int.mul_le_mul_of_nonneg_left h1.2 (by omega)
    have a3 : 0 ≤ q * x := Int.mul_nonneg hq.1 h0.1
    have a4 : 0 ≤ (10 - q) * y := Int.mul_nonneg (by omega) h1.1
    have a5 : q * z + (10 - q) * z = z * 10 := by rw [← Int.add_mul]; rw [show q + (10 - q) = 10 by omega, Int.mul_comm]
    have a6 : 0 ≤ q * z := Int.mul_nonneg hq.1 (by omega)
    have a7 : 0 ≤ (10 - q) * z := Int.mul_nonneg (by omega) (by omega)
    split <;> split <;> omega
