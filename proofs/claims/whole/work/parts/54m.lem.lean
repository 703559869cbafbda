/-! a strip that is there: folded as it can be -/
def Vr (r : Row) : Prop := pOk r ∧ 3 ≤ rN r ∧ tb (rL r (rF r)) (rB r) = true ∧ ∃ n c : Nat, eqC c (sF n (n - 3)) = true ∧ mrow r n (unC c)
theorem mr_tb {r : Row} {n : Nat} {L : LL} {p q : Int} (h : mrow r n L) (hp : 0 ≤ p ∧ p < 8) (hq : 0 ≤ q) : tb (rL r p) q = (L.getD p.toNat 0).testBit q.toNat := by
  obtain ⟨k, rfl⟩ := toN hp.1
  obtain ⟨j, rfl⟩ := toN hq
  rw [h.2.2.2.2 k (by omega), tb_nat]; rfl
theorem mr_sym {r : Row} {n c : Nat} (h : mrow r n (unC c)) (hk : ok1 n c = true) : sym8 r := fun p q p0 p1 q0 q1 => by
  rw [mr_tb h ⟨p0, p1⟩ q0, mr_tb h ⟨q0, q1⟩ p0]
  exact ((ok1_at hk).1 p.toNat (by omega)).2.2.2 q.toNat (by omega)
theorem mr_irr {r : Row} {n c : Nat} (h : mrow r n (unC c)) (hk : ok1 n c = true) : irr r := fun p p0 p1 => by
  rw [mr_tb h ⟨p0, p1⟩ p0]
  exact ((ok1_at hk).1 p.toNat (by omega)).2.1
theorem mr_lb {r : Row} {n c : Nat} (h : mrow r n (unC c)) (hk : ok1 n c = true) {p q : Int} (hp : 0 ≤ p ∧ p < 8) (hq : 0 ≤ q) (ht : tb (rL r p) q = true) : q < rN r := by
  rw [mr_tb h hp hq] at ht
  have := ((ok1_at hk).1 p.toNat (by omega)).1
  rcases Nat.lt_or_ge q.toNat n with w | w
  · rw [h.2.2.1]; omega
  · rw [Nat.testBit_lt_two_pow (Nat.lt_of_lt_of_le this (Nat.pow_le_pow_right (by decide) w))] at ht
    cases ht
theorem mr_th {r : Row} {n : Nat} {L : LL} {a b s : Int} (h : mrow r n L) (ha : 0 ≤ a ∧ a < 8) (hb : 0 ≤ b ∧ b < 8) : thX r a b s = thL (n : Int) (LI L) a b s := by
  rw [thX_L, h.2.2.1]
  exact thL_c (mrow_LI h a ha.1 ha.2) (mrow_LI h b hb.1 hb.2)
theorem mr_trd {r : Row} {n c : Nat} (h : mrow r n (unC c)) (hn : n ≤ 8) (hk : ok2 n c = true) : trd r := fun a b s a0 a1 b0 b1 hl hs => by
  have a2 := a1
  have b2 := b1
  rw [h.2.2.1] at a2 b2
  rw [mr_tb h ⟨a0, by omega⟩ b0] at hl
  rw [mr_th h ⟨a0, by omega⟩ ⟨b0, by omega⟩, h.2.2.1, brM_c (mrow_LI h a a0 (by omega)) (mrow_LI h b b0 (by omega))]
  obtain ⟨x, rfl⟩ := toN a0
  obtain ⟨y, rfl⟩ := toN b0
  rw [Int.toNat_natCast, Int.toNat_natCast] at hl
  have := ok2_at hk (by omega) (by omega) hl
  rcases hs with rfl | rfl
  · exact this.1
  · exact this.2
theorem mr_cnt {r : Row} {n : Nat} {L : LL} (h : mrow r n L) : cntB (lkB r) 64 = cntB (lkN n L) 64 := cntB_c 64 (fun i hi => by
  have e : lkB r i = true ↔ lkN n L i = true := by
    unfold lkB lkN
    rw [decide_eq_true_iff, Bool.and_eq_true, Bool.and_eq_true, h.2.2.1, mr_tb h (by omega) (by omega)]
    rw [show ((i : Int) / 8).toNat = i / 8 by omega, show ((i : Int) % 8).toNat = i % 8 by omega]
    constructor
    · rintro ⟨a, b, c⟩
      exact ⟨⟨Nat.ble_eq_true_of_le (by omega), Nat.ble_eq_true_of_le (by omega)⟩, c⟩
    · rintro ⟨⟨a, b⟩, c⟩
      have a := Nat.le_of_ble_eq_true a
      have b := Nat.le_of_ble_eq_true b
      exact ⟨by omega, by omega, c⟩
  cases q : lkB r i
  · cases w : lkN n L i
    · rfl
    · rw [e.2 w] at q; cases q
  · exact (e.1 q).symm)
theorem mr_n {r : Row} {n : Nat} {L : LL} (h : mrow r n L) : n ≤ 8 := by
  have := h.2.1.2.1
  rw [h.2.2.1] at this
  omega
theorem Vr.ok {r : Row} (h : Vr r) : ∃ n c : Nat, (3 ≤ n ∧ n ≤ 8) ∧ eqC c (sF n (n - 3)) = true ∧ mrow r n (unC c) ∧ ok1 n c = true ∧ ok2 n c = true ∧ ok3 n c = true := by
  obtain ⟨h1, h2, h3, n, c, h4, h5⟩ := h
  have hn : 3 ≤ n ∧ n ≤ 8 := ⟨by rw [h5.2.2.1] at h2; omega, mr_n h5⟩
  obtain ⟨a, b, d⟩ := ok_all hn h4
  exact ⟨n, c, hn, h4, h5, a, b, d⟩
theorem Vr.gd {r : Row} (h : Vr r) : gdX r := by
  obtain ⟨n, c, hn, h4, h5, a, b, d⟩ := h.ok
  have hs := mr_sym h5 a
  have h8 := mr_n h5
  have hN := h5.2.2.1
  refine ⟨⟨h.1, fun p q p0 p1 q0 q1 => hs p q p0 (by omega) q0 (by omega), mr_trd h5 h8 b, h.2.2.1⟩, mr_irr h5 a, ?_, h.2.1⟩
  rw [mr_cnt h5]; exact (ok1_at a).2
theorem Vr.lb {r : Row} (h : Vr r) {p q : Int} (hp : 0 ≤ p ∧ p < 8) (hq : 0 ≤ q) (ht : tb (rL r p) q = true) : q < rN r := by
  obtain ⟨n, c, hn, h4, h5, a, b, d⟩ := h.ok
  exact mr_lb h5 a hp hq ht
theorem Vr.sym8 {r : Row} (h : Vr r) : sym8 r := by
  obtain ⟨n, c, hn, h4, h5, a, b, d⟩ := h.ok
  exact mr_sym h5 a
theorem Vr.go {r : Row} {m : Int} (h : Vr r) : Vr (goR r m) := by
  have g := gd_go (m := m) h.gd.1
  obtain ⟨g1, g2⟩ := goR_ok (m := m) h.1
  obtain ⟨n, c, hn, h4, h5, -⟩ := h.ok
  refine ⟨g1, by rw [g2]; exact h.2.1, g.2.2.2, n, c, h4, g1.1, g1.2.1, by rw [g2]; exact h5.2.2.1, rfl, fun k hk => ?_⟩
  rw [go_L h.1 (by omega)]
  exact h5.2.2.2.2 k hk
theorem rOk.setWe {r : Row} {p v : Int} (h : rOk r) (hl : r.length = 52) (hp : 0 ≤ p ∧ p < 8) (hv : 0 ≤ v ∧ v ≤ 20) : rOk (r.set (28 + p.toNat) v) := by
  obtain ⟨h1, h2, h3, h4, h5⟩ := h
  have e0 : rN (r.set (28 + p.toNat) v) = rN r := by unfold rN; rw [rg_set hl (by decide), if_neg (by omega)]
  have e1 : rF (r.set (28 + p.toNat) v) = rF r := by unfold rF; rw [rg_set hl (by decide), if_neg (by omega)]
  have e2 : rB (r.set (28 + p.toNat) v) = rB r := by unfold rB; rw [rg_set hl (by decide), if_neg (by omega)]
  unfold rOk
  rw [e0, e1, e2]
  refine ⟨h1, h2, h3, h4, fun q q1 q2 => ?_⟩
  have h6 := h5 q q1 q2
  unfold rK rW rBe rWe rSh rL at h6 ⊢
  have e : ∀ j : Nat, j + q.toNat < 52 → j + q.toNat ≠ 28 + p.toNat → rg (r.set (28 + p.toNat) v) j q = rg r j q := fun j j1 j2 => by rw [rg_set hl j1, if_neg j2]
  rw [e 4 (by omega) (by omega), e 12 (by omega) (by omega), e 20 (by omega) (by omega), e 36 (by omega) (by omega), e 44 (by omega) (by omega), rg_set (k := 28) hl (by omega)]
  refine ⟨h6.1, h6.2.1, h6.2.2.1, ?_, h6.2.2.2.2.1, h6.2.2.2.2.2.1, h6.2.2.2.2.2.2⟩
  split
  · exact hv
  · exact h6.2.2.2.1
theorem Vr.we {r : Row} {p v : Int} (h : Vr r) (hp : 0 ≤ p ∧ p < 8) (hv : 0 ≤ v ∧ v ≤ 20) : Vr (r.set (28 + p.toNat) v) := by
  obtain ⟨n, c, hn, h4, h5, -⟩ := h.ok
  have hl := h.1.1
  have eN : rN (r.set (28 + p.toNat) v) = rN r := by unfold rN; rw [rg_set hl (by decide), if_neg (by omega)]
  have eF : rF (r.set (28 + p.toNat) v) = rF r := by unfold rF; rw [rg_set hl (by decide), if_neg (by omega)]
  have eB : rB (r.set (28 + p.toNat) v) = rB r := by unfold rB; rw [rg_set hl (by decide), if_neg (by omega)]
  have eL : ∀ z : Int, 0 ≤ z → z < 8 → rL (r.set (28 + p.toNat) v) z = rL r z := fun z z0 z1 => by unfold rL; rw [rg_set hl (by omega), if_neg (by omega)]
  have hok := h.1.2.1.setWe hl hp hv
  have h8 := h.1.2.1.2.1
  refine ⟨⟨set_len hl, hok, by rw [eN, eF]; exact h.1.2.2.1, by rw [eN, eB]; exact h.1.2.2.2⟩, by rw [eN]; exact h.2.1, ?_, n, c, h4, set_len hl, hok, by rw [eN]; exact h5.2.2.1, rfl, fun k hk => ?_⟩
  · rw [eF, eB, eL _ h.1.2.2.1.1 (by have := h.1.2.2.1.2; omega)]; exact h.2.2.1
  · rw [eL _ (by omega) (by omega)]; exact h5.2.2.2.2 k hk
theorem part_tb {r : Row} {a b x y : Int} (hl : r.length = 52) (ha : 0 ≤ a ∧ a < 8) (hb : 0 ≤ b ∧ b < 8) (hx : 0 ≤ x ∧ x < 8) (hy : 0 ≤ y ∧ y < 8) (h1 : ¬ (x = a ∧ y = b)) (h2 : ¬ (x = b ∧ y = a)) (ht : tb (rL r x) y = true) : tb (rL (partR r a b) x) y = true := by
  have hc : ∀ {z k : Int}, 0 ≤ k → y ≠ k → tb z y = true → tb (cb z k) y = true := fun {z k} k0 hne h => by
    unfold tb cb at *
    rw [Int.toNat_natCast, Nat.testBit_xor, Nat.testBit_and, Nat.testBit_two_pow, h, show decide (k.toNat = y.toNat) = false from decide_eq_false (by omega)]; rfl
  have e1 : ∀ z : Int, 0 ≤ z ∧ z < 8 → rL (r.set (44 + a.toNat) (cb (rL r a) b)) z = if z = a then cb (rL r a) b else rL r z := fun z hz => by
    unfold rL
    rw [rg_set hl (by omega)]
    by_cases h : z = a
    · rw [if_pos (by omega), if_pos h]
    · rw [if_neg (by omega), if_neg h]
  have e2 : rL (partR r a b) x = if x = b then cb (rL (r.set (44 + a.toNat) (cb (rL r a) b)) b) a else rL (r.set (44 + a.toNat) (cb (rL r a) b)) x := by
    unfold partR
    show rg _ _ _ = _
    rw [rg_set (set_len hl) (by omega)]
    by_cases h : x = b
    · rw [if_pos (by omega), if_pos h]
    · rw [if_neg (by omega), if_neg h]
  have q1 : tb (rL (r.set (44 + a.toNat) (cb (rL r a) b)) x) y = true := by
    rw [e1 x hx]
    by_cases h : x = a
    · rw [if_pos h]; exact hc hb.1 (fun z => h1 ⟨h, z⟩) (h ▸ ht)
    · rw [if_neg h]; exact ht
  rw [e2]
  by_cases h : x = b
  · rw [if_pos h]; exact hc ha.1 (fun z => h2 ⟨h, z⟩) (h ▸ q1)
  · rw [if_neg h]; exact q1
/-- a fold in it: a third on either side; and refolded there it is a strip that is there -/
theorem Vr.fold {r : Row} {p q : Int} (h : Vr r) (hp : 0 ≤ p ∧ p < rN r) (hq : 0 ≤ q ∧ q < rN r) (ht : tb (rL r p) q = true) (ha : ¬ (p - q = 1 ∨ q - p = 1 ∨ p - q = rN r - 1 ∨ q - p = rN r - 1)) : 0 ≤ thX r p q 0 ∧ 0 ≤ thX r p q 1 ∧ (¬ ((rF r = p ∧ rB r = q) ∨ (rF r = q ∧ rB r = p)) → Vr (joinR (partR r p q) (thX r p q 0) (thX r p q 1))) := by
  obtain ⟨n, c, hn, h4, h5, k1, k2, k3⟩ := h.ok
  have hN := h5.2.2.1
  have i0 := thX_in (r := r) (a := p) (b := q) (s := 0) (by omega)
  have i1 := thX_in (r := r) (a := p) (b := q) (s := 1) (by omega)
  have e0 := mr_th (s := 0) h5 (a := p) (b := q) (by omega) (by omega)
  have e1 := mr_th (s := 1) h5 (a := p) (b := q) (by omega) (by omega)
  obtain ⟨x, rfl⟩ := toN hp.1
  obtain ⟨y, rfl⟩ := toN hq.1
  have ht2 := ht
  rw [mr_tb h5 (by omega) (by omega), Int.toNat_natCast, Int.toNat_natCast] at ht2
  have m1 : (x + 1) % n ≠ y := fun z => by
    rcases Nat.lt_or_ge (x + 1) n with w | w
    · rw [Nat.mod_eq_of_lt w] at z; omega
    · rw [show x + 1 = n by omega, Nat.mod_self] at z; omega
  have m2 : (y + 1) % n ≠ x := fun z => by
    rcases Nat.lt_or_ge (y + 1) n with w | w
    · rw [Nat.mod_eq_of_lt w] at z; omega
    · rw [show y + 1 = n by omega, Nat.mod_self] at z; omega
  obtain ⟨f0, f1, f2⟩ := ok3_at k3 (by omega) (by omega) ht2 m1 m2
  rw [← e0] at f0
  rw [← e1] at f1
  rw [← e0, ← e1] at f2
  refine ⟨f0, f1, fun hh => ?_⟩
  obtain ⟨t0, z0⟩ : ∃ t0 : Nat, thX r x y 0 = t0 := ⟨(thX r x y 0).toNat, by omega⟩
  obtain ⟨t1, z1⟩ : ∃ t1 : Nat, thX r x y 1 = t1 := ⟨(thX r x y 1).toNat, by omega⟩
  rw [z0, z1] at f2 ⊢
  rw [Int.toNat_natCast, Int.toNat_natCast] at f2
  have hm := mrow_jn (a := t0) (b := t1) (mrow_pt (a := x) (b := y) h5 (by omega) (by omega)) (by omega) (by omega)
  have hm2 : mrow (joinR (partR r x y) t0 t1) n (unC (cdN (jnN (ptN (unC c) x y) t0 t1))) := by rw [un_cd hm.2.2.2.1 (fun k hk => mrow_8 hm hk)]; exact hm
  have hl := h.1.1
  have eN : rN (joinR (partR r x y) t0 t1) = rN r := by rw [hm.2.2.1, hN]
  have eF : rF (joinR (partR r x y) t0 t1) = rF r := by unfold rF; rw [joinR_lo (partR_len hl) (by decide), partR_lo hl (by decide)]
  have eB : rB (joinR (partR r x y) t0 t1) = rB r := by unfold rB; rw [joinR_lo (partR_len hl) (by decide), partR_lo hl (by decide)]
  have hf := h.1.2.2.1
  have hb := h.1.2.2.2
  refine ⟨⟨hm.1, hm.2.1, by rw [eN, eF]; exact hf, by rw [eN, eB]; exact hb⟩, by rw [eN]; exact h.2.1, ?_, n, _, f2, hm2⟩
  rw [eF, eB, join_tb (partR_len hl) (by omega) (by omega) (by omega) (by omega), part_tb hl (by omega) (by omega) (by omega) (by omega) (fun z => hh (Or.inl z)) (fun z => hh (Or.inr z)) h.2.2.1]
  rfl
