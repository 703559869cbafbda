/-! what is reached, by a queue -/
def rqI (r : Row) (z0 : Int) (D E : Dat) (k e : Int) : Prop :=
  (0 ≤ k ∧ k ≤ e ∧ 1 ≤ e ∧ e ≤ cntB (fun i => decide (E 291 (i : Int) = 1)) 64) ∧
  (∀ j : Int, 0 ≤ j → j < e → zOk r (E 290 j) ∧ Rch r z0 (E 290 j) ∧ E 291 (E 290 j) = 1) ∧
  (∀ z : Int, 0 ≤ z → z < 64 → E 291 z = 0 ∨ (E 291 z = 1 ∧ ∃ j : Int, 0 ≤ j ∧ j < e ∧ E 290 j = z)) ∧
  (∀ j m : Int, 0 ≤ j → j < k → 0 ≤ m → m ≤ 2 → 0 ≤ bhR r (E 290 j) m → E 291 (bhR r (E 290 j) m) = 1) ∧
  E 291 z0 = 1 ∧ ∀ c, c ≠ 290 → c ≠ 291 → E c = D c
theorem rqI.le {r : Row} {z0 : Int} {D E : Dat} {k e : Int} (h : rqI r z0 D E k e) : 0 ≤ k ∧ k ≤ e ∧ 1 ≤ e ∧ e ≤ 64 := by
  have h1 := h.1
  have := cntB_le (fun i => decide (E 291 (i : Int) = 1)) 64
  omega
theorem rq_add {r : Row} {z0 : Int} {D E : Dat} {k e t : Int} (h : rqI r z0 D E k e) (ht : zOk r t) (hr : Rch r z0 t) (h0 : E 291 t = 0) : rqI r z0 D (upD (upD E 291 t 1) 290 e t) k (e + 1) := by
  obtain ⟨⟨a1, a2, a3, a4⟩, b, c, d, s, f⟩ := h
  have t64 := ht.1
  have e1 : ∀ z : Int, upD (upD E 291 t 1) 290 e t 291 z = if z = t then 1 else E 291 z := fun z => by
    rw [upD_n (Or.inl (by omega))]
    by_cases hz : z = t
    · rw [if_pos hz, hz, upD_s]
    · rw [if_neg hz, upD_n (Or.inr hz)]
  have e2 : ∀ j : Int, j < e → upD (upD E 291 t 1) 290 e t 290 j = E 290 j := fun j hj => by
    rw [upD_n (Or.inr (by omega)), upD_other (by omega)]
  have e3 : upD (upD E 291 t 1) 290 e t 290 e = t := upD_s
  have hm : ∀ z : Int, E 291 z = 1 → upD (upD E 291 t 1) 290 e t 291 z = 1 := fun z hz => by
    rw [e1]; split
    · rfl
    · exact hz
  refine ⟨⟨a1, by omega, by omega, ?_⟩, fun j j0 j1 => ?_, fun z z1 z2 => ?_, fun j m j0 j1 m0 m1 hb => ?_, hm z0 s, fun c' c1 c2 => ?_⟩
  · have := cntB_lt (f := fun i => decide (E 291 (i : Int) = 1)) (g := fun i => decide (upD (upD E 291 t 1) 290 e t 291 (i : Int) = 1)) (fun i hi => decide_eq_true (hm i (of_decide_eq_true hi))) (z := t.toNat) (decide_eq_false (by rw [show ((t.toNat : Nat) : Int) = t by omega, h0]; decide)) (decide_eq_true (by rw [show ((t.toNat : Nat) : Int) = t by omega, e1, if_pos rfl])) 64 (by omega)
    omega
  · by_cases hj : j = e
    · rw [hj, e3, e1, if_pos rfl]; exact ⟨ht, hr, rfl⟩
    · rw [e2 j (by omega)]
      have := b j j0 (by omega)
      exact ⟨this.1, this.2.1, hm _ this.2.2⟩
  · by_cases hz : z = t
    · right; rw [e1, if_pos hz]; exact ⟨rfl, e, by omega, by omega, by rw [e3, hz]⟩
    · rw [e1, if_neg hz]
      rcases c z z1 z2 with q | ⟨q, j, j0, j1, j2⟩
      · exact Or.inl q
      · exact Or.inr ⟨q, j, j0, by omega, by rw [e2 j j1]; exact j2⟩
  · rw [e2 j (by omega)] at hb ⊢
    exact hm _ (d j m j0 j1 m0 m1 hb)
  · rw [upD_other c1, upD_other c2]; exact f c' c1 c2
/-- the moves of the one that is looked at -/
def rqM (r : Row) (E : Dat) (k m : Int) : Prop := ∀ n : Int, 0 ≤ n → n < m → 0 ≤ bhR r (E 290 k) n → E 291 (bhR r (E 290 k) n) = 1
theorem rqI.nx {r : Row} {z0 : Int} {D E : Dat} {k e : Int} (h : rqI r z0 D E k e) (hk : k < e) (hm : rqM r E k 3) : rqI r z0 D E (k + 1) e := by
  obtain ⟨⟨a1, a2, a3, a4⟩, b, c, d, s, f⟩ := h
  refine ⟨⟨by omega, by omega, a3, a4⟩, b, c, fun j m j0 j1 m0 m1 hb => ?_, s, f⟩
  by_cases hj : j = k
  · subst hj; exact hm m m0 (by omega) hb
  · exact d j m j0 (by omega) m0 m1 hb
def rqS (E : Dat) (acc k : Int) : Prop := (0 ≤ acc ∧ acc ≤ 255) ∧ ∀ p : Int, 0 ≤ p → p < 8 → (tb acc p = true ↔ ∃ j : Int, 0 ≤ j ∧ j < k ∧ E 290 j / 8 = p)
theorem rqS.z {E : Dat} : rqS E 0 0 := ⟨by omega, fun p _ _ => by
  rw [tb_0]
  constructor
  · intro h; cases h
  · rintro ⟨j, h0, h1, -⟩; omega⟩
theorem rqS.s {E : Dat} {acc k : Int} (h : rqS E acc k) (hk : 0 ≤ k) (hz : 0 ≤ E 290 k ∧ E 290 k < 64) : rqS E (sb acc (E 290 k / 8)) (k + 1) := by
  refine ⟨sb_in h.1 (by omega), fun p p0 p1 => ?_⟩
  rw [tb_sb (by omega) p0, Bool.or_eq_true, decide_eq_true_eq, h.2 p p0 p1]
  constructor
  · rintro (⟨j, h0, h1, h2⟩ | h2)
    · exact ⟨j, h0, by omega, h2⟩
    · exact ⟨k, hk, by omega, h2.symm⟩
  · rintro ⟨j, h0, h1, h2⟩
    by_cases hj : j = k
    · right; rw [← h2, hj]
    · left; exact ⟨j, h0, by omega, h2⟩
theorem rqS.up {E : Dat} {acc k e a t : Int} (h : rqS E acc k) (hk : k ≤ e) : rqS (upD (upD E 291 a 1) 290 e t) acc k := by
  have e2 : ∀ j : Int, j < e → upD (upD E 291 a 1) 290 e t 290 j = E 290 j := fun j hj => by
    rw [upD_n (Or.inr (by omega)), upD_other (by omega)]
  refine ⟨h.1, fun p p0 p1 => (h.2 p p0 p1).trans ⟨?_, ?_⟩⟩
  · rintro ⟨j, h0, h1, h2⟩; exact ⟨j, h0, h1, by rw [e2 j (by omega)]; exact h2⟩
  · rintro ⟨j, h0, h1, h2⟩; exact ⟨j, h0, h1, by rw [e2 j (by omega)] at h2; exact h2⟩
theorem rqM.up {r : Row} {E : Dat} {k e t m : Int} (h : rqM r E k m) (hk : k < e) (hm : bhR r (E 290 k) m = t) : rqM r (upD (upD E 291 t 1) 290 e t) k (m + 1) := by
  have e2 : upD (upD E 291 t 1) 290 e t 290 k = E 290 k := by
    rw [upD_n (Or.inr (by omega)), upD_other (by omega)]
  intro n n0 n1 hb
  rw [e2] at hb ⊢
  rw [upD_n (Or.inl (by omega))]
  by_cases hn : bhR r (E 290 k) n = t
  · rw [hn, upD_s]
  · rw [upD_n (Or.inr hn)]
    by_cases hq : n = m
    · exact absurd (hq ▸ hm) hn
    · exact h n n0 (by omega) hb
theorem rqM.no {r : Row} {E : Dat} {k m : Int} (h : rqM r E k m) (hm : bhR r (E 290 k) m < 0 ∨ E 291 (bhR r (E 290 k) m) = 1) : rqM r E k (m + 1) := by
  intro n n0 n1 hb
  by_cases hq : n = m
  · subst hq
    rcases hm with q | q
    · omega
    · exact q
  · exact h n n0 (by omega) hb
theorem rq_end {r : Row} {z0 acc : Int} {D E : Dat} {k e : Int} (hn : rN r ≤ 8) (hz : 0 ≤ z0 ∧ z0 < 64) (h : rqI r z0 D E k e) (hk : e ≤ k) (hs : rqS E acc k) : isReach r z0 acc := by
  obtain ⟨⟨a1, a2, a3, a4⟩, b, c, d, s, f⟩ := h
  refine ⟨by have := hs.1; omega, fun p p0 p1 => (hs.2 p p0 p1).trans ⟨?_, ?_⟩⟩
  · rintro ⟨j, h0, h1, h2⟩
    exact ⟨E 290 j, (b j h0 (by omega)).2.1, h2⟩
  · rintro ⟨z, h0, h1⟩
    have : ∃ j : Int, 0 ≤ j ∧ j < e ∧ E 290 j = z := by
      refine Rch.closed (P := fun z => ∃ j : Int, 0 ≤ j ∧ j < e ∧ E 290 j = z) ?_ (fun y m z' hy m0 m1 hb hz' => ?_) h0
      · rcases c z0 hz.1 hz.2 with q | q
        · omega
        · exact q.2
      · obtain ⟨j, j0, j1, j2⟩ := hy
        have q := d j m j0 (by omega) m0 m1 (by rw [j2, hb]; exact hz')
        rw [j2, hb] at q
        have i := bhR_in (r := r) (z := y) (m := m) hn
        rcases c z' hz' (by omega) with q2 | q2
        · omega
        · exact q2.2
    obtain ⟨j, j0, j1, j2⟩ := this
    exact ⟨j, j0, by omega, by rw [j2]; exact h1⟩
theorem rq_0 {r : Row} {z0 : Int} {D E : Dat} (hz : zOk r z0) (he : ∀ i : Int, 0 ≤ i → i < 64 → E 291 i = 0) (hf : ∀ c, c ≠ 290 → c ≠ 291 → E c = D c) : rqI r z0 D (upD (upD E 290 0 z0) 291 z0 1) 0 1 := by
  have z64 := hz.1
  have e1 : ∀ z : Int, upD (upD E 290 0 z0) 291 z0 1 291 z = if z = z0 then 1 else E 291 z := fun z => by
    by_cases h : z = z0
    · rw [if_pos h, h, upD_s]
    · rw [if_neg h, upD_n (Or.inr h), upD_other (by omega)]
  have e2 : upD (upD E 290 0 z0) 291 z0 1 290 0 = z0 := by rw [upD_n (Or.inl (by omega)), upD_s]
  refine ⟨⟨by omega, by omega, by omega, ?_⟩, fun j j0 j1 => ?_, fun z z1 z2 => ?_, fun j m j0 j1 => by omega, by rw [e1, if_pos rfl], fun c c1 c2 => ?_⟩
  · have := cntB_lt (f := fun _ => false) (g := fun i => decide (upD (upD E 290 0 z0) 291 z0 1 291 (i : Int) = 1)) (fun i hi => by cases hi) (z := z0.toNat) rfl (decide_eq_true (by rw [show ((z0.toNat : Nat) : Int) = z0 by omega, e1, if_pos rfl])) 64 (by omega)
    omega
  · rw [show j = 0 by omega, e2, e1, if_pos rfl]
    exact ⟨hz, ⟨0, rfl⟩, rfl⟩
  · by_cases h : z = z0
    · right; rw [e1, if_pos h]; exact ⟨rfl, 0, by omega, by omega, by rw [e2, h]⟩
    · left; rw [e1, if_neg h]; exact he z z1 z2
  · rw [upD_other c2, upD_other c1]; exact hf c c1 c2
/-- what comes to a sheet -/
def logM (D E : Dat) (r : Row) (z0 o k : Int) : Prop := (∀ j : Nat, (j : Int) < k → E 297 (o + j) = cSeq r z0 (j + 1) / 8) ∧ (∀ y : Int, (y < o ∨ o + k ≤ y) → E 297 y = D 297 y) ∧ ∀ c, c ≠ 297 → E c = D c
theorem logM.z {D : Dat} {r : Row} {z0 o : Int} : logM D D r z0 o 0 := ⟨fun j h => by omega, fun _ _ => rfl, fun _ _ => rfl⟩
theorem logM.s {D E : Dat} {r : Row} {z0 o k i v : Int} (h : logM D E r z0 o k) (hk : 0 ≤ k) (hi : i = o + k) (hv : v = cSeq r z0 (k.toNat + 1) / 8) : logM D (upD E 297 i v) r z0 o (k + 1) := by
  subst hi hv
  refine ⟨fun j hj => ?_, fun y hy => ?_, fun c hc => (upD_other hc).trans (h.2.2 c hc)⟩
  · by_cases e : (j : Int) = k
    · rw [e, upD_s, show k.toNat = j by omega]
    · rw [upD_n (Or.inr (by omega))]; exact h.1 j (by omega)
  · rw [upD_n (Or.inr (by omega))]; exact h.2.1 y (by omega)
theorem pw_tab : ∀ n, n < 7 → 1 ≤ pw ((n : Nat) : Int) ∧ pw ((n : Nat) : Int) ≤ 64 ∧ 1 ≤ (10 : Int) ^ n ∧ (10 : Int) ^ n ≤ 1000000 := by decide +kernel
theorem pw_6 {n : Int} (h : 0 ≤ n ∧ n ≤ 6) : 1 ≤ pw n ∧ pw n ≤ 64 := by
  obtain ⟨m, rfl⟩ := toN h.1
  have := pw_tab m (by omega)
  exact ⟨this.1, this.2.1⟩
theorem pow10_6 {n : Int} (h : 0 ≤ n ∧ n ≤ 6) : 1 ≤ (10 : Int) ^ n.toNat ∧ (10 : Int) ^ n.toNat ≤ 1000000 := (pw_tab n.toNat (by omega)).2.2
theorem pw_nat {n : Int} : (pw n).toNat = 2 ^ n.toNat := by unfold pw; rw [Int.toNat_natCast]
theorem upD_id {D : Dat} {a : Nat} {i : Int} : upD D a i (D a i) = D := by
  funext b j
  unfold upD
  split
  · split
    · rename_i h1 h2; rw [h1, h2]
    · rfl
  · rfl
