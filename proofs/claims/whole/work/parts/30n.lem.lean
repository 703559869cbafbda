/-! links, joined -/
theorem join_tb {r : Row} {a b x y : Int} (hl : r.length = 52) (ha : 0 ≤ a ∧ a < 8) (hb : 0 ≤ b ∧ b < 8) (hx : 0 ≤ x ∧ x < 8) (hy : 0 ≤ y ∧ y < 8) : tb (rL (joinR r a b) x) y = (tb (rL r x) y || (decide (x = a ∧ y = b) || decide (x = b ∧ y = a))) := by
  have e1 : ∀ z : Int, 0 ≤ z ∧ z < 8 → rL (r.set (44 + a.toNat) (sb (rL r a) b)) z = if z = a then sb (rL r a) b else rL r z := fun z hz => by
    unfold rL
    rw [rg_set hl (by omega)]
    by_cases h : z = a
    · rw [if_pos (by omega), if_pos h]
    · rw [if_neg (by omega), if_neg h]
  have e2 : rL (joinR r a b) x = if x = b then sb (rL (r.set (44 + a.toNat) (sb (rL r a) b)) b) a else rL (r.set (44 + a.toNat) (sb (rL r a) b)) x := by
    unfold joinR
    show rg _ _ _ = _
    rw [rg_set (set_len hl) (by omega)]
    by_cases h : x = b
    · rw [if_pos (by omega), if_pos h]
    · rw [if_neg (by omega), if_neg h]
  rw [e2]
  by_cases h : x = b
  · rw [if_pos h, tb_sb ha.1 hy.1, e1 b hb]
    by_cases h2 : b = a
    · rw [if_pos h2, tb_sb hb.1 hy.1, h, h2]
      simp
    · rw [if_neg h2, h]
      have : decide (b = a ∧ y = b) = false := decide_eq_false (fun z => h2 z.1)
      rw [this]; simp
  · rw [if_neg h, e1 x hx]
    have e3 : decide (x = b ∧ y = a) = false := decide_eq_false (fun z => h z.1)
    by_cases h2 : x = a
    · rw [if_pos h2, tb_sb hb.1 hy.1, e3, h2]; simp
    · have e4 : decide (x = a ∧ y = b) = false := decide_eq_false (fun z => h2 z.1)
      rw [if_neg h2, e3, e4]; simp
/-- linked both ways, all eight of them -/
def sym8 (r : Row) : Prop := ∀ p q : Int, 0 ≤ p → p < 8 → 0 ≤ q → q < 8 → tb (rL r p) q = tb (rL r q) p
theorem sym8.join {r : Row} {a b : Int} (h : sym8 r) (hl : r.length = 52) (ha : 0 ≤ a ∧ a < 8) (hb : 0 ≤ b ∧ b < 8) : sym8 (joinR r a b) := fun p q p0 p1 q0 q1 => by
  rw [join_tb hl ha hb ⟨p0, p1⟩ ⟨q0, q1⟩, join_tb hl ha hb ⟨q0, q1⟩ ⟨p0, p1⟩, h p q p0 p1 q0 q1]
  congr 1
  rw [Bool.or_comm]
  congr 1 <;> (congr 1; exact propext ⟨fun z => ⟨z.2, z.1⟩, fun z => ⟨z.2, z.1⟩⟩)
theorem clr_L {r : Row} (hl : r.length = 52) : ∀ (k : Nat) {p : Int}, k ≤ 8 → 0 ≤ p → p < 8 → rL (clrR r k) p = if p < k then 0 else rL r p
  | 0, p, _, h0, _ => by rw [if_neg (by omega)]; rfl
  | k + 1, p, hk, h0, h1 => by
    unfold rL clrR
    rw [rg_set (clrR_len hl k) (by omega)]
    by_cases h : p = k
    · rw [if_pos (by omega), if_pos (by omega)]
    · rw [if_neg (by omega)]
      have := clr_L hl k (p := p) (by omega) h0 h1
      unfold rL at this
      rw [this]
      by_cases h2 : p < k
      · rw [if_pos h2, if_pos (by omega)]
      · rw [if_neg h2, if_neg (by omega)]
theorem ring_sym {r : Row} (hl : r.length = 52) (hn : 0 < rN r ∧ rN r ≤ 8) : ∀ k : Nat, (k : Int) ≤ rN r → sym8 (ringR r k)
  | 0, _ => fun p q p0 p1 q0 q1 => by
    rw [ringR, clr_L hl 8 (by omega) p0 p1, clr_L hl 8 (by omega) q0 q1, if_pos (by omega), if_pos (by omega), tb_0, tb_0]
  | k + 1, h => by
    rw [ringR]
    have := Int.emod_nonneg ((k : Int) + 1) (show rN r ≠ 0 by omega)
    have := Int.emod_lt_of_pos ((k : Int) + 1) (show 0 < rN r by omega)
    exact (ring_sym hl hn k (by omega)).join (ringR_len hl k) (by omega) (by omega)
/-! between -/
theorem wrapM {n x : Int} (h : 0 ≤ x ∧ x < n) : (x + n) % n = x := by
  rw [show x + n = x + n * 1 by omega, Int.add_mul_emod_self_left, Int.emod_eq_of_lt h.1 h.2]
theorem btw_lt {n a b c : Int} (ha : 0 ≤ a) (hab : a < b) (hb : b < n) (hc : 0 ≤ c ∧ c < n) : btw n a b c ↔ a < c ∧ c < b := by
  unfold btw
  rw [wrapM (n := n) (x := b - a) (by omega)]
  by_cases h : a ≤ c
  · rw [wrapM (n := n) (x := c - a) (by omega)]
    omega
  · rw [Int.emod_eq_of_lt (a := c - a + n) (b := n) (by omega) (by omega)]
    omega
theorem btw_gt {n a b c : Int} (hb : 0 ≤ b) (hab : b < a) (ha : a < n) (hc : 0 ≤ c ∧ c < n) : btw n a b c ↔ a < c ∨ c < b := by
  unfold btw
  rw [Int.emod_eq_of_lt (a := b - a + n) (b := n) (by omega) (by omega)]
  by_cases h : a ≤ c
  · rw [wrapM (n := n) (x := c - a) (by omega)]
    omega
  · rw [Int.emod_eq_of_lt (a := c - a + n) (b := n) (by omega) (by omega)]
    omega
theorem can_jn {r : Row} {L : Int → Int} {n a b : Int} (hn : rN r = n ∧ n ≤ 8) (hs : sym8 r) (hL : ∀ p : Int, 0 ≤ p → p < 8 → L p = rL r p) (ha : 0 ≤ a ∧ a < n) (hb : 0 ≤ b ∧ b < n) : jnM L n a b ↔ canJ r a b := by
  unfold jnM canJ
  rw [hL a ha.1 (by omega), hn.1]
  by_cases he : a = b
  · exact ⟨fun z => absurd he z.1.1, fun z => absurd he z.1⟩
  rcases Int.lt_or_gt_of_ne he with hlt | hlt
  · constructor
    · rintro ⟨⟨h1, h2⟩, h3⟩
      refine ⟨h1, h2, fun i o o0 o1 hi ho => ?_⟩
      have := h3 i o (by omega) (by omega) o0 o1 ((btw_lt ha.1 hlt hb.2 (by omega)).2 (by omega)) ((btw_gt ha.1 hlt hb.2 ⟨o0, o1⟩).2 (by omega))
      rw [hL i (by omega) (by omega)] at this
      exact this
    · rintro ⟨h1, h2, h3⟩
      refine ⟨⟨h1, h2⟩, fun c d c0 c1 d0 d1 hc hd => ?_⟩
      have q1 := (btw_lt ha.1 hlt hb.2 ⟨c0, c1⟩).1 hc
      have q2 := (btw_gt ha.1 hlt hb.2 ⟨d0, d1⟩).1 hd
      rw [hL c c0 (by omega)]
      exact h3 c d d0 d1 (by omega) (by omega)
  · constructor
    · rintro ⟨⟨h1, h2⟩, h3⟩
      refine ⟨h1, h2, fun i o o0 o1 hi ho => ?_⟩
      have := h3 o i o0 o1 (by omega) (by omega) ((btw_gt hb.1 hlt ha.2 ⟨o0, o1⟩).2 (by omega)) ((btw_lt hb.1 hlt ha.2 (by omega)).2 (by omega))
      rw [hL o o0 (by omega)] at this
      rw [hs i o (by omega) (by omega) o0 (by omega)]
      exact this
    · rintro ⟨h1, h2, h3⟩
      refine ⟨⟨h1, h2⟩, fun c d c0 c1 d0 d1 hc hd => ?_⟩
      have q1 := (btw_gt hb.1 hlt ha.2 ⟨c0, c1⟩).1 hc
      have q2 := (btw_lt hb.1 hlt ha.2 ⟨d0, d1⟩).1 hd
      rw [hL c c0 (by omega), hs c d c0 (by omega) d0 (by omega)]
      exact h3 d c c0 c1 (by omega) (by omega)
theorem cl_row {D : Dat} {c : Nat} : ∀ k : Nat, k ≤ 8 → rowM (clM D c 44 k) c 0 = clrR (rowM D c 0) k
  | 0, _ => rfl
  | k + 1, h => by
    rw [clM, rowM_up (by omega), cl_row k (by omega), clrR, show (44 + (k : Int) - 0).toNat = 44 + k by omega]
theorem ring_row {D : Dat} {c : Nat} {n : Int} (hn : 0 < n ∧ n ≤ 8) (hN : D c 0 = n) : ∀ k : Nat, (k : Int) ≤ n → rowM (rnM D c 44 n k) c 0 = ringR (rowM D c 0) k
  | 0, _ => cl_row 8 (by omega)
  | k + 1, h => by
    have := Int.emod_nonneg ((k : Int) + 1) (show n ≠ 0 by omega)
    have := Int.emod_lt_of_pos ((k : Int) + 1) (show 0 < n by omega)
    rw [rnM, ln_row (by omega) (by omega), ring_row hn hN k (by omega), ringR, mN, hN]
