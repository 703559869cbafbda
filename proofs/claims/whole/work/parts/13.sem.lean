/-! what the methods of a strip do to its row -/
theorem cpD_other {D : Dat} {a0 a b : Nat} {s d n : Int} (h : b ≠ a) : cpD D a0 s a d n b = D b := by funext j; simp [cpD, h]
theorem cpD_o {D : Dat} {a0 a b : Nat} {s d n j : Int} (h : b ≠ a) : cpD D a0 s a d n b j = D b j := by simp [cpD, h]
theorem cp_oct {D : Dat} {a0 a : Nat} : oct (cpD D a0 0 a 0 8 a) = oct (D a0) := by simp [oct, cpD]
theorem take_row {D : Dat} {a b : Nat} (h : a + 7 ≤ b ∨ b + 7 ≤ a) {E : Dat} (hE : E = cpD (cpD (cpD (cpD (cpD (cpD D (b + 1) 0 (a + 1) 0 8) (b + 2) 0 (a + 2) 0 8) (b + 3) 0 (a + 3) 0 8) (b + 4) 0 (a + 4) 0 8) (b + 5) 0 (a + 5) 0 8) (b + 6) 0 (a + 6) 0 8) :
    rowX (upD (upD (upD (upD E a 6 (E b 6)) a 7 (E b 7)) a 8 (E b 8)) a 9 (E b 9)) a = rowX D b := by
  subst hE
  rw [rx_e, rx_b, rx_f, rx_n]
  simp (disch := omega) only [rowX, cp_oct, cpD_other]
  rfl
theorem andN_tab : ∀ x, x < 256 → ∀ k, k < 8 → iAnd ((x : Nat) : Int) (iXor (iShl 1 ((k : Nat) : Int)) (-1)) = cb x k := by decide +kernel
theorem andN {x k : Int} (hx : 0 ≤ x ∧ x ≤ 255) (hk : 0 ≤ k ∧ k < 8) : iAnd x (iXor (iShl 1 k) (-1)) = cb x k := by
  obtain ⟨n, rfl⟩ := toN hx.1
  obtain ⟨j, rfl⟩ := toN hk.1
  exact andN_tab n (by omega) j (by omega)
theorem cb_in {x k : Int} (hx : 0 ≤ x ∧ x ≤ 255) : 0 ≤ cb x k ∧ cb x k ≤ 255 := by
  unfold cb
  have h1 : x.toNat < 2 ^ 8 := by omega
  have h2 : x.toNat &&& 2 ^ k.toNat < 2 ^ 8 := Nat.lt_of_le_of_lt Nat.and_le_left h1
  have := Nat.xor_lt_two_pow h1 h2
  omega
theorem sb_in {x k : Int} (hx : 0 ≤ x ∧ x ≤ 255) (hk : 0 ≤ k ∧ k < 8) : 0 ≤ sb x k ∧ sb x k ≤ 255 := by
  have := sb_lt (m := 8) (x := x) (k := k) (by omega) hk
  omega
theorem or8 {x k : Int} (hx : 0 ≤ x ∧ x ≤ 255) (hk : 0 ≤ k ∧ k < 8) : iOr x (iShl 1 k) = sb x k := orShl (m := 8) (by omega) (by omega) (by omega)
def joinR (r : Row) (p q : Int) : Row := (r.set (44 + p.toNat) (sb (rL r p) q)).set (44 + q.toNat) (sb (rL (r.set (44 + p.toNat) (sb (rL r p) q)) q) p)
def partR (r : Row) (p q : Int) : Row := (r.set (44 + p.toNat) (cb (rL r p) q)).set (44 + q.toNat) (cb (rL (r.set (44 + p.toNat) (cb (rL r p) q)) q) p)
/-- a row that is as it may be stays so when a number of the right size comes to a place -/
theorem rOk.len0 {r : Row} {k : Nat} {p v : Int} (hl : r.length = 52) (hp : 0 ≤ p ∧ k + p.toNat < 52) : rg (r.set (k + p.toNat) v) k p = v := by
  rw [rg_set hl hp.2, if_pos rfl]
theorem rOk.setL {r : Row} {p v : Int} (h : rOk r) (hl : r.length = 52) (hp : 0 ≤ p ∧ p < 8) (hv : 0 ≤ v ∧ v ≤ 255) : rOk (r.set (44 + p.toNat) v) := by
  obtain ⟨h1, h2, h3, h4, h5⟩ := h
  have e0 : rN (r.set (44 + p.toNat) v) = rN r := by unfold rN; rw [rg_set hl (by decide), if_neg (by omega)]
  have e1 : rF (r.set (44 + p.toNat) v) = rF r := by unfold rF; rw [rg_set hl (by decide), if_neg (by omega)]
  have e2 : rB (r.set (44 + p.toNat) v) = rB r := by unfold rB; rw [rg_set hl (by decide), if_neg (by omega)]
  unfold rOk
  rw [e0, e1, e2]
  refine ⟨h1, h2, h3, h4, fun q q1 q2 => ?_⟩
  have h6 := h5 q q1 q2
  unfold rK rW rBe rWe rSh rL at h6 ⊢
  rw [rg_set hl (by omega), rg_set hl (by omega), rg_set hl (by omega), rg_set hl (by omega), rg_set hl (by omega), rg_set hl (by omega), if_neg (by omega), if_neg (by omega), if_neg (by omega), if_neg (by omega), if_neg (by omega)]
  refine ⟨h6.1, h6.2.1, h6.2.2.1, h6.2.2.2.1, h6.2.2.2.2.1, ?_, h6.2.2.2.2.2.2⟩
  split
  · exact hv
  · exact h6.2.2.2.2.2.1
theorem rOk.L {r : Row} (h : rOk r) {p : Int} (hp : 0 ≤ p ∧ p < 8) : 0 ≤ rL r p ∧ rL r p ≤ 255 := (h.2.2.2.2 p hp.1 hp.2).2.2.2.2.2.1
theorem rOk.join {r : Row} {p q : Int} (h : rOk r) (hl : r.length = 52) (hp : 0 ≤ p ∧ p < 8) (hq : 0 ≤ q ∧ q < 8) : rOk (joinR r p q) := by
  unfold joinR
  have h1 := h.setL hl hp (sb_in (h.L hp) hq)
  exact h1.setL (set_len hl) hq (sb_in (h1.L hq) hp)
theorem rOk.part {r : Row} {p q : Int} (h : rOk r) (hl : r.length = 52) (hp : 0 ≤ p ∧ p < 8) (hq : 0 ≤ q ∧ q < 8) : rOk (partR r p q) := by
  unfold partR
  have h1 := h.setL hl hp (cb_in (k := q) (h.L hp))
  exact h1.setL (set_len hl) hq (cb_in (h1.L hq))
theorem joinR_len {r : Row} {p q : Int} (hl : r.length = 52) : (joinR r p q).length = 52 := set_len (set_len hl)
theorem partR_len {r : Row} {p q : Int} (hl : r.length = 52) : (partR r p q).length = 52 := set_len (set_len hl)
/-- places below 44 stay when links change -/
theorem joinR_lo {r : Row} {p q : Int} {k : Nat} {i : Int} (hl : r.length = 52) (hk : k + i.toNat < 44) : rg (joinR r p q) k i = rg r k i := by
  unfold joinR
  rw [rg_set (set_len hl) (by omega), if_neg (by omega), rg_set hl (by omega), if_neg (by omega)]
theorem partR_lo {r : Row} {p q : Int} {k : Nat} {i : Int} (hl : r.length = 52) (hk : k + i.toNat < 44) : rg (partR r p q) k i = rg r k i := by
  unfold partR
  rw [rg_set (set_len hl) (by omega), if_neg (by omega), rg_set hl (by omega), if_neg (by omega)]
def clrR (r : Row) : Nat → Row
  | 0 => r
  | k + 1 => (clrR r k).set (44 + k) 0
def ringR (r : Row) : Nat → Row
  | 0 => clrR r 8
  | k + 1 => joinR (ringR r k) k ((k + 1 : Int) % rN r)
theorem clrR_len {r : Row} (hl : r.length = 52) : ∀ k, (clrR r k).length = 52
  | 0 => hl
  | k + 1 => set_len (clrR_len hl k)
theorem ringR_len {r : Row} (hl : r.length = 52) : ∀ k, (ringR r k).length = 52
  | 0 => clrR_len hl 8
  | k + 1 => joinR_len (ringR_len hl k)
theorem clrR_ok {r : Row} (h : rOk r) (hl : r.length = 52) : ∀ k, k ≤ 8 → rOk (clrR r k)
  | 0, _ => h
  | k + 1, hk => by
    have := (clrR_ok h hl k (by omega)).setL (p := (k : Int)) (v := 0) (clrR_len hl k) (by omega) (by omega)
    rw [clrR]; simpa using this
theorem clrR_lo {r : Row} (hl : r.length = 52) : ∀ (k : Nat) {j : Nat} {i : Int}, j + i.toNat < 44 → rg (clrR r k) j i = rg r j i
  | 0, _, _, _ => rfl
  | k + 1, j, i, h => by
    rw [clrR, rg_set (clrR_len hl k) (by omega), if_neg (by omega)]; exact clrR_lo hl k h
theorem ringR_lo {r : Row} (hl : r.length = 52) : ∀ (k : Nat) {j : Nat} {i : Int}, j + i.toNat < 44 → rg (ringR r k) j i = rg r j i
  | 0, j, i, h => clrR_lo hl 8 h
  | k + 1, j, i, h => by rw [ringR, joinR_lo (ringR_len hl k) h]; exact ringR_lo hl k h
theorem ringR_ok {r : Row} (h : rOk r) (hl : r.length = 52) (hn : 0 < rN r) : ∀ (k : Nat), (k : Int) ≤ rN r → rOk (ringR r k)
  | 0, _ => clrR_ok h hl 8 (by omega)
  | k + 1, hk => by
    have h8 := h.2.1
    have h1 := Int.emod_nonneg ((k : Int) + 1) (show rN r ≠ 0 by omega)
    have h2 := Int.emod_lt_of_pos ((k : Int) + 1) hn
    exact (ringR_ok h hl hn k (by omega)).join (ringR_len hl k) (by omega) (by omega)
/-- a picture more -/
def addR (r : Row) (k w b : Int) : Row := ((((((r.set (4 + (rN r).toNat) k).set (12 + (rN r).toNat) w).set (20 + (rN r).toNat) b).set (28 + (rN r).toNat) 0).set (36 + (rN r).toNat) 0).set 0 (rN r + 1))
def resetR (r : Row) : Row := (((r.set 0 0).set 1 0).set 2 0).set 3 0
def comesR (r : Row) (m : Int) : Int := if m = 2 then rB r else if hasP r (thX r (rF r) (rB r) m) ∧ rBe r (thX r (rF r) (rB r) m) ≤ rWe r (thX r (rF r) (rB r) m) then -4 else thX r (rF r) (rB r) m
/-- a move, where it may be done -/
def goR (r : Row) (m : Int) : Row :=
  if comesR r m < 0 then r else
  if m = 2 then ((r.set 3 (rE r + 1)).set 2 (rF r)).set 1 (rB r) else
  ((((r.set 3 (rE r + effK (rK r (comesR r m)) (rSh r (comesR r m)))).set (28 + (comesR r m).toNat) (rWe r (comesR r m) + wearK (rK r (comesR r m)))).set (36 + (comesR r m).toNat) (if rSh r (comesR r m) + 1 < 99 then rSh r (comesR r m) + 1 else 99)).set 2 (rF r)).set 1 (comesR r m)
def setOf (f : Int → Bool) : Nat → Int
  | 0 => 0
  | k + 1 => if f k then sb (setOf f k) k else setOf f k
def sumOf (f : Int → Int) : Nat → Int
  | 0 => 0
  | k + 1 => sumOf f k + f k
theorem setOf_in (f : Int → Bool) : ∀ (k : Nat), k ≤ 8 → 0 ≤ setOf f k ∧ setOf f k ≤ 255
  | 0, _ => by rw [setOf]; omega
  | k + 1, h => by
    rw [setOf]
    split
    · exact sb_in (setOf_in f k (by omega)) (by omega)
    · exact setOf_in f k (by omega)
theorem comesR_in {r : Row} {m : Int} (hn : 0 < rN r) (hb : 0 ≤ rB r ∧ rB r < rN r) : comesR r m = -4 ∨ (0 ≤ comesR r m ∧ comesR r m < rN r) := by
  unfold comesR
  split
  · exact Or.inr hb
  · split
    · exact Or.inl rfl
    · exact thX_in hn
theorem setOf_step {f : Int → Bool} {k : Int} (hk : 0 ≤ k) : setOf f (k + 1).toNat = if f k then sb (setOf f k.toNat) k else setOf f k.toNat := by
  rw [show (k + 1).toNat = k.toNat + 1 by omega, setOf, show ((k.toNat : Nat) : Int) = k by omega]
theorem sumOf_step {f : Int → Int} {k : Int} (hk : 0 ≤ k) : sumOf f (k + 1).toNat = sumOf f k.toNat + f k := by
  rw [show (k + 1).toNat = k.toNat + 1 by omega, sumOf, show ((k.toNat : Nat) : Int) = k by omega]
theorem rg_add {r : Row} {k w b : Int} {j : Nat} {i : Int} (hl : r.length = 52) (hj : j + i.toNat < 52) : rg (addR r k w b) j i = if j + i.toNat = 0 then rN r + 1 else if j + i.toNat = 36 + (rN r).toNat then 0 else if j + i.toNat = 28 + (rN r).toNat then 0 else if j + i.toNat = 20 + (rN r).toNat then b else if j + i.toNat = 12 + (rN r).toNat then w else if j + i.toNat = 4 + (rN r).toNat then k else rg r j i := by
  unfold addR
  have l1 := set_len (j := 4 + (rN r).toNat) (v := k) hl
  have l2 := set_len (j := 12 + (rN r).toNat) (v := w) l1
  have l3 := set_len (j := 20 + (rN r).toNat) (v := b) l2
  have l4 := set_len (j := 28 + (rN r).toNat) (v := 0) l3
  have l5 := set_len (j := 36 + (rN r).toNat) (v := 0) l4
  rw [rg_set l5 hj, rg_set l4 hj, rg_set l3 hj, rg_set l2 hj, rg_set l1 hj, rg_set hl hj]
theorem addR_len {r : Row} {k w b : Int} (hl : r.length = 52) : (addR r k w b).length = 52 := by unfold addR; simpa using hl
theorem addR_n {r : Row} {k w b : Int} (hl : r.length = 52) : rN (addR r k w b) = rN r + 1 := by unfold rN; rw [rg_add hl (by decide), if_pos (by decide)]
theorem add_K {r : Row} {k w b q : Int} (hl : r.length = 52) (hn : 0 ≤ rN r ∧ rN r < 8) (hq : 0 ≤ q ∧ q < 8) : rK (addR r k w b) q = if q = rN r then k else rK r q := by
  unfold rK
  rw [rg_add hl (by omega)]
  generalize rN r = n at *
  by_cases h : q = n
  · subst h
    rw [if_pos rfl]
    repeat' split
    all_goals first | rfl | omega
  · rw [if_neg h]
    repeat' split
    all_goals first | rfl | omega
theorem add_W {r : Row} {k w b q : Int} (hl : r.length = 52) (hn : 0 ≤ rN r ∧ rN r < 8) (hq : 0 ≤ q ∧ q < 8) : rW (addR r k w b) q = if q = rN r then w else rW r q := by
  unfold rW
  rw [rg_add hl (by omega)]
  generalize rN r = n at *
  by_cases h : q = n
  · subst h
    rw [if_pos rfl]
    repeat' split
    all_goals first | rfl | omega
  · rw [if_neg h]
    repeat' split
    all_goals first | rfl | omega
theorem add_Be {r : Row} {k w b q : Int} (hl : r.length = 52) (hn : 0 ≤ rN r ∧ rN r < 8) (hq : 0 ≤ q ∧ q < 8) : rBe (addR r k w b) q = if q = rN r then b else rBe r q := by
  unfold rBe
  rw [rg_add hl (by omega)]
  generalize rN r = n at *
  by_cases h : q = n
  · subst h
    rw [if_pos rfl]
    repeat' split
    all_goals first | rfl | omega
  · rw [if_neg h]
    repeat' split
    all_goals first | rfl | omega
theorem add_We {r : Row} {k w b q : Int} (hl : r.length = 52) (hn : 0 ≤ rN r ∧ rN r < 8) (hq : 0 ≤ q ∧ q < 8) : rWe (addR r k w b) q = if q = rN r then 0 else rWe r q := by
  unfold rWe
  rw [rg_add hl (by omega)]
  generalize rN r = n at *
  by_cases h : q = n
  · subst h
    rw [if_pos rfl]
    repeat' split
    all_goals first | rfl | omega
  · rw [if_neg h]
    repeat' split
    all_goals first | rfl | omega
theorem add_Sh {r : Row} {k w b q : Int} (hl : r.length = 52) (hn : 0 ≤ rN r ∧ rN r < 8) (hq : 0 ≤ q ∧ q < 8) : rSh (addR r k w b) q = if q = rN r then 0 else rSh r q := by
  unfold rSh
  rw [rg_add hl (by omega)]
  generalize rN r = n at *
  by_cases h : q = n
  · subst h
    rw [if_pos rfl]
    repeat' split
    all_goals first | rfl | omega
  · rw [if_neg h]
    repeat' split
    all_goals first | rfl | omega
theorem add_L {r : Row} {k w b q : Int} (hl : r.length = 52) (hn : 0 ≤ rN r ∧ rN r < 8) (hq : 0 ≤ q ∧ q < 8) : rL (addR r k w b) q = rL r q := by
  unfold rL
  rw [rg_add hl (by omega)]
  generalize rN r = n at *
  repeat' split
  all_goals first | rfl | omega
theorem rOk.add {r : Row} {k w b : Int} (h : rOk r) (hl : r.length = 52) (hn : rN r < 8) (hk : 1 ≤ k ∧ k ≤ 5) (hw : 0 ≤ w ∧ w ≤ 9) (hb : 1 ≤ b ∧ b ≤ 9) : rOk (addR r k w b) := by
  obtain ⟨h1, h2, h3, h4, h5⟩ := h
  have e0 := addR_n (k := k) (w := w) (b := b) hl
  have e1 : rF (addR r k w b) = rF r := by unfold rF; rw [rg_add hl (by decide), if_neg (by decide), if_neg (by simp; omega), if_neg (by simp; omega), if_neg (by simp; omega), if_neg (by simp; omega), if_neg (by simp; omega)]
  have e2 : rB (addR r k w b) = rB r := by unfold rB; rw [rg_add hl (by decide), if_neg (by decide), if_neg (by simp; omega), if_neg (by simp; omega), if_neg (by simp; omega), if_neg (by simp; omega), if_neg (by simp; omega)]
  unfold rOk
  rw [e0, e1, e2]
  refine ⟨by omega, by omega, h3, h4, fun q q1 q2 => ?_⟩
  have h6 := h5 q q1 q2
  rw [add_K hl ⟨h1, hn⟩ ⟨q1, q2⟩, add_W hl ⟨h1, hn⟩ ⟨q1, q2⟩, add_Be hl ⟨h1, hn⟩ ⟨q1, q2⟩, add_We hl ⟨h1, hn⟩ ⟨q1, q2⟩, add_Sh hl ⟨h1, hn⟩ ⟨q1, q2⟩, add_L hl ⟨h1, hn⟩ ⟨q1, q2⟩]
  by_cases hq : q = rN r
  · simp only [if_pos hq]
    exact ⟨by omega, hw, by omega, by omega, by omega, h6.2.2.2.2.2.1, fun _ => ⟨hk.1, hb.1⟩⟩
  · simp only [if_neg hq]
    exact ⟨h6.1, h6.2.1, h6.2.2.1, h6.2.2.2.1, h6.2.2.2.2.1, h6.2.2.2.2.2.1, fun z => h6.2.2.2.2.2.2 (by omega)⟩
theorem resetR_len {r : Row} (hl : r.length = 52) : (resetR r).length = 52 := by unfold resetR; simpa using hl
theorem rg_reset {r : Row} {j : Nat} {i : Int} (hl : r.length = 52) (hj : j + i.toNat < 52) : rg (resetR r) j i = if j + i.toNat < 4 then 0 else rg r j i := by
  unfold resetR
  rw [rg_set (set_len (set_len (set_len hl))) hj, rg_set (set_len (set_len hl)) hj, rg_set (set_len hl) hj, rg_set hl hj]
  repeat' split
  all_goals first | rfl | omega
theorem rOk.reset {r : Row} (h : rOk r) (hl : r.length = 52) : rOk (resetR r) := by
  obtain ⟨h1, h2, h3, h4, h5⟩ := h
  have e0 : rN (resetR r) = 0 := by unfold rN; rw [rg_reset hl (by decide), if_pos (by decide)]
  have e1 : rF (resetR r) = 0 := by unfold rF; rw [rg_reset hl (by decide), if_pos (by decide)]
  have e2 : rB (resetR r) = 0 := by unfold rB; rw [rg_reset hl (by decide), if_pos (by decide)]
  unfold rOk
  rw [e0, e1, e2]
  refine ⟨by omega, by omega, by omega, by omega, fun q q1 q2 => ?_⟩
  have h6 := h5 q q1 q2
  unfold rK rW rBe rWe rSh rL at h6 ⊢
  rw [rg_reset hl (by omega), rg_reset hl (by omega), rg_reset hl (by omega), rg_reset hl (by omega), rg_reset hl (by omega), rg_reset hl (by omega), if_neg (by omega), if_neg (by omega), if_neg (by omega), if_neg (by omega), if_neg (by omega), if_neg (by omega)]
  exact ⟨h6.1, h6.2.1, h6.2.2.1, h6.2.2.2.1, h6.2.2.2.2.1, h6.2.2.2.2.2.1, fun z => by omega⟩
def addN (r : Row) : Nat → Row
  | 0 => r
  | k + 1 => addR (addN r k) 1 0 1
theorem addN_ok {r : Row} (h : rOk r) (hl : r.length = 52) (hz : rN r = 0) : ∀ k, k ≤ 8 → rOk (addN r k) ∧ (addN r k).length = 52 ∧ rN (addN r k) = k
  | 0, _ => ⟨h, hl, hz⟩
  | k + 1, hk => by
    obtain ⟨a1, a2, a3⟩ := addN_ok h hl hz k (by omega)
    exact ⟨a1.add a2 (by omega) (by omega) (by omega) (by omega), addR_len a2, by rw [addN, addR_n a2, a3]; omega⟩
def bareR (r : Row) (n : Nat) : Row := ringR (addN (resetR r) n) n
def canJ (r : Row) (p q : Int) : Prop := p ≠ q ∧ tb (rL r p) q = false ∧ ∀ i o : Int, 0 ≤ o → o < rN r → (p < i ∧ i < q ∨ q < i ∧ i < p) → (o < p ∧ o < q ∨ p < o ∧ q < o) → tb (rL r i) o = false
theorem goR_turn {r : Row} (hb : 0 ≤ rB r) : goR r 2 = ((r.set 3 (rE r + 1)).set 2 (rF r)).set 1 (rB r) := by
  have h : comesR r 2 = rB r := rfl
  unfold goR
  rw [h, if_neg (by omega), if_pos rfl]
theorem goR_flex {r : Row} {m c : Int} (hm : m ≠ 2) (hc : c = comesR r m) (h0 : 0 ≤ c) : goR r m = ((((r.set 3 (rE r + effK (rK r c) (rSh r c))).set (28 + c.toNat) (rWe r c + wearK (rK r c))).set (36 + c.toNat) (if rSh r c + 1 < 99 then rSh r c + 1 else 99)).set 2 (rF r)).set 1 c := by
  unfold goR
  rw [← hc, if_neg (show ¬ c < 0 by omega), if_neg hm]
theorem goR_no {r : Row} {m : Int} (h : comesR r m < 0) : goR r m = r := by
  unfold goR; rw [if_pos h]
