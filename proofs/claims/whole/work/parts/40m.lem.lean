/-! the fewest moves by which all are seen: states are 256 * spot + set -/
def nxS (r : Row) (t m : Int) : Int := if bhR r (t / 256) m < 0 then -4 else 256 * bhR r (t / 256) m + sb (t % 256) (bhR r (t / 256) m / 8)
def Tn (r : Row) (t0 : Int) : Nat → Int → Prop
  | 0, t => t = t0
  | k + 1, t => ∃ y m : Int, Tn r t0 k y ∧ 0 ≤ m ∧ m ≤ 2 ∧ nxS r y m = t ∧ 0 ≤ t
def isTour (r : Row) (t0 al v : Int) : Prop := (∃ k : Nat, v = k ∧ (∃ t : Int, Tn r t0 k t ∧ t % 256 = al) ∧ ∀ j : Nat, j < k → ∀ t : Int, Tn r t0 j t → t % 256 ≠ al) ∨ (v = -4 ∧ ∀ (k : Nat) (t : Int), Tn r t0 k t → t % 256 ≠ al)
theorem isTour_uniq {r : Row} {t0 al v w : Int} (h1 : isTour r t0 al v) (h2 : isTour r t0 al w) : v = w := by
  rcases h1 with ⟨k, rfl, ⟨t, a1, a2⟩, a3⟩ | ⟨rfl, a⟩
  · rcases h2 with ⟨j, rfl, ⟨s, b1, b2⟩, b3⟩ | ⟨rfl, b⟩
    · rcases Nat.lt_trichotomy k j with q | q | q
      · exact absurd a2 (b3 k q t a1)
      · rw [q]
      · exact absurd b2 (a3 j q s b1)
    · exact absurd a2 (b k t a1)
  · rcases h2 with ⟨j, rfl, ⟨s, b1, b2⟩, b3⟩ | ⟨rfl, b⟩
    · exact absurd b2 (a j s b1)
    · rfl
def tsOk (r : Row) (t : Int) : Prop := (0 ≤ t ∧ t < 16384) ∧ zOk r (t / 256) ∧ tb (t % 256) (t / 256 / 8) = true
theorem nxS_ok {r : Row} {t m : Int} (hs : sym r) (hn : rN r ≤ 8) (h : tsOk r t) (hm : 0 ≤ m ∧ m ≤ 2) : nxS r t m = -4 ∨ tsOk r (nxS r t m) := by
  unfold nxS
  rcases bhR_ok (m := m) hs hn h.2.1 hm with ⟨q, -⟩ | q
  · left; rw [if_pos (by omega)]
  · right
    have q64 := q.1
    rw [if_neg (by omega)]
    generalize bhR r (t / 256) m = y at *
    have s8 := sb_in (x := t % 256) (k := y / 8) (by omega) (by omega)
    have hb : tb (sb (t % 256) (y / 8)) (y / 8) = true := by rw [tb_sb (by omega) (by omega)]; simp
    generalize sb (t % 256) (y / 8) = s at *
    have e1 : (256 * y + s) / 256 = y := by omega
    have e2 : (256 * y + s) % 256 = s := by omega
    refine ⟨by omega, ?_, ?_⟩
    · rw [e1]; exact q
    · rw [e1, e2]; exact hb
def bfI (r : Row) (Q : Int → Int) (S : Int → Prop) (e : Int) : Prop := 1 ≤ e ∧ (∀ j : Int, 0 ≤ j → j < e → tsOk r (Q j) ∧ S (Q j)) ∧ (∀ t : Int, 0 ≤ t → t < 16384 → S t → ∃ j : Int, 0 ≤ j ∧ j < e ∧ Q j = t) ∧ ∀ i j : Int, 0 ≤ i → i < j → j < e → Q i ≠ Q j
def bfL (r : Row) (t0 al : Int) (Q : Int → Int) (e l n : Int) : Prop := l ≤ e ∧ (∀ j : Int, 0 ≤ j → j < l → ∃ i : Nat, (i : Int) ≤ n ∧ Tn r t0 i (Q j)) ∧ (∀ j : Int, 0 ≤ j → j < e → ∃ i : Nat, (i : Int) ≤ n + 1 ∧ Tn r t0 i (Q j)) ∧ (∀ (i : Nat) (t : Int), (i : Int) ≤ n → Tn r t0 i t → ∃ j : Int, 0 ≤ j ∧ j < l ∧ Q j = t) ∧ ∀ (i : Nat) (t : Int), (i : Int) < n → Tn r t0 i t → t % 256 ≠ al
def bfD (r : Row) (al : Int) (Q : Int → Int) (S : Int → Prop) (k : Int) : Prop := ∀ j : Int, 0 ≤ j → j < k → Q j % 256 ≠ al ∧ ∀ m : Int, 0 ≤ m → m ≤ 2 → 0 ≤ nxS r (Q j) m → S (nxS r (Q j) m)
def bfM (r : Row) (Q : Int → Int) (S : Int → Prop) (k m : Int) : Prop := ∀ n : Int, 0 ≤ n → n < m → 0 ≤ nxS r (Q k) n → S (nxS r (Q k) n)
def adQ (Q Q2 : Int → Int) (S S2 : Int → Prop) (e t : Int) : Prop := (∀ j : Int, 0 ≤ j → j < e → Q2 j = Q j) ∧ Q2 e = t ∧ ∀ x : Int, 0 ≤ x → x < 16384 → (S2 x ↔ S x ∨ x = t)
section Bf
variable {r : Row} {t0 al : Int} {Q Q2 : Int → Int} {S S2 : Int → Prop} {e l n k t : Int}
theorem bfI.ad (h : bfI r Q S e) (ha : adQ Q Q2 S S2 e t) (ht : tsOk r t) (hn : ¬ S t) : bfI r Q2 S2 (e + 1) := by
  obtain ⟨h1, h2, h3, h4⟩ := h
  obtain ⟨a1, a2, a3⟩ := ha
  refine ⟨by omega, fun j j0 j1 => ?_, fun x x0 x1 hx => ?_, fun i j i0 ij j1 => ?_⟩
  · by_cases q : j = e
    · rw [q, a2]; exact ⟨ht, (a3 t ht.1.1 ht.1.2).2 (Or.inr rfl)⟩
    · rw [a1 j j0 (by omega)]
      have := h2 j j0 (by omega)
      exact ⟨this.1, (a3 _ this.1.1.1 this.1.1.2).2 (Or.inl this.2)⟩
  · rcases (a3 x x0 x1).1 hx with q | q
    · obtain ⟨j, j0, j1, j2⟩ := h3 x x0 x1 q
      exact ⟨j, j0, by omega, by rw [a1 j j0 j1]; exact j2⟩
    · exact ⟨e, by omega, by omega, by rw [a2, q]⟩
  · by_cases q : j = e
    · rw [q, a2, a1 i i0 (by omega)]
      intro w
      exact hn (w ▸ (h2 i i0 (by omega)).2)
    · rw [a1 i i0 (by omega), a1 j (by omega) (by omega)]
      exact h4 i j i0 ij (by omega)
theorem bfI.le (h : bfI r Q S e) : e ≤ 16384 := by
  rcases Int.lt_or_le 16384 e with q | q
  · obtain ⟨a, b, h1, h2, h3⟩ := pigeon 16384 (fun i => (Q i).toNat) (fun i hi => by
      have := (h.2.1 (i : Int) (by omega) (by omega)).1.1
      show (Q i).toNat < 16384
      omega)
    have e1 := (h.2.1 (a : Int) (by omega) (by omega)).1.1
    have e2 := (h.2.1 (b : Int) (by omega) (by omega)).1.1
    exact absurd (show Q a = Q b by omega) (h.2.2.2 a b (by omega) (by omega) (by omega))
  · exact q
theorem bfI.lt (h : bfI r Q S e) (ht : tsOk r t) (hn : ¬ S t) : e < 16384 := by
  have := (h.ad (Q2 := fun j => if j = e then t else Q j) (S2 := fun x => S x ∨ x = t) ⟨fun j _ j1 => if_neg (by omega), if_pos rfl, fun x _ _ => Iff.rfl⟩ ht hn).le
  omega
theorem bfL.ad (h : bfL r t0 al Q e l n) (h1 : 1 ≤ e) (ha : adQ Q Q2 S S2 e t) (hk : 0 ≤ k ∧ k < l) {m : Int} (hm : 0 ≤ m ∧ m ≤ 2) (ht : nxS r (Q k) m = t) (t0' : 0 ≤ t) : bfL r t0 al Q2 (e + 1) l n := by
  obtain ⟨h0, b, c, d, f⟩ := h
  obtain ⟨a1, a2, a3⟩ := ha
  refine ⟨by omega, fun j j0 j1 => ?_, fun j j0 j1 => ?_, fun i x hi hx => ?_, f⟩
  · rw [a1 j j0 (by omega)]; exact b j j0 j1
  · by_cases q : j = e
    · obtain ⟨i, i1, i2⟩ := b k hk.1 hk.2
      exact ⟨i + 1, by omega, by rw [q, a2]; exact ⟨Q k, m, i2, hm.1, hm.2, ht, t0'⟩⟩
    · rw [a1 j j0 (by omega)]; exact c j j0 (by omega)
  · obtain ⟨j, j0, j1, j2⟩ := d i x hi hx
    exact ⟨j, j0, j1, by rw [a1 j j0 (by omega)]; exact j2⟩
theorem bfD.ad (hs : sym r) (hn8 : rN r ≤ 8) (hI : bfI r Q S e) (h : bfD r al Q S k) (ha : adQ Q Q2 S S2 e t) (hk : k ≤ e) : bfD r al Q2 S2 k := by
  intro j j0 j1
  have ho := (hI.2.1 j j0 (by omega)).1
  rw [ha.1 j j0 (by omega)]
  refine ⟨(h j j0 j1).1, fun m m0 m1 hx => ?_⟩
  rcases nxS_ok hs hn8 ho ⟨m0, m1⟩ with q | q
  · omega
  · exact (ha.2.2 _ q.1.1 q.1.2).2 (Or.inl ((h j j0 j1).2 m m0 m1 hx))
theorem bfM.ad (hs : sym r) (hn8 : rN r ≤ 8) (hI : bfI r Q S e) {m : Int} (h : bfM r Q S k m) (ha : adQ Q Q2 S S2 e t) (hk : 0 ≤ k ∧ k < e) (hm : 0 ≤ m ∧ m ≤ 2) (ht : nxS r (Q k) m = t) : bfM r Q2 S2 k (m + 1) := by
  intro n n0 n1 hx
  have ho := (hI.2.1 k hk.1 hk.2).1
  rw [ha.1 k hk.1 hk.2] at hx ⊢
  rcases nxS_ok hs hn8 ho (m := n) ⟨n0, by omega⟩ with q | q
  · omega
  · refine (ha.2.2 _ q.1.1 q.1.2).2 ?_
    by_cases w : n = m
    · right; rw [w, ht]
    · left; exact h n n0 (by omega) hx
theorem bfM.no {m : Int} (h : bfM r Q S k m) (hm : nxS r (Q k) m < 0 ∨ S (nxS r (Q k) m)) : bfM r Q S k (m + 1) := by
  intro n n0 n1 hx
  by_cases w : n = m
  · subst w
    rcases hm with q | q
    · omega
    · exact q
  · exact h n n0 (by omega) hx
theorem bfD.nx (h : bfD r al Q S k) (ha : Q k % 256 ≠ al) (hm : bfM r Q S k 3) : bfD r al Q S (k + 1) := by
  intro j j0 j1
  by_cases w : j = k
  · subst w; exact ⟨ha, fun m m0 m1 hx => hm m m0 (by omega) hx⟩
  · exact h j j0 (by omega)
theorem bf_up (hs : sym r) (hn8 : rN r ≤ 8) (hI : bfI r Q S e) (hL : bfL r t0 al Q e l n) (hD : bfD r al Q S l) (h0 : 0 ≤ n) : bfL r t0 al Q e e (n + 1) := by
  obtain ⟨h1, b, c, d, f⟩ := hL
  refine ⟨Int.le_refl _, c, fun j j0 j1 => ?_, fun i t hi ht => ?_, fun i t hi ht => ?_⟩
  · obtain ⟨i, i1, i2⟩ := c j j0 j1
    exact ⟨i, by omega, i2⟩
  · by_cases q : (i : Int) ≤ n
    · obtain ⟨j, j0, j1, j2⟩ := d i t q ht
      exact ⟨j, j0, by omega, j2⟩
    · cases i with
      | zero => omega
      | succ i =>
        obtain ⟨y, m, y1, m0, m1, y2, y3⟩ := ht
        obtain ⟨j, j0, j1, j2⟩ := d i y (by omega) y1
        have w := (hD j j0 j1).2 m m0 m1 (by rw [j2, y2]; exact y3)
        rw [j2, y2] at w
        have ho := (hI.2.1 j j0 (by omega)).1
        rw [j2] at ho
        rcases nxS_ok hs hn8 ho (m := m) ⟨m0, m1⟩ with q | q
        · omega
        · rw [y2] at q
          exact hI.2.2.1 t q.1.1 q.1.2 w
  · obtain ⟨j, j0, j1, j2⟩ := d i t (by omega) ht
    rw [← j2]; exact (hD j j0 j1).1
theorem bf_found (hL : bfL r t0 al Q e l n) (hk : 0 ≤ k ∧ k < l) (ha : Q k % 256 = al) (h0 : 0 ≤ n) : isTour r t0 al n := by
  obtain ⟨h1, b, c, d, f⟩ := hL
  obtain ⟨i, i1, i2⟩ := b k hk.1 hk.2
  have : ¬ (i : Int) < n := fun q => f i _ q i2 ha
  refine Or.inl ⟨n.toNat, by omega, ⟨Q k, ?_, ha⟩, fun j hj t ht => f j t (by omega) ht⟩
  rw [show n.toNat = i by omega]; exact i2
theorem bf_none (hs : sym r) (hn8 : rN r ≤ 8) (hI : bfI r Q S e) (hL : bfL r t0 al Q e l n) (hD : bfD r al Q S k) (hk : e ≤ k) (h0 : 0 ≤ n) : isTour r t0 al (-4) := by
  refine Or.inr ⟨rfl, fun i t ht => ?_⟩
  have key : ∀ (i : Nat) (t : Int), Tn r t0 i t → ∃ j : Int, 0 ≤ j ∧ j < e ∧ Q j = t := by
    intro i
    induction i with
    | zero =>
      intro t ht
      obtain ⟨j, j0, j1, j2⟩ := hL.2.2.2.1 0 t (by omega) ht
      exact ⟨j, j0, by have := hL.1; omega, j2⟩
    | succ i ih =>
      intro t ht
      obtain ⟨y, m, y1, m0, m1, y2, y3⟩ := ht
      obtain ⟨j, j0, j1, j2⟩ := ih y y1
      have w := (hD j j0 (by omega)).2 m m0 m1 (by rw [j2, y2]; exact y3)
      rw [j2, y2] at w
      have ho := (hI.2.1 j j0 j1).1
      rw [j2] at ho
      rcases nxS_ok hs hn8 ho (m := m) ⟨m0, m1⟩ with q | q
      · omega
      · rw [y2] at q
        exact hI.2.2.1 t q.1.1 q.1.2 w
  obtain ⟨j, j0, j1, j2⟩ := key i t ht
  rw [← j2]; exact (hD j j0 (by omega)).1
theorem bf_0 {al : Int} (ht : tsOk r t0) (hQ : Q 0 = t0) (hS : ∀ x : Int, 0 ≤ x → x < 16384 → (S x ↔ x = t0)) : bfI r Q S 1 ∧ bfL r t0 al Q 1 1 0 ∧ bfD r al Q S 0 := by
  refine ⟨⟨Int.le_refl _, fun j j0 j1 => ?_, fun x x0 x1 hx => ⟨0, by omega, by omega, by rw [hQ]; exact ((hS x x0 x1).1 hx).symm⟩, fun i j i0 ij j1 => by omega⟩, ⟨Int.le_refl _, fun j j0 j1 => ⟨0, by omega, ?_⟩, fun j j0 j1 => ⟨0, by omega, ?_⟩, fun i x hi hx => ?_, fun i x hi hx => by omega⟩, fun j j0 j1 => by omega⟩
  · rw [show j = 0 by omega, hQ]; exact ⟨ht, (hS _ ht.1.1 ht.1.2).2 rfl⟩
  · rw [show j = 0 by omega, hQ]; rfl
  · rw [show j = 0 by omega, hQ]; rfl
  · have : i = 0 := by omega
    subst this
    exact ⟨0, by omega, by omega, by rw [hQ]; exact hx.symm⟩
end Bf
theorem tm_ad {E : Dat} {e t : Int} : adQ (E 290) (upD (upD E 291 t 1) 290 e t 290) (fun x => E 291 x = 1) (fun x => upD (upD E 291 t 1) 290 e t 291 x = 1) e t := by
  refine ⟨fun j _ j1 => by rw [upD_n (Or.inr (by omega)), upD_other (by omega)], upD_s, fun x _ _ => ?_⟩
  show upD (upD E 291 t 1) 290 e t 291 x = 1 ↔ _
  rw [upD_n (Or.inl (by omega))]
  by_cases q : x = t
  · rw [q, upD_s]; exact ⟨fun _ => Or.inr rfl, fun _ => rfl⟩
  · rw [upD_n (Or.inr q)]; exact ⟨fun w => Or.inl w, fun w => w.elim id (fun w => absurd w q)⟩
theorem tm_01 {E : Dat} {e t : Int} (h : ∀ x : Int, 0 ≤ x → x < 16384 → E 291 x = 0 ∨ E 291 x = 1) : ∀ x : Int, 0 ≤ x → x < 16384 → upD (upD E 291 t 1) 290 e t 291 x = 0 ∨ upD (upD E 291 t 1) 290 e t 291 x = 1 := fun x x0 x1 => by
  rw [upD_n (Or.inl (by omega))]
  by_cases q : x = t
  · rw [q, upD_s]; exact Or.inr rfl
  · rw [upD_n (Or.inr q)]; exact h x x0 x1
def tS0 (D : Dat) : Int := 256 * (8 * D 284 1 + D 284 2) + pw (D 284 1)
theorem t0_ok {D : Dat} (h : gdR (rowM D 284 0)) : tsOk (rowM D 284 0) (tS0 D) := by
  have hz := z0_ok h
  have h8 := h.1.2.1.2.1
  have hf := h.1.2.2.1
  have hb := h.1.2.2.2
  rw [mF] at hf
  rw [mB] at hb
  have hp := pw_8 (k := D 284 1) (by omega)
  have ht : tb (pw (D 284 1)) (D 284 1) = true := by rw [tb_pw hf.1 hf.1]; simp
  unfold tS0
  generalize pw (D 284 1) = w at *
  have e1 : (256 * (8 * D 284 1 + D 284 2) + w) / 256 = 8 * D 284 1 + D 284 2 := by omega
  have e2 : (256 * (8 * D 284 1 + D 284 2) + w) % 256 = w := by omega
  refine ⟨by omega, ?_, ?_⟩
  · rw [e1]; exact hz
  · rw [e1, e2, show (8 * D 284 1 + D 284 2) / 8 = D 284 1 by omega]; exact ht
