/-! two strips read off the same tape -/
def rP (r s : Row) : Prop := (r.length = 52 ∧ s.length = 52) ∧ (rOk r ∧ rOk s) ∧ (rN r = rN s ∧ rF r = rF s ∧ rB r = rB s ∧ rE r = rE s) ∧ ∀ p : Int, 0 ≤ p → p < rN r → rK r p = rK s p ∧ rW r p = rW s p ∧ rBe r p = rBe s p ∧ rWe r p = rWe s p ∧ rSh r p = rSh s p
def rQ (r s : Row) : Prop := rP r s ∧ ∀ p : Int, 0 ≤ p → p < 8 → rL r p = rL s p
def PQ (R : Row → Row → Prop) (x y : PR) : Prop := x.1 = y.1 ∧ x.2.2 = y.2.2 ∧ (x.1 = true → R x.2.1 y.2.1)
theorem PQ.mk {R : Row → Row → Prop} {b : Bool} {r s : Row} {p : Int} (h : R r s) : PQ R (b, r, p) (b, s, p) := ⟨rfl, rfl, fun _ => h⟩
theorem PQ.no {R : Row → Row → Prop} {r s : Row} {p : Int} : PQ R (false, r, p) (false, s, p) := ⟨rfl, rfl, fun h => by cases h⟩
theorem PQ.pb {R S : Row → Row → Prop} {x y : PR} {f g : Row → Int → PR} (h : PQ R x y) (hf : ∀ r s p, R r s → PQ S (f r p) (g s p)) : PQ S (pb x f) (pb y g) := by
  obtain ⟨h1, h2, h3⟩ := h
  cases e : x.1
  · have e2 := e
    rw [h1] at e2
    rw [pb_f e, pb_f e2]
    exact ⟨h1, h2, fun z => by rw [e] at z; cases z⟩
  · have e2 := e
    rw [h1] at e2
    rw [pb_t e, pb_t e2, h2]
    exact hf _ _ _ (h3 e)
theorem PQsgn {R : Row → Row → Prop} {t : Int → Int} {c p : Int} {r s : Row} (h : R r s) : PQ R (sgn t c r p) (sgn t c s p) := by
  unfold sgn
  split
  · exact PQ.mk h
  · exact PQ.no
theorem rP.reset {r s : Row} (hr : r.length = 52) (hs : s.length = 52) (h1 : rOk r) (h2 : rOk s) : rP (resetR r) (resetR s) ∧ rN (resetR r) = 0 := by
  have e : ∀ {r : Row}, r.length = 52 → rN (resetR r) = 0 ∧ rF (resetR r) = 0 ∧ rB (resetR r) = 0 ∧ rE (resetR r) = 0 := fun {r} hr => by
    unfold rN rF rB rE
    rw [rg_reset hr (by decide), rg_reset hr (by decide), rg_reset hr (by decide), rg_reset hr (by decide)]
    exact ⟨rfl, rfl, rfl, rfl⟩
  have a := e hr
  have b := e hs
  refine ⟨⟨⟨resetR_len hr, resetR_len hs⟩, ⟨h1.reset hr, h2.reset hs⟩, ⟨by rw [a.1, b.1], by rw [a.2.1, b.2.1], by rw [a.2.2.1, b.2.2.1], by rw [a.2.2.2, b.2.2.2]⟩, fun p p0 p1 => ?_⟩, a.1⟩
  rw [a.1] at p1
  omega
theorem add_hd {r : Row} {k w b : Int} (hl : r.length = 52) (hn : 0 ≤ rN r ∧ rN r < 8) : rF (addR r k w b) = rF r ∧ rB (addR r k w b) = rB r ∧ rE (addR r k w b) = rE r := by
  refine ⟨?_, ?_, ?_⟩
  · unfold rF; rw [rg_add hl (by decide), if_neg (by decide), if_neg (by simp; omega), if_neg (by simp; omega), if_neg (by simp; omega), if_neg (by simp; omega), if_neg (by simp; omega)]
  · unfold rB; rw [rg_add hl (by decide), if_neg (by decide), if_neg (by simp; omega), if_neg (by simp; omega), if_neg (by simp; omega), if_neg (by simp; omega), if_neg (by simp; omega)]
  · unfold rE; rw [rg_add hl (by decide), if_neg (by decide), if_neg (by simp; omega), if_neg (by simp; omega), if_neg (by simp; omega), if_neg (by simp; omega), if_neg (by simp; omega)]
theorem rP.add {r s : Row} {k w b : Int} (h : rP r s) (hn : rN r < 8) (hk : 1 ≤ k ∧ k ≤ 5) (hw : 0 ≤ w ∧ w ≤ 9) (hb : 1 ≤ b ∧ b ≤ 9) : rP (addR r k w b) (addR s k w b) := by
  obtain ⟨⟨l1, l2⟩, ⟨o1, o2⟩, ⟨n1, n2, n3, n4⟩, h5⟩ := h
  have m1 : 0 ≤ rN r ∧ rN r < 8 := ⟨o1.1, hn⟩
  have m2 : 0 ≤ rN s ∧ rN s < 8 := ⟨o2.1, n1 ▸ hn⟩
  have a := add_hd (k := k) (w := w) (b := b) l1 m1
  have c := add_hd (k := k) (w := w) (b := b) l2 m2
  refine ⟨⟨addR_len l1, addR_len l2⟩, ⟨o1.add l1 hn hk hw hb, o2.add l2 m2.2 hk hw hb⟩, ⟨by rw [addR_n l1, addR_n l2, n1], by rw [a.1, c.1, n2], by rw [a.2.1, c.2.1, n3], by rw [a.2.2, c.2.2, n4]⟩, fun p p0 p1 => ?_⟩
  rw [addR_n l1] at p1
  have hp : 0 ≤ p ∧ p < 8 := ⟨p0, by omega⟩
  rw [add_K l1 m1 hp, add_W l1 m1 hp, add_Be l1 m1 hp, add_We l1 m1 hp, add_Sh l1 m1 hp, add_K l2 m2 hp, add_W l2 m2 hp, add_Be l2 m2 hp, add_We l2 m2 hp, add_Sh l2 m2 hp, ← n1]
  by_cases e : p = rN r
  · simp only [if_pos e]; exact ⟨trivial, trivial, trivial, trivial, trivial⟩
  · simp only [if_neg e]; exact h5 p p0 (by omega)
theorem pPic_q {t : Int → Int} {r s : Row} {p : Int} (h : rP r s) (hn : rN r < 8) : PQ (fun x y => rP x y ∧ rN x = rN r + 1) (pPic t r p) (pPic t s p) := by
  unfold pPic
  have hk := kindL_in (t p)
  have h1 := figT_in t (p + 1)
  have h2 := figT_in t (p + 2)
  by_cases a : kindL (t p) < 0
  · rw [if_pos a, if_pos a]; exact PQ.no
  · rw [if_neg a, if_neg a]
    by_cases b : figT t (p + 1) < 0
    · rw [if_pos b, if_pos b]; exact PQ.no
    · rw [if_neg b, if_neg b]
      by_cases c : figT t (p + 2) < 1
      · rw [if_pos c, if_pos c]; exact PQ.no
      · rw [if_neg c, if_neg c]
        exact PQ.mk ⟨h.add hn (by omega) (by omega) (by omega), addR_n h.1.1⟩
theorem pPics_q {t : Int → Int} : ∀ (f : Nat) (r s : Row) (p : Int), rP r s → rN r = 8 - (f : Int) → PQ (fun x y => rP x y ∧ 3 ≤ rN x) (pPics t f r p) (pPics t f s p)
  | 0, r, s, p, _, _ => PQ.no
  | f + 1, r, s, p, h, hn => by
    rw [pPics, pPics]
    refine PQ.pb (pPic_q h (by omega)) (fun x y q hxy => ?_)
    obtain ⟨hp, hx⟩ := hxy
    have e : rN x = rN y := hp.2.2.1.1
    rw [← e]
    by_cases a : rN x = 8 ∨ t q ≠ 44
    · rw [if_pos a, if_pos a]
      by_cases b : 3 ≤ rN x
      · rw [decide_eq_true b]; exact PQ.mk ⟨hp, b⟩
      · rw [decide_eq_false b]; exact PQ.no
    · rw [if_neg a, if_neg a]
      exact pPics_q f x y (q + 1) hp (by omega)
/-- two that are being folded: the same folds -/
def rFo (k : Nat) (r s : Row) : Prop := rP r s ∧ sym8 r ∧ ∃ n c : Nat, (3 ≤ n ∧ k ≤ n - 3) ∧ eqC c (sF n k) = true ∧ mrow r n (unC c) ∧ mrow s n (unC c)
theorem rP.lk {r s r2 s2 : Row} (h : rP r s) (hr : r2.length = 52) (hs : s2.length = 52) (h1 : rOk r2) (h2 : rOk s2) (e1 : ∀ (j : Nat) (i : Int), j + i.toNat < 44 → rg r2 j i = rg r j i) (e2 : ∀ (j : Nat) (i : Int), j + i.toNat < 44 → rg s2 j i = rg s j i) : rP r2 s2 := by
  obtain ⟨-, ⟨o1, -⟩, ⟨n1, n2, n3, n4⟩, h5⟩ := h
  have h8 := o1.2.1
  unfold rP
  unfold rN rF rB rE rK rW rBe rWe rSh at *
  refine ⟨⟨hr, hs⟩, ⟨h1, h2⟩, ⟨by rw [e1 _ _ (by decide), e2 _ _ (by decide), n1], by rw [e1 _ _ (by decide), e2 _ _ (by decide), n2], by rw [e1 _ _ (by decide), e2 _ _ (by decide), n3], by rw [e1 _ _ (by decide), e2 _ _ (by decide), n4]⟩, fun p p0 p1 => ?_⟩
  rw [e1 0 0 (by decide)] at p1
  rw [e1 4 p (by omega), e1 12 p (by omega), e1 20 p (by omega), e1 28 p (by omega), e1 36 p (by omega), e2 4 p (by omega), e2 12 p (by omega), e2 20 p (by omega), e2 28 p (by omega), e2 36 p (by omega)]
  exact h5 p p0 p1
theorem rFo.ring {r s : Row} (h : rP r s) (hn : 3 ≤ rN r) : rFo 0 (ringR r (rN r).toNat) (ringR s (rN s).toNat) := by
  obtain ⟨n, en⟩ : ∃ n : Nat, rN r = n := ⟨(rN r).toNat, by omega⟩
  have es : rN s = n := by rw [← h.2.2.1.1]; exact en
  have h8 := h.2.1.1.2.1
  rw [en, es, Int.toNat_natCast]
  have m1 := mrow_rg h.1.1 h.2.1.1 en (by omega) n (Nat.le_refl _)
  have m2 := mrow_rg h.1.2 h.2.1.2 es (by omega) n (Nat.le_refl _)
  have e := un_cd m1.2.2.2.1 (fun k hk => mrow_8 m1 hk)
  refine ⟨h.lk m1.1 m2.1 m1.2.1 m2.2.1 (fun j i hj => ringR_lo h.1.1 n hj) (fun j i hj => ringR_lo h.1.2 n hj), ring_sym h.1.1 (by omega) n (by omega), n, cdN (rgN n n), by omega, rg_in n (by omega) (by omega), ?_, ?_⟩
  · rw [e]; exact m1
  · rw [e]; exact m2
theorem canJ_c {r s : Row} {p q : Int} (hN : rN r = rN s) (hL : ∀ p : Int, 0 ≤ p → p < 8 → rL r p = rL s p) (h8 : rN r ≤ 8) (hp : 0 ≤ p ∧ p < rN r) (hq : 0 ≤ q ∧ q < rN r) (h : canJ r p q) : canJ s p q := by
  obtain ⟨a, b, c⟩ := h
  refine ⟨a, by rw [← hL p hp.1 (by omega)]; exact b, fun i o o0 o1 hi ho => ?_⟩
  rw [← hL i (by omega) (by omega)]
  exact c i o o0 (by rw [hN]; exact o1) hi ho
theorem canJ_s {r : Row} {p q : Int} (hs : sym8 r) (hp : 0 ≤ p ∧ p < 8) (hq : 0 ≤ q ∧ q < 8) (h : canJ r p q) : canJ r q p := by
  obtain ⟨a, b, c⟩ := h
  exact ⟨fun z => a z.symm, by rw [hs q p hq.1 hq.2 hp.1 hp.2]; exact b, fun i o o0 o1 hi ho => c i o o0 o1 hi.symm (by omega)⟩
theorem fold_step {r : Row} {n c k a b : Nat} (h : mrow r n (unC c)) (hs : sym8 r) (hn : 3 ≤ n) (hk : k < n - 3) (hc : eqC c (sF n k) = true) (ha : a < n) (hb : b < n) (hj : canJ r a b) : eqC (cdN (jnN (unC c) a b)) (sF n (k + 1)) = true := by
  have h8 := mr_n h
  have hN := h.2.2.1
  have st := stp_ok ⟨hn, h8⟩ hk hc
  have hm : mem8 (rL r) 0 (unC c) := ⟨rfl, fun j hj => by rw [Int.zero_add]; exact h.2.2.2.2 j hj⟩
  have key : ∀ x y : Nat, x < y → y < n → canJ r x y → jnB (unC c) n x y = true := fun x y hxy hy hc => (jn_B hm h8 hxy hy).1 ((can_jn ⟨hN, by omega⟩ hs (fun p _ _ => by rw [Int.zero_add]) (by omega) (by omega)).2 hc)
  rcases Nat.lt_trichotomy a b with w | w | w
  · exact (stpC_at st w hb (key a b w hb hj)).1
  · exact absurd (congrArg Int.ofNat w) hj.1
  · exact (stpC_at st w ha (key b a w ha (canJ_s hs (by omega) (by omega) hj))).2
theorem rFo.L {k : Nat} {r s : Row} (h : rFo k r s) : ∀ p : Int, 0 ≤ p → p < 8 → rL r p = rL s p := fun p p0 p1 => by
  obtain ⟨-, -, n, c, -, -, m1, m2⟩ := h
  rw [mrow_LI m1 p p0 p1, mrow_LI m2 p p0 p1]
theorem pFold_q {t : Int → Int} {k n0 : Nat} {r s : Row} {p : Int} (h : rFo k r s) (hn : rN r = n0) (hk : k < n0 - 3) : PQ (fun x y => rFo (k + 1) x y ∧ rN x = n0) (pFold t r p) (pFold t s p) := by
  have hL := h.L
  obtain ⟨hp, hs, n, c, hkn, hc, m1, m2⟩ := h
  have en : n = n0 := by have := m1.2.2.1; omega
  subst en
  have eN : rN r = rN s := hp.2.2.1.1
  have h8 := mr_n m1
  unfold pFold
  rw [← eN]
  by_cases a : ¬ (0 ≤ figT t p ∧ figT t p < rN r)
  · rw [if_pos a, if_pos a]; exact PQ.no
  · rw [if_neg a, if_neg a]
    have a := Classical.not_not.mp a
    by_cases b : (0 ≤ figT t (p + 1) ∧ figT t (p + 1) < rN r) ∧ canJ r (figT t p) (figT t (p + 1))
    · have b2 : (0 ≤ figT t (p + 1) ∧ figT t (p + 1) < rN r) ∧ canJ s (figT t p) (figT t (p + 1)) := ⟨b.1, canJ_c eN hL (by omega) a b.1 b.2⟩
      rw [cif_t b, cif_t b2]
      refine PQ.mk ?_
      obtain ⟨x, ex⟩ : ∃ x : Nat, figT t p = x := ⟨(figT t p).toNat, by omega⟩
      obtain ⟨y, ey⟩ : ∃ y : Nat, figT t (p + 1) = y := ⟨(figT t (p + 1)).toNat, by omega⟩
      rw [ex, ey] at b
      rw [ex] at a
      rw [ex, ey]
      have j1 := mrow_jn (a := x) (b := y) m1 (by omega) (by omega)
      have j2 := mrow_jn (a := x) (b := y) m2 (by omega) (by omega)
      have e := un_cd j1.2.2.2.1 (fun k hk => mrow_8 j1 hk)
      refine ⟨⟨hp.lk j1.1 j2.1 j1.2.1 j2.2.1 (fun j i hj => joinR_lo hp.1.1 hj) (fun j i hj => joinR_lo hp.1.2 hj), hs.join hp.1.1 (by omega) (by omega), n, _, by omega, fold_step m1 hs (by omega) hk hc (by omega) (by omega) b.2, ?_, ?_⟩, j1.2.2.1⟩
      · rw [e]; exact j1
      · rw [e]; exact j2
    · have b2 : ¬ ((0 ≤ figT t (p + 1) ∧ figT t (p + 1) < rN r) ∧ canJ s (figT t p) (figT t (p + 1))) := fun z => b ⟨z.1, canJ_c eN.symm (fun p p0 p1 => (hL p p0 p1).symm) (by omega) (by rw [← eN]; exact a) (by rw [← eN]; exact z.1) z.2⟩
      rw [cif_f b, cif_f b2]; exact PQ.no
theorem pFoldG_q {t : Int → Int} {n0 : Nat} : ∀ (m k : Nat) (f : Bool) (r s : Row) (p : Int), rFo k r s → rN r = n0 → m + k = n0 - 3 → PQ (fun x y => rFo (n0 - 3) x y ∧ rN x = n0) (pFoldG t m f r p) (pFoldG t m f s p)
  | 0, k, f, r, s, p, h, hn, hm => by
    have e : k = n0 - 3 := by omega
    subst e
    rw [pFoldG, pFoldG]; exact PQ.mk ⟨h, hn⟩
  | m + 1, k, true, r, s, p, h, hn, hm => by
    rw [pFoldG, pFoldG]
    exact PQ.pb (pFold_q h hn (by omega)) (fun x y q hxy => pFoldG_q m (k + 1) false x y q hxy.1 hxy.2 (by omega))
  | m + 1, k, false, r, s, p, h, hn, hm => by
    rw [pFoldG, pFoldG]
    exact PQ.pb (PQsgn (R := fun x y => rFo k x y ∧ rN x = n0) ⟨h, hn⟩) (fun x y q hxy => PQ.pb (pFold_q hxy.1 hxy.2 (by omega)) (fun x y q hxy => pFoldG_q m (k + 1) false x y q hxy.1 hxy.2 (by omega)))
def rFf (r s : Row) : Prop := ∃ n : Nat, rFo (n - 3) r s ∧ rN r = n ∧ 3 ≤ n
theorem pFolds_q {t : Int → Int} {r s : Row} {p : Int} (h : rP r s) (hn : 3 ≤ rN r) : PQ rFf (pFolds t r p) (pFolds t s p) := by
  obtain ⟨n, en⟩ : ∃ n : Nat, rN r = n := ⟨(rN r).toNat, by omega⟩
  have h8 := h.2.1.1.2.1
  have eN : rN r = rN s := h.2.2.1.1
  have g := rFo.ring h hn
  have gn : rN (ringR r (rN r).toNat) = n := by unfold rN; rw [ringR_lo h.1.1 _ (by decide)]; exact en
  unfold pFolds
  by_cases a : rN r = 3
  · have a2 : rN s = 3 := by rw [← eN]; exact a
    rw [if_pos a, if_pos a2]
    refine PQsgn (R := rFf) ⟨n, ?_, gn, by omega⟩
    rw [show n - 3 = 0 by omega]; exact g
  · have a2 : ¬ rN s = 3 := by rw [← eN]; exact a
    rw [if_neg a, if_neg a2, show (rN s - 3).toNat = (rN r - 3).toNat by omega]
    have q := pFoldG_q (t := t) (n0 := n) (rN r - 3).toNat 0 true _ _ p g gn (by omega)
    exact ⟨q.1, q.2.1, fun z => ⟨n, (q.2.2 z).1, (q.2.2 z).2, by omega⟩⟩
/-- two strips alike that are there -/
def rV (r s : Row) : Prop := rQ r s ∧ Vr r ∧ Vr s
theorem shown_V {n c : Nat} {r : Row} {a b : Int} (m : mrow r n (unC c)) (hn : 3 ≤ n) (hc : eqC c (sF n (n - 3)) = true) (ha : 0 ≤ a ∧ a < rN r) (hb : 0 ≤ b ∧ b < rN r) (ht : tb (rL r a) b = true) : Vr ((r.set 1 a).set 2 b) := by
  have hl := m.1
  have h8 := mr_n m
  have hN := m.2.2.1
  have hl1 := set_len (j := 1) (v := a) hl
  have hl2 := set_len (j := 2) (v := b) hl1
  have e : ∀ (j : Nat) (i : Int), j + i.toNat < 52 → rg ((r.set 1 a).set 2 b) j i = if j + i.toNat = 2 then b else if j + i.toNat = 1 then a else rg r j i := fun j i hj => by rw [rg_set hl1 hj, rg_set hl hj]
  have eN : rN ((r.set 1 a).set 2 b) = rN r := by unfold rN; rw [e 0 0 (by decide), if_neg (by decide), if_neg (by decide)]
  have eF : rF ((r.set 1 a).set 2 b) = a := by unfold rF; rw [e 0 1 (by decide), if_neg (by decide), if_pos (by decide)]
  have eB : rB ((r.set 1 a).set 2 b) = b := by unfold rB; rw [e 0 2 (by decide), if_pos (by decide)]
  have eL : ∀ z : Int, 0 ≤ z → z < 8 → rL ((r.set 1 a).set 2 b) z = rL r z := fun z z0 z1 => by unfold rL; rw [e 44 z (by omega), if_neg (by omega), if_neg (by omega)]
  have ho := m.2.1.shown (p := a) (q := b) hl (by omega) (by omega)
  refine ⟨⟨hl2, ho, by rw [eN, eF]; exact ha, by rw [eN, eB]; exact hb⟩, by rw [eN, hN]; omega, ?_, n, c, hc, hl2, ho, by rw [eN]; exact hN, rfl, fun k hk => ?_⟩
  · rw [eF, eB, eL a ha.1 (by omega)]; exact ht
  · rw [eL k (by omega) (by omega)]; exact m.2.2.2.2 k hk
theorem rP.shown {r s : Row} {a b : Int} (h : rP r s) (ha : 0 ≤ a ∧ a ≤ 7) (hb : 0 ≤ b ∧ b ≤ 7) : rP ((r.set 1 a).set 2 b) ((s.set 1 a).set 2 b) := by
  obtain ⟨⟨l1, l2⟩, ⟨o1, o2⟩, ⟨n1, n2, n3, n4⟩, h5⟩ := h
  have h8 := o1.2.1
  have e : ∀ {r : Row}, r.length = 52 → ∀ (j : Nat) (i : Int), j + i.toNat < 52 → rg ((r.set 1 a).set 2 b) j i = if j + i.toNat = 2 then b else if j + i.toNat = 1 then a else rg r j i := fun {r} hl j i hj => by rw [rg_set (set_len hl) hj, rg_set hl hj]
  unfold rP
  refine ⟨⟨set_len (set_len l1), set_len (set_len l2)⟩, ⟨o1.shown l1 ha hb, o2.shown l2 ha hb⟩, ?_⟩
  unfold rN rF rB rE rK rW rBe rWe rSh at *
  refine ⟨⟨?_, ?_, ?_, ?_⟩, fun p p0 p1 => ?_⟩
  · rw [e l1 0 0 (by decide), e l2 0 0 (by decide), if_neg (by decide), if_neg (by decide), if_neg (by decide), if_neg (by decide)]; exact n1
  · rw [e l1 0 1 (by decide), e l2 0 1 (by decide), if_neg (by decide), if_pos (by decide), if_neg (by decide), if_pos (by decide)]
  · rw [e l1 0 2 (by decide), e l2 0 2 (by decide), if_pos (by decide), if_pos (by decide)]
  · rw [e l1 0 3 (by decide), e l2 0 3 (by decide), if_neg (by decide), if_neg (by decide), if_neg (by decide), if_neg (by decide)]; exact n4
  · rw [e l1 0 0 (by decide), if_neg (by decide), if_neg (by decide)] at p1
    have f : ∀ {r : Row}, r.length = 52 → ∀ j : Nat, 4 ≤ j → j ≤ 36 → rg ((r.set 1 a).set 2 b) j p = rg r j p := fun {r} hl j j0 j1 => by rw [e hl j p (by omega), if_neg (by omega), if_neg (by omega)]
    rw [f l1 4 (by decide) (by decide), f l1 12 (by decide) (by decide), f l1 20 (by decide) (by decide), f l1 28 (by decide) (by decide), f l1 36 (by decide) (by decide), f l2 4 (by decide) (by decide), f l2 12 (by decide) (by decide), f l2 20 (by decide) (by decide), f l2 28 (by decide) (by decide), f l2 36 (by decide) (by decide)]
    exact h5 p p0 p1
theorem pShown_q {t : Int → Int} {r s : Row} {p : Int} (h : rFf r s) : PQ rV (pShown t r p) (pShown t s p) := by
  obtain ⟨n0, hf, hn0, hn3⟩ := h
  have hL := hf.L
  obtain ⟨hp, hs, n, c, hkn, hc, m1, m2⟩ := hf
  have en : n = n0 := by have := m1.2.2.1; omega
  subst en
  have eN : rN r = rN s := hp.2.2.1.1
  have h8 := mr_n m1
  unfold pShown
  rw [← eN]
  by_cases a : ¬ (0 ≤ figT t p ∧ figT t p < rN r)
  · rw [if_pos a, if_pos a]; exact PQ.no
  · rw [if_neg a, if_neg a]
    have a := Classical.not_not.mp a
    rw [← hL (figT t p) a.1 (by omega)]
    by_cases b : (0 ≤ figT t (p + 1) ∧ figT t (p + 1) < rN r) ∧ tb (rL r (figT t p)) (figT t (p + 1)) = true
    · rw [if_pos b, if_pos b]
      refine PQ.mk ⟨⟨hp.shown (by omega) (by omega), fun z z0 z1 => ?_⟩, shown_V m1 hn3 hc a b.1 b.2, shown_V m2 hn3 hc (by rw [← eN]; exact a) (by rw [← eN]; exact b.1) (by rw [← hL (figT t p) a.1 (by omega)]; exact b.2)⟩
      have f : ∀ {r : Row}, r.length = 52 → rL ((r.set 1 (figT t p)).set 2 (figT t (p + 1))) z = rL r z := fun {r} hl => by unfold rL; rw [rg_set (set_len hl) (by omega), rg_set hl (by omega), if_neg (by omega), if_neg (by omega)]
      rw [f hp.1.1, f hp.1.2]; exact hL z z0 z1
    · rw [if_neg b, if_neg b]; exact PQ.no
/-- what is read off a tape doesn't depend on what stood there before -/
theorem pWhole_q {t : Int → Int} {len : Int} {r s : Row} (hr : r.length = 52) (hs : s.length = 52) (h1 : rOk r) (h2 : rOk s) : PQ rV (pWhole t len r) (pWhole t len s) := by
  have h0 := rP.reset hr hs h1 h2
  unfold pWhole
  refine PQ.pb (PQsgn (R := fun x y => rP x y ∧ rN x = 0) h0) (fun x y q hxy => ?_)
  refine PQ.pb (pPics_q 8 x y q hxy.1 (by omega)) (fun x y q hxy => ?_)
  refine PQ.pb (PQsgn (R := fun x y => rP x y ∧ 3 ≤ rN x) hxy) (fun x y q hxy => ?_)
  refine PQ.pb (pFolds_q hxy.1 hxy.2) (fun x y q hxy => ?_)
  refine PQ.pb (PQsgn (R := rFf) hxy) (fun x y q hxy => ?_)
  exact PQ.pb (pShown_q hxy) (fun x y q hxy => PQ.mk hxy)
