/-! what is told of two strips alike is the same -/
theorem rQ.N {r s : Row} (h : rQ r s) : rN r = rN s := h.1.2.2.1.1
theorem rQ.F {r s : Row} (h : rQ r s) : rF r = rF s := h.1.2.2.1.2.1
theorem rQ.B {r s : Row} (h : rQ r s) : rB r = rB s := h.1.2.2.1.2.2.1
theorem rQ.E {r s : Row} (h : rQ r s) : rE r = rE s := h.1.2.2.1.2.2.2
theorem rQ.sy {r s : Row} (h : rQ r s) : rQ s r := ⟨⟨⟨h.1.1.2, h.1.1.1⟩, ⟨h.1.2.1.2, h.1.2.1.1⟩, ⟨h.N.symm, h.F.symm, h.B.symm, h.E.symm⟩, fun p p0 p1 => by
  obtain ⟨a, b, c, d, e⟩ := h.1.2.2.2 p p0 (by rw [h.N]; exact p1)
  exact ⟨a.symm, b.symm, c.symm, d.symm, e.symm⟩⟩, fun p p0 p1 => (h.2 p p0 p1).symm⟩
theorem rQ.at {r s : Row} (h : rQ r s) {p : Int} (hp : 0 ≤ p ∧ p < rN r) : rK r p = rK s p ∧ rW r p = rW s p ∧ rBe r p = rBe s p ∧ rWe r p = rWe s p ∧ rSh r p = rSh s p := h.1.2.2.2 p hp.1 hp.2
theorem rQ.n8 {r s : Row} (h : rQ r s) : 0 ≤ rN r ∧ rN r ≤ 8 := ⟨h.1.2.1.1.1, h.1.2.1.1.2.1⟩
theorem rQ.th {r s : Row} (h : rQ r s) {a b m : Int} (ha : 0 ≤ a ∧ a < 8) (hb : 0 ≤ b ∧ b < 8) : thX r a b m = thX s a b m := by
  unfold thX
  rw [h.N, h.2 a ha.1 ha.2, h.2 b hb.1 hb.2]
theorem rQ.nx {r s : Row} (h : rQ r s) (z m : Int) : nxR r z m = nxR s z m := by
  have h8 := h.n8
  unfold nxR
  rw [← h.N]
  by_cases g : (0 ≤ z / 8 ∧ z / 8 < rN r) ∧ (0 ≤ z % 8 ∧ z % 8 < rN r)
  · rw [← h.2 (z / 8) g.1.1 (by omega), ← h.th (a := z / 8) (b := z % 8) (m := m) (by omega) (by omega)]
    rcases thX_in (r := r) (a := z / 8) (b := z % 8) (s := m) (by omega) with q | q
    · rw [q, if_pos (show (-4 : Int) < 0 ∨ _ from Or.inl (by decide)), if_pos (show (-4 : Int) < 0 ∨ _ from Or.inl (by decide))]
    · have e := h.at q
      rw [e.2.2.1, e.2.2.2.1]
  · rw [if_neg (fun q => g ⟨q.1, q.2.1⟩), if_neg (fun q => g ⟨q.1, q.2.1⟩)]
theorem rQ.bh {r s : Row} (h : rQ r s) : bhR r = bhR s := by
  funext z m
  unfold bhR
  rw [h.nx]
theorem rQ.zok {r s : Row} (h : rQ r s) (z : Int) : zOk r z ↔ zOk s z := by
  have h8 := h.n8
  unfold zOk
  rw [← h.N]
  by_cases g : (0 ≤ z ∧ z < 64) ∧ (0 ≤ z / 8 ∧ z / 8 < rN r)
  · rw [← h.2 (z / 8) g.2.1 (by omega)]
  · exact ⟨fun q => absurd ⟨q.1, q.2.1⟩ g, fun q => absurd ⟨q.1, q.2.1⟩ g⟩
theorem rV.N {r s : Row} (h : rV r s) : 3 ≤ rN r ∧ rN r ≤ 8 := ⟨h.2.1.2.1, h.1.n8.2⟩
theorem rV.step {r s : Row} (h : rV r s) (u z m : Int) : stepC u r z m = stepC u s z m := by
  have hn := h.N
  have hsy := h.2.1.gd.1.2.1
  unfold stepC
  rw [← h.1.bh]
  rcases Int.lt_or_le (bhR r z m) 0 with q | q
  · rcases bhR_in (r := r) (z := z) (m := m) hn.2 with e | e
    · rw [e]
      have e2 := h.1.at (p := 0) (by omega)
      have e3 : ∀ r : Row, rK r (-4 / 8) = rK r 0 ∧ rSh r (-4 / 8) = rSh r 0 := fun r => ⟨rfl, rfl⟩
      rw [(e3 r).1, (e3 r).2, (e3 s).1, (e3 s).2, e2.1, e2.2.2.2.2]
    · omega
  · have hz := (bh_zok hsy hn.2 q).2
    have e := h.1.at (p := bhR r z m / 8) ⟨hz.2.1.1, hz.2.1.2⟩
    rw [e.1, e.2.2.2.2]
theorem rV.stp {r s : Row} (h : rV r s) (u : Int) : stepC u r = stepC u s := by funext z m; exact h.step u z m
theorem rV.dist {r s : Row} (h : rV r s) {p u far : Int} {L : Int → Int} (hd : mDist r p u far L) : mDist s p u far L := by
  obtain ⟨⟨a, b, c⟩, d⟩ := hd
  unfold mDist meI meF
  rw [← h.1.bh, ← h.stp u]
  exact ⟨⟨a, b, c⟩, fun z hz => d z ((h.1.zok z).2 hz)⟩
theorem rV.cst {r s : Row} (h : rV r s) (u far : Int) : cstL u far r = cstL u far s := by
  funext L z m
  unfold cstL
  rw [h.1.bh, h.stp]
theorem rV.frs {r s : Row} (h : rV r s) (u far : Int) : frsL u far r = frsL u far s := by
  funext L z
  unfold frsL
  rw [h.cst]
theorem rV.wm {r s : Row} (h : rV r s) (u far : Int) (L : Int → Int) : ∀ (k : Nat) (z : Int), wmv u far r L k z = wmv u far s L k z
  | 0, z => by rw [wmv, wmv, h.frs]
  | k + 1, z => by
    rw [wmv, wmv, h.frs, h.1.bh]
    split
    · rfl
    · exact rV.wm h u far L k _
theorem rQ.seq {r s : Row} (h : rQ r s) (z : Int) : ∀ j : Nat, cSeq r z j = cSeq s z j
  | 0 => rfl
  | j + 1 => by
    rw [cSeq, cSeq, h.seq z j]
    unfold mvC
    rw [h.bh]
theorem rQ.circ {r s : Row} (h : rQ r s) {z : Int} {i j : Nat} (hc : isCirc r z i j) : isCirc s z i j := by
  have e : cKey r z = cKey s z := by funext k; unfold cKey; rw [h.seq]
  unfold isCirc
  rw [← e]; exact hc
theorem rQ.rn {r s : Row} (h : rQ r s) (z : Int) : ∀ (k : Nat) (y : Int), Rn r z k y ↔ Rn s z k y
  | 0, y => Iff.rfl
  | k + 1, y => by
    unfold Rn
    rw [h.bh]
    constructor
    · rintro ⟨a, b, c, d⟩; exact ⟨a, b, (h.rn z k a).1 c, d⟩
    · rintro ⟨a, b, c, d⟩; exact ⟨a, b, (h.rn z k a).2 c, d⟩
theorem rQ.reach {r s : Row} (h : rQ r s) {z v : Int} (hc : isReach r z v) : isReach s z v := by
  refine ⟨hc.1, fun p p0 p1 => (hc.2 p p0 p1).trans ?_⟩
  unfold Rch
  constructor
  · rintro ⟨y, ⟨k, a⟩, b⟩; exact ⟨y, ⟨k, (h.rn z k y).1 a⟩, b⟩
  · rintro ⟨y, ⟨k, a⟩, b⟩; exact ⟨y, ⟨k, (h.rn z k y).2 a⟩, b⟩
theorem rQ.tn {r s : Row} (h : rQ r s) (z : Int) : ∀ (k : Nat) (y : Int), Tn r z k y ↔ Tn s z k y
  | 0, y => Iff.rfl
  | k + 1, y => by
    unfold Tn nxS
    rw [h.bh]
    constructor
    · rintro ⟨a, b, c, d⟩; exact ⟨a, b, (h.tn z k a).1 c, d⟩
    · rintro ⟨a, b, c, d⟩; exact ⟨a, b, (h.tn z k a).2 c, d⟩
theorem rQ.tour {r s : Row} (h : rQ r s) {z al v : Int} (hc : isTour r z al v) : isTour s z al v := by
  rcases hc with ⟨k, e, ⟨t, a, b⟩, c⟩ | ⟨e, a⟩
  · exact Or.inl ⟨k, e, ⟨t, (h.tn z k t).1 a, b⟩, fun j hj t ht => c j hj t ((h.tn z j t).2 ht)⟩
  · exact Or.inr ⟨e, fun k t ht => a k t ((h.tn z k t).2 ht)⟩
theorem rV.comes {r s : Row} (h : rV r s) (m : Int) : comesR r m = comesR s m := by
  have hn := h.N
  have hf := h.2.1.1.2.2.1
  have hb := h.2.1.1.2.2.2
  unfold comesR
  rw [← h.1.F, ← h.1.B, ← h.1.th (a := rF r) (b := rB r) (m := m) (by omega) (by omega)]
  by_cases q : hasP r (thX r (rF r) (rB r) m)
  · have e := h.1.at q
    have q2 : hasP s (thX r (rF r) (rB r) m) := ⟨q.1, by rw [← h.1.N]; exact q.2⟩
    rw [e.2.2.1, e.2.2.2.1]
    have e3 : (hasP r (thX r (rF r) (rB r) m) ∧ rBe s (thX r (rF r) (rB r) m) ≤ rWe s (thX r (rF r) (rB r) m)) = (hasP s (thX r (rF r) (rB r) m) ∧ rBe s (thX r (rF r) (rB r) m) ≤ rWe s (thX r (rF r) (rB r) m)) := propext ⟨fun z => ⟨q2, z.2⟩, fun z => ⟨q, z.2⟩⟩
    simp only [e3]
  · have q2 : ¬ hasP s (thX r (rF r) (rB r) m) := fun z => q ⟨z.1, by rw [h.1.N]; exact z.2⟩
    rw [if_neg (fun z : hasP r (thX r (rF r) (rB r) m) ∧ _ => q z.1), if_neg (fun z : hasP s (thX r (rF r) (rB r) m) ∧ _ => q2 z.1)]
theorem turn_h {r : Row} (hl : r.length = 52) : rN (turnR r) = rN r ∧ rF (turnR r) = rB r ∧ rB (turnR r) = rF r ∧ rE (turnR r) = rE r + 1 ∧ ∀ (j : Nat) (p : Int), 4 ≤ j → j + p.toNat < 52 → rg (turnR r) j p = rg r j p := by
  refine ⟨?_, ?_, ?_, ?_, fun j p h1 h2 => ?_⟩
  · unfold rN; rw [rg_turn hl (by decide), if_neg (by decide), if_neg (by decide), if_neg (by decide)]
  · unfold rF; rw [rg_turn hl (by decide), if_pos (by decide)]
  · unfold rB; rw [rg_turn hl (by decide), if_neg (by decide), if_pos (by decide)]
  · unfold rE; rw [rg_turn hl (by decide), if_neg (by decide), if_neg (by decide), if_pos (by decide)]
  · rw [rg_turn hl h2, if_neg (by omega), if_neg (by omega), if_neg (by omega)]
theorem rV.go {r s : Row} (h : rV r s) (m : Int) : rV (goR r m) (goR s m) := by
  have hn := h.N
  have hc := h.comes m
  obtain ⟨hq, v1, v2⟩ := h
  have g1 := v1.go (m := m)
  have g2 := v2.go (m := m)
  have l1 := v1.1.1
  have l2 := v2.1.1
  have hb := v1.1.2.2.2
  have hb2 := v2.1.2.2.2
  have e1 := (goR_ok (m := m) v1.1).2
  have e2 := (goR_ok (m := m) v2.1).2
  refine ⟨⟨⟨⟨g1.1.1, g2.1.1⟩, ⟨g1.1.2.1, g2.1.2.1⟩, ?_⟩, fun p p0 p1 => by rw [go_L v1.1 ⟨p0, p1⟩, go_L v2.1 ⟨p0, p1⟩]; exact hq.2 p p0 p1⟩, g1, g2⟩
  clear g1 g2
  rcases Int.lt_or_le (comesR r m) 0 with w | w
  · rw [goR_no w, goR_no (r := s) (by rw [← hc]; exact w)]
    exact hq.1.2.2
  · by_cases hm : m = 2
    · subst hm
      have t1 : goR r 2 = turnR r := goR_turn hb.1
      have t2 : goR s 2 = turnR s := goR_turn hb2.1
      rw [t1, t2]
      have a := turn_h l1
      have b := turn_h l2
      refine ⟨⟨by rw [a.1, b.1, hq.N], by rw [a.2.1, b.2.1, hq.B], by rw [a.2.2.1, b.2.2.1, hq.F], by rw [a.2.2.2.1, b.2.2.2.1, hq.E]⟩, fun p p0 p1 => ?_⟩
      rw [a.1] at p1
      unfold rK rW rBe rWe rSh
      rw [a.2.2.2.2 4 p (by omega) (by omega), a.2.2.2.2 12 p (by omega) (by omega), a.2.2.2.2 20 p (by omega) (by omega), a.2.2.2.2 28 p (by omega) (by omega), a.2.2.2.2 36 p (by omega) (by omega), b.2.2.2.2 4 p (by omega) (by omega), b.2.2.2.2 12 p (by omega) (by omega), b.2.2.2.2 20 p (by omega) (by omega), b.2.2.2.2 28 p (by omega) (by omega), b.2.2.2.2 36 p (by omega) (by omega)]
      exact hq.at ⟨p0, p1⟩
    · have hin := comesR_in (r := r) (m := m) (by omega) hb
      have e := hq.at (p := comesR r m) (by omega)
      have t1 : goR r m = flexR r (comesR r m) (rE r + effK (rK r (comesR r m)) (rSh r (comesR r m))) (rWe r (comesR r m) + wearK (rK r (comesR r m))) (if rSh r (comesR r m) + 1 < 99 then rSh r (comesR r m) + 1 else 99) := goR_flex hm rfl w
      have t2 : goR s m = flexR s (comesR r m) (rE r + effK (rK r (comesR r m)) (rSh r (comesR r m))) (rWe r (comesR r m) + wearK (rK r (comesR r m))) (if rSh r (comesR r m) + 1 < 99 then rSh r (comesR r m) + 1 else 99) := by
        rw [e.1, e.2.2.2.2, e.2.2.2.1, hq.E]
        exact goR_flex hm hc w
      rw [t1, t2]
      generalize (rE r + effK (rK r (comesR r m)) (rSh r (comesR r m))) = x1
      generalize (rWe r (comesR r m) + wearK (rK r (comesR r m))) = x2
      generalize (if rSh r (comesR r m) + 1 < 99 then rSh r (comesR r m) + 1 else 99) = x3
      have c8 : 0 ≤ comesR r m ∧ comesR r m < 8 := by omega
      refine ⟨⟨by rw [fl_N l1 c8, fl_N l2 c8, hq.N], by rw [fl_F l1, fl_F l2], by rw [fl_B l1, fl_B l2, hq.F], by rw [fl_E l1 c8, fl_E l2 c8]⟩, fun p p0 p1 => ?_⟩
      rw [fl_N l1 c8] at p1
      have p8 : 0 ≤ p ∧ p < 8 := by omega
      have f := hq.at ⟨p0, p1⟩
      rw [fl_K l1 c8 p8, fl_K l2 c8 p8, fl_W l1 c8 p8, fl_W l2 c8 p8, fl_Be l1 c8 p8, fl_Be l2 c8 p8, fl_We l1 c8 p8, fl_We l2 c8 p8, fl_Sh l1 c8 p8, fl_Sh l2 c8 p8, f.1, f.2.1, f.2.2.1, f.2.2.2.1, f.2.2.2.2]
      exact ⟨rfl, rfl, rfl, rfl, rfl⟩
theorem rV.mv {r s : Row} (h : rV r s) (m : Int) : mvR r m = mvR s m := by unfold mvR; rw [h.comes]
theorem rV.parts {p q : Int} : ∀ (k : Nat) {r s : Row}, rV r s → partsR p q k r = partsR p q k s
  | 0, r, s, h => by rw [partsR, partsR, h.1.F]
  | k + 1, r, s, h => by
    rw [partsR, partsR, h.mv, h.mv, rV.parts k (h.go (mvR s 0)), rV.parts k (h.go (mvR s 1))]
theorem rV.gst {r s : Row} (h : rV r s) {f : Row → Int} (hf : ∀ {r s : Row}, rV r s → f r = f s) (m b : Int) : gStep r f m b = gStep s f m b := by
  have hn := h.N
  unfold gStep
  rw [← h.comes m, hf (h.go m)]
  by_cases q : 0 ≤ comesR r m
  · have hin := comesR_in (r := r) (m := m) (by omega) h.2.1.1.2.2.2
    rw [if_pos q, if_pos q, (h.1.at (p := comesR r m) (by omega)).2.1]
  · rw [if_neg q, if_neg q]
theorem rV.gain : ∀ (k : Nat) {r s : Row}, rV r s → gainR k r = gainR k s
  | 0, r, s, h => rfl
  | k + 1, r, s, h => by
    rw [gainR, gainR, h.gst (fun h => rV.gain k h), h.gst (fun h => rV.gain k h), h.gst (fun h => rV.gain k h)]
theorem rV.draw : ∀ (n : Nat) (x : Int) {r s : Row}, rV r s → rV (drawR n x r) (drawR n x s)
  | 0, x, r, s, h => h
  | n + 1, x, r, s, h => by
    rw [drawR, drawR, h.mv]
    exact rV.draw n _ (h.go _)
