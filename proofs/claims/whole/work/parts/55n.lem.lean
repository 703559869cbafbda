/-! the easiest way: the class counts a unit of effort as 100 moves, the reference as 1000 -/
def efM (r : Row) (z m : Int) : Int := if m = 2 then 1 else effK (rK r (bhR r z m / 8)) (rSh r (bhR r z m / 8))
theorem stepC_e (u : Int) (r : Row) (z m : Int) : stepC u r z m = u * efM r z m + 1 := by
  unfold stepC efM
  split
  · omega
  · rfl
theorem efM_in {r : Row} {z m : Int} (ho : rOk r) (hz : 0 ≤ bhR r z m) : 1 ≤ efM r z m ∧ efM r z m ≤ 4 := by
  have hi := bhR_in (r := r) (z := z) (m := m) ho.2.1
  have hs := (ho.2.2.2.2 (bhR r z m / 8) (by omega) (by omega)).2.2.2.2.1
  have he := effK_in (k := rK r (bhR r z m / 8)) (s := rSh r (bhR r z m / 8)) hs.1
  unfold efM
  split <;> omega
theorem Wk_uu {r : Row} {p u : Int} (ho : rOk r) : ∀ (i : Nat) {z c : Int}, Wk r p u i z c → ∃ e : Int, (0 ≤ e ∧ e ≤ 4 * i) ∧ c = u * e + i ∧ ∀ v : Int, Wk r p v i z (v * e + i)
  | 0, z, c, h => by
    obtain ⟨h1, h2⟩ := h
    exact ⟨0, by omega, by rw [h2]; simp, fun v => ⟨h1, by simp⟩⟩
  | i + 1, z, c, h => by
    obtain ⟨m, c2, h1, h2, h3, h4, h5⟩ := h
    obtain ⟨e, e1, e2, e3⟩ := Wk_uu ho i h4
    have hb := efM_in ho h3
    refine ⟨efM r z m + e, by omega, ?_, fun v => ⟨m, v * e + i, h1, h2, h3, e3 v, ?_⟩⟩
    · rw [h5, e2, stepC_e, Int.mul_add]; omega
    · rw [stepC_e, Int.mul_add]; omega
def wyS (L M : Int → Int) (z : Int) : Prop := (L z < 1000000 ↔ M z < 100000000) ∧ (L z < 1000000 → ∃ e i : Int, (0 ≤ i ∧ i ≤ 63) ∧ 0 ≤ e ∧ L z = 100 * e + i ∧ M z = 1000 * e + i)
theorem wyS.far {L M : Int → Int} {z : Int} (h : wyS L M z) : L z < 1000000 ↔ M z < 100000000 := h.1
theorem wyS.val {L M : Int → Int} {z : Int} (h : wyS L M z) : L z < 1000000 → ∃ e i : Int, (0 ≤ i ∧ i ≤ 63) ∧ 0 ≤ e ∧ L z = 100 * e + i ∧ M z = 1000 * e + i := h.2
theorem wy_s {r : Row} {p : Int} {L M : Int → Int} {z : Int} (ho : rOk r) (hs : sym r) (h : mDist r p 100 1000000 L) (g : mDist r p 1000 100000000 M) (hz : zOk r z) : wyS L M z := by
  have key : L z < 1000000 → M z < 100000000 ∧ ∃ e i : Int, (0 ≤ i ∧ i ≤ 63) ∧ 0 ≤ e ∧ L z = 100 * e + i ∧ M z ≤ 1000 * e + i := fun hl => by
    obtain ⟨i, e, i1, e0, el, w⟩ := me_form (by decide) ho hs h hz hl
    obtain ⟨e2, b, c, d⟩ := Wk_uu ho i w
    have le := Wk_le hs ho.2.1 g i hz (d 1000)
    exact ⟨by omega, e2, i, by omega, by omega, c, le⟩
  have key2 : M z < 100000000 → L z < 1000000 ∧ ∃ e i : Int, (0 ≤ i ∧ i ≤ 63) ∧ 0 ≤ e ∧ M z = 1000 * e + i ∧ L z ≤ 100 * e + i := fun hl => by
    obtain ⟨i, e, i1, e0, el, w⟩ := me_form (by decide) ho hs g hz hl
    obtain ⟨e2, b, c, d⟩ := Wk_uu ho i w
    have le := Wk_le hs ho.2.1 h i hz (d 100)
    exact ⟨by omega, e2, i, by omega, by omega, c, le⟩
  refine ⟨⟨fun q => (key q).1, fun q => (key2 q).1⟩, fun q => ?_⟩
  obtain ⟨q2, e, i, a1, a2, a3, a4⟩ := key q
  obtain ⟨-, e', i', b1, b2, b3, b4⟩ := key2 q2
  exact ⟨e, i, a1, a2, a3, by omega⟩
theorem wy_cst {r : Row} {p : Int} {L M : Int → Int} {z m : Int} (ho : rOk r) (hs : sym r) (h : mDist r p 100 1000000 L) (g : mDist r p 1000 100000000 M) (hz : zOk r z) (hl : L z < 1000000) : (cstL 100 1000000 r L z m = L z) ↔ (cstL 1000 100000000 r M z m = M z) := by
  have w := wy_s ho hs h g hz
  have hm := w.far.1 hl
  obtain ⟨e, i, a1, a2, a3, a4⟩ := w.val hl
  unfold cstL
  by_cases q : bhR r z m < 0
  · rw [if_pos q, if_pos q]
    constructor <;> intro x <;> omega
  · rw [if_neg q, if_neg q, stepC_e, stepC_e]
    have q2 : 0 ≤ bhR r z m := by omega
    have hy := (bh_zok hs ho.2.1 q2).2
    have hb := efM_in ho q2
    have wy := wy_s ho hs h g hy
    by_cases l : L (bhR r z m) < 1000000
    · obtain ⟨e', i', b1, b2, b3, b4⟩ := wy.val l
      rw [a3, a4, b3, b4]
      constructor <;> intro x <;> omega
    · have l2 : ¬ M (bhR r z m) < 100000000 := fun x => l (wy.far.2 x)
      constructor <;> intro x <;> omega
theorem wy_frs {r : Row} {p : Int} {L M : Int → Int} {z : Int} (ho : rOk r) (hs : sym r) (h : mDist r p 100 1000000 L) (g : mDist r p 1000 100000000 M) (hz : zOk r z) (hl : L z < 1000000) : frsL 100 1000000 r L z = frsL 1000 100000000 r M z := by
  unfold frsL
  have c0 := wy_cst (m := 0) ho hs h g hz hl
  have c1 := wy_cst (m := 1) ho hs h g hz hl
  by_cases q0 : cstL 100 1000000 r L z 0 = L z
  · rw [if_pos q0, if_pos (c0.1 q0)]
  · rw [if_neg q0, if_neg (fun x => q0 (c0.2 x))]
    by_cases q1 : cstL 100 1000000 r L z 1 = L z
    · rw [if_pos q1, if_pos (c1.1 q1)]
    · rw [if_neg q1, if_neg (fun x => q1 (c1.2 x))]
theorem wy_pos {L M : Int → Int} {z : Int} (w : wyS L M z) (hl : L z < 1000000) : L z ≤ 0 ↔ M z ≤ 0 := by
  obtain ⟨e, i, a1, a2, a3, a4⟩ := w.val hl
  constructor <;> intro x <;> omega
theorem wy_mv {r : Row} {p : Int} {L M : Int → Int} (ho : rOk r) (hs : sym r) (h : mDist r p 100 1000000 L) (g : mDist r p 1000 100000000 M) : ∀ (k : Nat) {z : Int}, zOk r z → L z < 1000000 → wmv 100 1000000 r L k z = wmv 1000 100000000 r M k z
  | 0, z, hz, hl => by
    rw [wmv, wmv, wy_frs ho hs h g hz hl]
    have := wy_pos (wy_s ho hs h g hz) hl
    by_cases q : L z ≤ 0
    · rw [if_pos q, if_pos (this.1 q)]
    · rw [if_neg q, if_neg (fun x => q (this.2 x))]
  | k + 1, z, hz, hl => by
    rw [wmv, wmv, ← wy_frs ho hs h g hz hl]
    have := wy_pos (wy_s ho hs h g hz) hl
    by_cases q : L z ≤ 0
    · rw [if_pos q, if_pos (this.1 q)]
    · rw [if_neg q, if_neg (fun x => q (this.2 x))]
      obtain ⟨m1, m2, m3⟩ := me_mod ho hs h hz hl rfl (by omega)
      exact wy_mv ho hs h g k m1 m2
theorem wy_end {r : Row} {p : Int} {L : Int → Int} (ho : rOk r) (hs : sym r) (h : mDist r p 100 1000000 L) : ∀ (k : Nat) {z : Int}, zOk r z → L z < 1000000 → L z % 100 ≤ k → wmv 100 1000000 r L k z = -4
  | 0, z, hz, hl, hk => by
    rw [wmv]
    by_cases q : L z ≤ 0
    · rw [if_pos q]
    · obtain ⟨m1, m2, m3⟩ := me_mod ho hs h hz hl rfl (by omega)
      omega
  | k + 1, z, hz, hl, hk => by
    rw [wmv]
    by_cases q : L z ≤ 0
    · rw [if_pos q]
    · rw [if_neg q]
      obtain ⟨m1, m2, m3⟩ := me_mod ho hs h hz hl rfl (by omega)
      exact wy_end ho hs h k m1 m2 (by omega)
theorem way_eq {r : Row} {p k z : Int} {L M : Int → Int} (ho : rOk r) (hs : sym r) (h : mDist r p 100 1000000 L) (g : mDist r p 1000 100000000 M) (hz : zOk r z) (hk : -2 ≤ k) : wayX r L z k = wayA 1000 100000000 r M z k := by
  have w := wy_s ho hs h g hz
  unfold wayX wayA
  by_cases q : 1000000 ≤ L z
  · rw [if_pos q, if_pos (show 100000000 ≤ M z by have := w.far; omega)]
  · have hl : L z < 1000000 := by omega
    rw [if_neg q, if_neg (show ¬ 100000000 ≤ M z by have := w.far; omega)]
    obtain ⟨e, i, a1, a2, a3, a4⟩ := w.val hl
    by_cases k2 : k = -2
    · rw [if_pos k2, if_pos k2]; omega
    · rw [if_neg k2, if_neg k2]
      by_cases k1 : k = -1
      · rw [if_pos k1, if_pos k1]; omega
      · rw [if_neg k1, if_neg k1, ← wy_mv ho hs h g k.toNat hz hl]
        by_cases kk : 0 ≤ k ∧ k < L z % 100
        · rw [if_pos kk]
        · rw [if_neg kk, wy_end ho hs h k.toNat hz hl (by omega)]
theorem rV.sy {r s : Row} (h : rV r s) : rV s r := ⟨h.1.sy, h.2.2, h.2.1⟩
theorem rV.way {r s : Row} {p k z : Int} {L M : Int → Int} (v : rV r s) (h : mDist r p 100 1000000 L) (g : mDist s p 1000 100000000 M) (hz : zOk r z) (hk : -2 ≤ k) : wayX r L z k = wayA 1000 100000000 s M z k := by
  have hd := v.2.1.gd.1
  rw [way_eq hd.1.2.1 hd.2.1 h (v.sy.dist g) hz hk]
  unfold wayA
  rw [v.wm]
/-! a mended one, one folded anew -/
theorem rQ.we {r s : Row} {p v : Int} (h : rQ r s) (hp : 0 ≤ p ∧ p < 8) (hv : 0 ≤ v ∧ v ≤ 20) : rQ (r.set (28 + p.toNat) v) (s.set (28 + p.toNat) v) := by
  obtain ⟨⟨⟨l1, l2⟩, ⟨o1, o2⟩, ⟨n1, n2, n3, n4⟩, h5⟩, h6⟩ := h
  have h8 := o1.2.1
  have e : ∀ {r : Row}, r.length = 52 → ∀ (j : Nat) (i : Int), j + i.toNat < 52 → rg (r.set (28 + p.toNat) v) j i = if j + i.toNat = 28 + p.toNat then v else rg r j i := fun {r} hl j i hj => rg_set hl hj
  refine ⟨⟨⟨set_len l1, set_len l2⟩, ⟨o1.setWe l1 hp hv, o2.setWe l2 hp hv⟩, ?_⟩, fun q q0 q1 => by unfold rL; rw [e l1 44 q (by omega), e l2 44 q (by omega), if_neg (by omega), if_neg (by omega)]; exact h6 q q0 q1⟩
  unfold rN rF rB rE rK rW rBe rWe rSh at *
  have f : ∀ {r : Row}, r.length = 52 → ∀ i : Int, 0 ≤ i → i < 4 → rg (r.set (28 + p.toNat) v) 0 i = rg r 0 i := fun {r} hl i i0 i1 => by rw [e hl 0 i (by omega), if_neg (by omega)]
  refine ⟨⟨by rw [f l1 0 (by decide) (by decide), f l2 0 (by decide) (by decide), n1], by rw [f l1 1 (by decide) (by decide), f l2 1 (by decide) (by decide), n2], by rw [f l1 2 (by decide) (by decide), f l2 2 (by decide) (by decide), n3], by rw [f l1 3 (by decide) (by decide), f l2 3 (by decide) (by decide), n4]⟩, fun q q0 q1 => ?_⟩
  rw [f l1 0 (by decide) (by decide)] at q1
  obtain ⟨a, b, c, d, g⟩ := h5 q q0 q1
  rw [e l1 4 q (by omega), e l2 4 q (by omega), e l1 12 q (by omega), e l2 12 q (by omega), e l1 20 q (by omega), e l2 20 q (by omega), e l1 28 q (by omega), e l2 28 q (by omega), e l1 36 q (by omega), e l2 36 q (by omega)]
  refine ⟨?_, ?_, ?_, ?_, ?_⟩
  · rw [if_neg (by omega), if_neg (by omega)]; exact a
  · rw [if_neg (by omega), if_neg (by omega)]; exact b
  · rw [if_neg (by omega), if_neg (by omega)]; exact c
  · rw [d]
  · rw [if_neg (by omega), if_neg (by omega)]; exact g
theorem rV.we {r s : Row} {p v : Int} (h : rV r s) (hp : 0 ≤ p ∧ p < 8) (hv : 0 ≤ v ∧ v ≤ 20) : rV (r.set (28 + p.toNat) v) (s.set (28 + p.toNat) v) := ⟨h.1.we hp hv, h.2.1.we hp hv, h.2.2.we hp hv⟩
theorem rL_set8 {r : Row} {a p v : Int} (hl : r.length = 52) (ha : 0 ≤ a ∧ a < 8) (hp : 0 ≤ p ∧ p < 8) : rL (r.set (44 + a.toNat) v) p = if p = a then v else rL r p := by
  unfold rL
  rw [rg_set hl (by omega)]
  by_cases q : p = a
  · rw [if_pos (by omega), if_pos q]
  · rw [if_neg (by omega), if_neg q]
theorem joinR_c {r s : Row} {a b : Int} (hr : r.length = 52) (hs : s.length = 52) (ha : 0 ≤ a ∧ a < 8) (hb : 0 ≤ b ∧ b < 8) (h : ∀ p : Int, 0 ≤ p → p < 8 → rL r p = rL s p) : ∀ p : Int, 0 ≤ p → p < 8 → rL (joinR r a b) p = rL (joinR s a b) p := fun p p0 p1 => by
  unfold joinR
  rw [rL_set8 (set_len hr) hb ⟨p0, p1⟩, rL_set8 (set_len hs) hb ⟨p0, p1⟩, rL_set8 hr ha ⟨p0, p1⟩, rL_set8 hs ha ⟨p0, p1⟩, rL_set8 hr ha hb, rL_set8 hs ha hb, h p p0 p1, h a ha.1 ha.2, h b hb.1 hb.2]
theorem partR_c {r s : Row} {a b : Int} (hr : r.length = 52) (hs : s.length = 52) (ha : 0 ≤ a ∧ a < 8) (hb : 0 ≤ b ∧ b < 8) (h : ∀ p : Int, 0 ≤ p → p < 8 → rL r p = rL s p) : ∀ p : Int, 0 ≤ p → p < 8 → rL (partR r a b) p = rL (partR s a b) p := fun p p0 p1 => by
  unfold partR
  rw [rL_set8 (set_len hr) hb ⟨p0, p1⟩, rL_set8 (set_len hs) hb ⟨p0, p1⟩, rL_set8 hr ha ⟨p0, p1⟩, rL_set8 hs ha ⟨p0, p1⟩, rL_set8 hr ha hb, rL_set8 hs ha hb, h p p0 p1, h a ha.1 ha.2, h b hb.1 hb.2]
theorem rV.fold {r s : Row} {p q : Int} (h : rV r s) (hp : 0 ≤ p ∧ p < rN r) (hq : 0 ≤ q ∧ q < rN r) (ht : tb (rL r p) q = true) (ha : ¬ (p - q = 1 ∨ q - p = 1 ∨ p - q = rN r - 1 ∨ q - p = rN r - 1)) (hh : ¬ ((rF r = p ∧ rB r = q) ∨ (rF r = q ∧ rB r = p))) : rV (joinR (partR r p q) (thX r p q 0) (thX r p q 1)) (joinR (partR s p q) (thX r p q 0) (thX r p q 1)) := by
  have hn := h.N
  obtain ⟨a0, a1, a2⟩ := h.2.1.fold hp hq ht ha
  have t0 := h.1.th (a := p) (b := q) (m := 0) (by omega) (by omega)
  have t1 := h.1.th (a := p) (b := q) (m := 1) (by omega) (by omega)
  have b2 := (h.2.2.fold (p := p) (q := q) (by rw [← h.1.N]; exact hp) (by rw [← h.1.N]; exact hq) (by rw [← h.1.2 p hp.1 (by omega)]; exact ht) (by rw [← h.1.N]; exact ha)).2.2 (by rw [← h.1.F, ← h.1.B]; exact hh)
  rw [← t0, ← t1] at b2
  have v1 := a2 hh
  have i0 := thX_in (r := r) (a := p) (b := q) (s := 0) (by omega)
  have i1 := thX_in (r := r) (a := p) (b := q) (s := 1) (by omega)
  have l1 := h.1.1.1.1
  have l2 := h.1.1.1.2
  refine ⟨⟨h.1.1.lk v1.1.1 b2.1.1 v1.1.2.1 b2.1.2.1 (fun j i hj => by rw [joinR_lo (partR_len l1) hj, partR_lo l1 hj]) (fun j i hj => by rw [joinR_lo (partR_len l2) hj, partR_lo l2 hj]), ?_⟩, v1, b2⟩
  exact joinR_c (partR_len l1) (partR_len l2) (by omega) (by omega) (partR_c l1 l2 (by omega) (by omega) h.1.2)
/-! what is told of one picture, of all -/
theorem rQ.pic {r s : Row} (h : rQ r s) (p w : Int) : picR r p w = picR s p w := by
  have h8 := h.n8
  unfold picR
  rw [← h.N]
  by_cases q : ¬ (0 ≤ p ∧ p < rN r)
  · rw [if_pos q, if_pos q]
  · have q2 := Classical.not_not.mp q
    obtain ⟨a, b, c, d, e⟩ := h.at q2
    rw [if_neg q, if_neg q, a, b, c, d, e, h.2 p q2.1 (by omega)]
theorem rQ.as {r s : Row} (h : rQ r s) (p k : Int) : asR r p k = asR s p k := by
  unfold asR
  rw [← h.N]
  by_cases q : (0 ≤ p ∧ p < rN r) ∧ (0 ≤ k ∧ k ≤ 5)
  · rw [if_pos q, if_pos q, (h.at q.1).1]
  · rw [if_neg q, if_neg q]
theorem setOf_c {f g : Int → Bool} : ∀ k : Nat, (∀ p : Int, 0 ≤ p → p < k → f p = g p) → setOf f k = setOf g k
  | 0, _ => rfl
  | k + 1, h => by rw [setOf, setOf, setOf_c k (fun p p0 p1 => h p p0 (by omega)), h k (by omega) (by omega)]
theorem sumOf_c {f g : Int → Int} : ∀ k : Nat, (∀ p : Int, 0 ≤ p → p < k → f p = g p) → sumOf f k = sumOf g k
  | 0, _ => rfl
  | k + 1, h => by rw [sumOf, sumOf, sumOf_c k (fun p p0 p1 => h p p0 (by omega)), h k (by omega) (by omega)]
theorem rQ.cnt {r s : Row} (h : rQ r s) (x y w : Int) : cntR r x y w = cntR s x y w := by
  have h8 := h.n8
  unfold cntR
  rw [setOf_c (f := shownF r) (g := shownF s) (rN r).toNat (fun p p0 p1 => by unfold shownF; rw [(h.at (p := p) ⟨p0, by omega⟩).2.2.2.2]), setOf_c (f := tornF r) (g := tornF s) (rN r).toNat (fun p p0 p1 => by unfold tornF; rw [(h.at (p := p) ⟨p0, by omega⟩).2.2.1, (h.at (p := p) ⟨p0, by omega⟩).2.2.2.1]), sumOf_c (f := wornF r) (g := wornF s) (rN r).toNat (fun p p0 p1 => by unfold wornF; rw [(h.at (p := p) ⟨p0, by omega⟩).2.2.2.1]), h.N, h.F, h.B, h.E]
