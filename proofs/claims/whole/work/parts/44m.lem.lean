/-! walks and what they cost -/
def Wk (r : Row) (p u : Int) : Nat → Int → Int → Prop
  | 0, z, c => z / 8 = p ∧ c = 0
  | i + 1, z, c => ∃ m c2 : Int, 0 ≤ m ∧ m ≤ 2 ∧ 0 ≤ bhR r z m ∧ Wk r p u i (bhR r z m) c2 ∧ c = stepC u r z m + c2
theorem stepC_f {u : Int} {r : Row} {z m : Int} (ho : rOk r) (hz : 0 ≤ bhR r z m) : ∃ e : Int, 0 ≤ e ∧ stepC u r z m = u * e + 1 := by
  have h8 := ho.2.1
  have hi := bhR_in (r := r) (z := z) (m := m) h8
  have hs := (ho.2.2.2.2 (bhR r z m / 8) (by omega) (by omega)).2.2.2.2.1
  have he := effK_in (k := rK r (bhR r z m / 8)) (s := rSh r (bhR r z m / 8)) hs.1
  unfold stepC
  split
  · exact ⟨1, by omega, by rw [Int.mul_one]⟩
  · exact ⟨_, by omega, rfl⟩
theorem Wk_f {r : Row} {p u : Int} (ho : rOk r) : ∀ (i : Nat) {z c : Int}, Wk r p u i z c → ∃ e : Int, 0 ≤ e ∧ c = u * e + i
  | 0, z, c, h => ⟨0, by omega, by rw [h.2]; simp⟩
  | i + 1, z, c, h => by
    obtain ⟨m, c2, m0, m1, hb, hw, hc⟩ := h
    obtain ⟨e, e0, e1⟩ := Wk_f ho i hw
    obtain ⟨f, f0, f1⟩ := stepC_f (u := u) ho hb
    exact ⟨f + e, by omega, by rw [hc, e1, f1, Int.mul_add]; omega⟩
theorem bh_zok {r : Row} {z m : Int} (hs : sym r) (hn : rN r ≤ 8) (h : 0 ≤ bhR r z m) : zOk r z ∧ zOk r (bhR r z m) := by
  have hz : zOk r z := by
    unfold bhR at h
    split at h
    · rename_i hc
      unfold nxR at h
      split at h
      · rename_i hl
        exact ⟨⟨hc.1, hc.2.1⟩, hl⟩
      · omega
    · omega
  have hm : 0 ≤ m ∧ m ≤ 2 := by
    unfold bhR at h
    split at h
    · rename_i hc; exact ⟨hc.2.2.1, hc.2.2.2⟩
    · omega
  refine ⟨hz, ?_⟩
  rcases bhR_ok (m := m) hs hn hz hm with ⟨e, -⟩ | e
  · omega
  · exact e
def nlt (L : Int → Int) (v : Int) : Nat := cntB (fun i => decide (L i < v)) 64
theorem nlt_63 {L : Int → Int} {z : Int} (hz : 0 ≤ z ∧ z < 64) : nlt L (L z) ≤ 63 := by
  have := cntB_lt (f := fun i => decide (L (i : Int) < L z)) (g := fun _ => true) (fun _ _ => rfl) (z := z.toNat) (decide_eq_false (by rw [show ((z.toNat : Nat) : Int) = z by omega]; omega)) rfl 64 (by omega)
  have h2 := cntB_le (fun _ => true) 64
  unfold nlt
  omega
theorem nlt_lt {L : Int → Int} {y v : Int} (hy : 0 ≤ y ∧ y < 64) (h : L y < v) : nlt L (L y) < nlt L v := by
  have := cntB_lt (f := fun i => decide (L (i : Int) < L y)) (g := fun i => decide (L (i : Int) < v)) (fun i hi => decide_eq_true (by have := of_decide_eq_true hi; omega)) (z := y.toNat) (decide_eq_false (by rw [show ((y.toNat : Nat) : Int) = y by omega]; omega)) (decide_eq_true (by rw [show ((y.toNat : Nat) : Int) = y by omega]; exact h)) 64 (by omega)
  unfold nlt
  omega
theorem me_chain {r : Row} {p u far : Int} {L : Int → Int} (hu : 1 ≤ u) (ho : rOk r) (h : meI r p u far L) : ∀ (N : Nat) (z : Int), nlt L (L z) ≤ N → 0 ≤ z → z < 64 → L z < far → ∃ (i : Nat) (c : Int), i ≤ nlt L (L z) ∧ c ≤ L z ∧ Wk r p u i z c := by
  intro N
  induction N with
  | zero =>
    intro z hN z0 z1 zl
    by_cases hp : z / 8 = p
    · exact ⟨0, 0, Nat.zero_le _, (h.1 z z0 z1).1, hp, rfl⟩
    · obtain ⟨m, m0, m1, hb, hl⟩ := h.2.2 z z0 z1 hp zl
      have hi := bhR_in (r := r) (z := z) (m := m) ho.2.1
      have hst := stepC_in (u := u) (r := r) (z := z) (m := m) hu ho hb
      have := nlt_lt (L := L) (y := bhR r z m) (v := L z) (by omega) (by omega)
      omega
  | succ N ih =>
    intro z hN z0 z1 zl
    by_cases hp : z / 8 = p
    · exact ⟨0, 0, Nat.zero_le _, (h.1 z z0 z1).1, hp, rfl⟩
    · obtain ⟨m, m0, m1, hb, hl⟩ := h.2.2 z z0 z1 hp zl
      have hi := bhR_in (r := r) (z := z) (m := m) ho.2.1
      have hst := stepC_in (u := u) (r := r) (z := z) (m := m) hu ho hb
      have hlt := nlt_lt (L := L) (y := bhR r z m) (v := L z) (by omega) (by omega)
      obtain ⟨i, c, h1, h2, h3⟩ := ih (bhR r z m) (by omega) (by omega) (by omega) (by omega)
      exact ⟨i + 1, stepC u r z m + c, by omega, by omega, m, c, m0, m1, hb, h3, rfl⟩
theorem Wk_le {r : Row} {p u far : Int} {L : Int → Int} (hs : sym r) (hn : rN r ≤ 8) (h : mDist r p u far L) : ∀ (i : Nat) {z c : Int}, zOk r z → Wk r p u i z c → L z ≤ c
  | 0, z, c, hz, hw => by rw [h.1.2.1 z hz.1.1 hz.1.2 hw.1, hw.2]; exact Int.le_refl _
  | i + 1, z, c, hz, hw => by
    obtain ⟨m, c2, m0, m1, hb, hw2, hc⟩ := hw
    have h1 := h.2 z hz m m0 m1 hb
    have h2 := Wk_le hs hn h i (bh_zok hs hn hb).2 hw2
    omega
theorem me_form {r : Row} {p u far : Int} {L : Int → Int} {z : Int} (hu : 1 ≤ u) (ho : rOk r) (hs : sym r) (h : mDist r p u far L) (hz : zOk r z) (hl : L z < far) : ∃ (i : Nat) (e : Int), i ≤ 63 ∧ 0 ≤ e ∧ L z = u * e + i ∧ Wk r p u i z (L z) := by
  obtain ⟨i, c, h1, h2, h3⟩ := me_chain hu ho h.1 (nlt L (L z)) z (Nat.le_refl _) hz.1.1 hz.1.2 hl
  have h4 := Wk_le hs ho.2.1 h i hz h3
  have h5 := nlt_63 (L := L) hz.1
  have e : c = L z := by omega
  subst e
  obtain ⟨e, e0, e1⟩ := Wk_f ho i h3
  exact ⟨i, e, by omega, e0, e1, h3⟩
/-! the class' way to measure -/
def lenX (r : Row) (L : Int → Int) (z m : Int) : Int := if cstL 100 1000000 r L z m < 1000000 then cstL 100 1000000 r L z m else 1000000
def lsX (r : Row) (L : Int → Int) (z : Int) : Nat → Int
  | 0 => 1000000
  | k + 1 => if lenX r L z k < lsX r L z k then lenX r L z k else lsX r L z k
theorem lsX_step {r : Row} {L : Int → Int} {z m : Int} (hm : 0 ≤ m) : lsX r L z (m + 1).toNat = if lenX r L z m < lsX r L z m.toNat then lenX r L z m else lsX r L z m.toNat := by
  rw [show (m + 1).toNat = m.toNat + 1 by omega, lsX, show ((m.toNat : Nat) : Int) = m by omega]
def lrg (L : Int → Int) : Prop := ∀ z : Int, 0 ≤ z → z < 64 → 0 ≤ L z ∧ L z ≤ 1000000
theorem lenX_in {r : Row} {L : Int → Int} {z m : Int} (ho : rOk r) (h : lrg L) : 0 ≤ lenX r L z m ∧ lenX r L z m ≤ 1000000 := by
  have : 0 ≤ cstL 100 1000000 r L z m := by
    unfold cstL
    split
    · omega
    · have hi := bhR_in (r := r) (z := z) (m := m) ho.2.1
      have h1 := h (bhR r z m) (by omega) (by omega)
      have h2 := stepC_in (u := 100) (r := r) (z := z) (m := m) (by omega) ho (by omega)
      omega
  unfold lenX
  split <;> omega
theorem lsX_in {r : Row} {L : Int → Int} {z : Int} (ho : rOk r) (h : lrg L) : ∀ k, 0 ≤ lsX r L z k ∧ lsX r L z k ≤ 1000000
  | 0 => by rw [lsX]; omega
  | k + 1 => by
    have := lsX_in (z := z) ho h k
    have := lenX_in (z := z) (m := k) ho h
    rw [lsX]; split <;> omega
theorem lsX_le {r : Row} {L : Int → Int} {z : Int} : ∀ (k : Nat) (m : Int), 0 ≤ m → m < k → lsX r L z k ≤ lenX r L z m
  | 0, m, h0, h1 => by omega
  | k + 1, m, h0, h1 => by
    rw [lsX]
    by_cases q : m = k
    · subst q; split <;> omega
    · have := lsX_le (r := r) (L := L) (z := z) k m h0 (by omega)
      split <;> omega
theorem lsX_ex {r : Row} {L : Int → Int} {z : Int} : ∀ (k : Nat), lsX r L z k = 1000000 ∨ ∃ m : Int, 0 ≤ m ∧ m < k ∧ lsX r L z k = lenX r L z m
  | 0 => Or.inl rfl
  | k + 1 => by
    rw [lsX]
    split
    · exact Or.inr ⟨k, by omega, by omega, rfl⟩
    · rcases lsX_ex (r := r) (L := L) (z := z) k with q | ⟨m, m0, m1, m2⟩
      · exact Or.inl q
      · exact Or.inr ⟨m, m0, by omega, m2⟩
theorem lsX_cst {r : Row} {L : Int → Int} {z : Int} (h : lsX r L z 3 < 1000000) : ∃ m : Int, 0 ≤ m ∧ m ≤ 2 ∧ lsX r L z 3 = cstL 100 1000000 r L z m := by
  rcases lsX_ex (r := r) (L := L) (z := z) 3 with q | ⟨m, m0, m1, m2⟩
  · omega
  · refine ⟨m, m0, by omega, ?_⟩
    rw [m2] at h ⊢
    unfold lenX at h ⊢
    split at h
    · rename_i q; rw [if_pos q]
    · omega
theorem lsX_min {r : Row} {L : Int → Int} {z m : Int} (hm : 0 ≤ m ∧ m ≤ 2) (hb : 0 ≤ bhR r z m) : lsX r L z 3 ≤ stepC 100 r z m + L (bhR r z m) := by
  have h1 := lsX_le (r := r) (L := L) (z := z) 3 m hm.1 (by omega)
  unfold lenX cstL at h1
  rw [if_neg (show ¬ bhR r z m < 0 by omega)] at h1
  split at h1
  · exact h1
  · omega
def wkB (r : Row) (p : Int) (L : Int → Int) (n z : Int) : Prop := ∀ (i : Nat) (c : Int), (i : Int) ≤ n → Wk r p 100 i z c → L z ≤ c
/-- one spot looked at -/
theorem mx_step {r : Row} {p : Int} {E W : Dat} {n z v : Int} (ho : rOk r) (h : meI r p 100 1000000 (E 192)) (hz : 0 ≤ z ∧ z < 64) (hv : v = lsX r (E 192) z 3) (hn : 0 ≤ n) (hB : ∀ y : Int, 0 ≤ y → y < 64 → wkB r p (E 192) n y) (hW : (v < E 192 z ∧ W = upD E 192 z v) ∨ (¬ v < E 192 z ∧ W = E)) : meI r p 100 1000000 (W 192) ∧ (∀ y : Int, 0 ≤ y → y < 64 → W 192 y ≤ E 192 y) ∧ wkB r p (W 192) (n + 1) z ∧ (¬ v < E 192 z → W = E ∧ meF r 100 (E 192) z) := by
  have hle : ∀ y : Int, W 192 y ≤ E 192 y := fun y => by
    rcases hW with ⟨h1, h2⟩ | ⟨h1, h2⟩
    · rw [h2, upD2]; split
      · rename_i q; rw [q]; omega
      · omega
    · rw [h2]; omega
  have hWz : W 192 z ≤ v := by
    rcases hW with ⟨h1, h2⟩ | ⟨h1, h2⟩
    · rw [h2, upD_s]; omega
    · rw [h2]; omega
  refine ⟨?_, fun y _ _ => hle y, fun i c hi hw => ?_, fun q => ?_⟩
  · rcases hW with ⟨h1, h2⟩ | ⟨h1, h2⟩
    · have hzl := h.1 z hz.1 hz.2
      obtain ⟨m, m0, m1, m2⟩ := lsX_cst (r := r) (L := E 192) (z := z) (by omega)
      exact me_up (L2 := W 192) (by omega) ho h hz ⟨m0, m1⟩ (hv.trans m2) h1 (fun y => by rw [h2, upD2])
    · rw [h2]; exact h
  · cases i with
    | zero =>
      rw [hw.2]
      have := h.2.1 z hz.1 hz.2 hw.1
      have := hle z
      omega
    | succ i =>
      obtain ⟨m, c2, m0, m1, hb, hw2, hc⟩ := hw
      have hi2 := bhR_in (r := r) (z := z) (m := m) ho.2.1
      have h1 := hB (bhR r z m) (by omega) (by omega) i c2 (by omega) hw2
      have h2 := lsX_min (r := r) (L := E 192) (z := z) (m := m) ⟨m0, m1⟩ hb
      omega
  · rcases hW with ⟨h1, h2⟩ | ⟨h1, h2⟩
    · exact absurd h1 q
    · refine ⟨h2, fun m m0 m1 hb => ?_⟩
      have h2 := lsX_min (r := r) (L := E 192) (z := z) (m := m) ⟨m0, m1⟩ hb
      omega
theorem mx_end {r : Row} {p : Int} {L : Int → Int} (ho : rOk r) (h : meI r p 100 1000000 L) (hB : ∀ y : Int, 0 ≤ y → y < 64 → wkB r p L 64 y) : mDist r p 100 1000000 L := by
  refine ⟨h, fun z hz m m0 m1 hb => ?_⟩
  have hi := bhR_in (r := r) (z := z) (m := m) ho.2.1
  have hst := stepC_in (u := 100) (r := r) (z := z) (m := m) (by omega) ho hb
  have hz2 := h.1 z hz.1.1 hz.1.2
  rcases Int.lt_or_le (L (bhR r z m)) 1000000 with q | q
  · obtain ⟨i, c, h1, h2, h3⟩ := me_chain (by omega) ho h (nlt L (L (bhR r z m))) (bhR r z m) (Nat.le_refl _) (by omega) (by omega) q
    have h5 := nlt_63 (L := L) (z := bhR r z m) (by omega)
    have := hB z hz.1.1 hz.1.2 (i + 1) (stepC 100 r z m + c) (by omega) ⟨m, c, m0, m1, hb, h3, rfl⟩
    omega
  · omega
theorem len_frs {r : Row} {p : Int} {L : Int → Int} {z m : Int} (h : mDist r p 100 1000000 L) (hl : L z < 1000000) : lenX r L z m = L z ↔ cstL 100 1000000 r L z m = L z := by
  unfold lenX
  split
  · exact Iff.rfl
  · constructor <;> intro q <;> omega
theorem me_mod {r : Row} {p : Int} {L : Int → Int} {z y : Int} (ho : rOk r) (hs : sym r) (h : mDist r p 100 1000000 L) (hz : zOk r z) (hl : L z < 1000000) (hy : y = bhR r z (frsL 100 1000000 r L z)) (h0 : 0 < L z) : zOk r y ∧ L y < 1000000 ∧ L y % 100 = L z % 100 - 1 := by
  have hf := frs_ok h hz h0 hl
  rw [← hy] at hf
  have hzy := (bh_zok hs ho.2.1 (show 0 ≤ bhR r z (frsL 100 1000000 r L z) by rw [← hy]; exact hf.2.2)).2
  rw [← hy] at hzy
  have hc := hf.2.1
  unfold cstL at hc
  rw [← hy, if_neg (by have := hf.2.2; omega)] at hc
  have hst := stepC_in (u := 100) (r := r) (z := z) (m := frsL 100 1000000 r L z) (by omega) ho (by rw [← hy]; exact hf.2.2)
  obtain ⟨e, e0, e1⟩ := stepC_f (u := 100) (r := r) (z := z) (m := frsL 100 1000000 r L z) ho (by rw [← hy]; exact hf.2.2)
  have hly : L y < 1000000 := by omega
  obtain ⟨i, a, i1, a0, i2, -⟩ := me_form (by omega) ho hs h hzy hly
  obtain ⟨j, b, j1, b0, j2, -⟩ := me_form (by omega) ho hs h hz hl
  exact ⟨hzy, hly, by omega⟩
theorem me_mod0 {r : Row} {p : Int} {L : Int → Int} {z : Int} (h : mDist r p 100 1000000 L) (hz : zOk r z) (h1 : 0 < L z % 100) : 0 < L z := by
  have := h.1.1 z hz.1.1 hz.1.2
  omega
