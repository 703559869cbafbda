/-! what is told of a row; rows on which both sides look alike -/
def picR (r : Row) (p w : Int) : Int :=
  if ¬ (0 ≤ p ∧ p < rN r) then -1 else if w = 0 then rK r p else if w = 1 then rW r p else if w = 2 then rBe r p else if w = 3 then rWe r p else if w = 4 then rSh r p else if w = 5 then effK (rK r p) (rSh r p) else if w = 6 then rL r p else if w = 7 then (if rBe r p ≤ rWe r p then 1 else 0) else -1
def asR (r : Row) (p k : Int) : Int := if (0 ≤ p ∧ p < rN r) ∧ (0 ≤ k ∧ k ≤ 5) then (if k = 0 ∨ rK r p = k ∨ (k = 1 ∧ (rK r p = 2 ∨ rK r p = 3)) ∨ (k = 4 ∧ rK r p = 5) then p else -12) else -1
def shownF (r : Row) : Int → Bool := fun p => decide (0 < rSh r p)
def tornF (r : Row) : Int → Bool := fun p => decide (rBe r p ≤ rWe r p)
def wornF (r : Row) : Int → Int := fun p => rWe r p
def cntR (r : Row) (h t w : Int) : Int :=
  if w = 0 then rN r else if w = 1 then (if 0 < rN r then rF r else -4) else if w = 2 then (if 0 < rN r then rB r else -4) else if w = 3 then rE r else if w = 4 then setOf (shownF r) (rN r).toNat else if w = 5 then setOf (tornF r) (rN r).toNat else if w = 6 then sumOf (wornF r) (rN r).toNat else if w = 7 then h else if w = 8 then t else -1
theorem iOrB {x y : Int} (hx : 0 ≤ x ∧ x ≤ 255) (hy : 0 ≤ y ∧ y ≤ 255) : iOr x y = bor x y := by
  obtain ⟨a, rfl⟩ := toN hx.1
  obtain ⟨b, rfl⟩ := toN hy.1
  rw [iOr_nat (k := 8) (by omega) (by omega) (by omega)]; rfl
theorem bor_pw (x k : Int) : bor x (pw k) = sb x k := by unfold bor pw sb; rw [Int.toNat_natCast]
theorem bor_0 {x : Int} (h : 0 ≤ x) : bor x 0 = x := by unfold bor; rw [show (0 : Int).toNat = 0 from rfl, Nat.or_zero]; omega
def setFM (r : Row) (t : Int) : Int → Bool := if t = 0 then shownF r else tornF r
theorem setM_1 {r : Row} {t k acc y : Int} (hk : 0 ≤ k) (hv : acc = setOf (setFM r t) k.toNat) (hb : (t = 0 ∧ 0 < rSh r k) ∨ (t ≠ 0 ∧ rBe r k ≤ rWe r k)) (hy : y = pw k) : bor acc y = setOf (setFM r t) (k + 1).toNat := by
  rw [setOf_step hk, ← hv, hy, bor_pw, if_pos]
  unfold setFM
  rcases hb with ⟨h1, h2⟩ | ⟨h1, h2⟩
  · rw [if_pos h1]; exact decide_eq_true h2
  · rw [if_neg h1]; exact decide_eq_true h2
theorem setM_0 {r : Row} {t k acc y : Int} (hk : 0 ≤ k) (ha : 0 ≤ acc) (hv : acc = setOf (setFM r t) k.toNat) (hb : (t = 0 ∧ ¬ 0 < rSh r k) ∨ (t ≠ 0 ∧ ¬ rBe r k ≤ rWe r k)) (hy : y = 0) : bor acc y = setOf (setFM r t) (k + 1).toNat := by
  rw [setOf_step hk, ← hv, hy, bor_0 ha, if_neg]
  unfold setFM
  rcases hb with ⟨h1, h2⟩ | ⟨h1, h2⟩
  · rw [if_pos h1]; intro z; exact h2 (of_decide_eq_true z)
  · rw [if_neg h1]; intro z; exact h2 (of_decide_eq_true z)
/-- where both sides find the same third -/
def trd (r : Row) : Prop := ∀ a b s : Int, 0 ≤ a → a < rN r → 0 ≤ b → b < rN r → tb (rL r a) b = true → (s = 0 ∨ s = 1) → brM (rL r) (rN r) a b s = thX r a b s
theorem thMk_c {L L2 : Int → Int} {n a b : Int} (ha : L a = L2 a) (hb : L b = L2 b) : ∀ k, thMk L n a b k = thMk L2 n a b k
  | 0 => rfl
  | k + 1 => by rw [thMk, thMk, ha, hb, thMk_c ha hb k]
theorem brM_c {L L2 : Int → Int} {n a b s : Int} (ha : L a = L2 a) (hb : L b = L2 b) : brM L n a b s = brM L2 n a b s := by
  unfold brM; rw [thMk_c (L := L) (L2 := L2) (a := a) (b := b) ha hb, thMk_c (L := L) (L2 := L2) (a := b) (b := a) hb ha]
/-- a row of a strip that is there, as it may be -/
def gdR (r : Row) : Prop := pOk r ∧ sym r ∧ trd r ∧ tb (rL r (rF r)) (rB r) = true
theorem gd_br {D : Dat} {f b m : Int} (h : gdR (rowM D 284 0)) (hf : 0 ≤ f ∧ f < D 284 0) (hb : 0 ≤ b ∧ b < D 284 0) (hl : tb (rL (rowM D 284 0) f) b = true) (hm : m = 0 ∨ m = 1) : brM (fun p => D 284 (44 + p)) (D 284 0) f b m = thX (rowM D 284 0) f b m := by
  obtain ⟨⟨-, ho, -, -⟩, -, ht, -⟩ := h
  have h8 := ho.2.1
  rw [mN] at h8
  rw [← ht f b m hf.1 (by rw [mN]; exact hf.2) hb.1 (by rw [mN]; exact hb.2) hl hm, mN]
  exact brM_c (mL (by omega)).symm (mL (by omega)).symm
theorem gd_bn {D : Dat} {m : Int} (h : gdR (rowM D 284 0)) (hm : m = 0 ∨ m = 1) : bnM D m = thX (rowM D 284 0) (D 284 1) (D 284 2) m := by
  have hf := h.1.2.2.1
  have hb := h.1.2.2.2
  have hl := h.2.2.2
  rw [mF, mN] at hf
  rw [mB, mN] at hb
  rw [mF, mB] at hl
  exact gd_br h hf hb hl hm
theorem gd_may {D : Dat} {m : Int} (h : gdR (rowM D 284 0)) (hm : 0 ≤ m ∧ m ≤ 2) : (m = 2 ∨ (bnM D m ≠ -4 ∧ ¬ D 284 (20 + bnM D m) ≤ D 284 (28 + bnM D m))) ↔ 0 ≤ comesR (rowM D 284 0) m := by
  have hb := h.1.2.2.2
  have n8 := h.1.2.1.2.1
  by_cases h2 : m = 2
  · subst h2; exact ⟨fun _ => hb.1, fun _ => Or.inl rfl⟩
  · have e := gd_bn h (m := m) (by omega)
    have ti := thX_in (r := rowM D 284 0) (a := D 284 1) (b := D 284 2) (s := m) (by omega)
    unfold comesR
    rw [if_neg h2, mF, mB, ← e]
    rw [← e] at ti
    generalize bnM D m = t at *
    by_cases hn : t = -4
    · rw [hn]
      constructor
      · rintro (q | q)
        · exact absurd q h2
        · exact absurd rfl q.1
      · intro q
        split at q <;> omega
    · have t0 : 0 ≤ t ∧ t < rN (rowM D 284 0) := by omega
      have e1 : rBe (rowM D 284 0) t = D 284 (20 + t) := mBe (by omega)
      have e2 : rWe (rowM D 284 0) t = D 284 (28 + t) := mWe (by omega)
      rw [e1, e2]
      constructor
      · rintro (q | ⟨-, q⟩)
        · exact absurd q h2
        · rw [if_neg (fun z => q z.2)]; exact t0.1
      · intro q
        refine Or.inr ⟨hn, fun z => ?_⟩
        rw [if_pos ⟨t0, z⟩] at q
        omega
theorem gm_go {r : Row} {m c : Int} (h : pOk r) (hc : m ≠ 2 → c = comesR r m) (h0 : 0 ≤ comesR r m) : gmR r m c = goR r m := by
  obtain ⟨hl, ho, hf, hb⟩ := h
  have hin := comesR_in (r := r) (m := m) (by omega) hb
  by_cases h2 : m = 2
  · subst h2
    rw [goR_turn hb.1]; unfold gmR; rw [if_pos rfl]
    exact List.set_comm _ _ (by decide)
  · have hcc := hc h2
    rw [goR_flex h2 hcc (by omega)]
    unfold gmR
    rw [if_neg h2]
    have h8 := ho.2.1
    have hs := (ho.2.2.2.2 c (by omega) (by omega)).2.2.2.2.1
    rw [show rSh r c + (if rSh r c < 99 then 1 else 0) = (if rSh r c + 1 < 99 then rSh r c + 1 else 99) by split <;> split <;> omega]
    generalize rE r + effK (rK r c) (rSh r c) = e
    generalize rWe r c + wearK (rK r c) = w
    generalize (if rSh r c + 1 < 99 then rSh r c + 1 else 99) = s
    refine row_ext (by simp [hl]) (by simp [hl]) (fun i hi => ?_)
    have e0 : i + (0 : Int).toNat = i := rfl
    rw [rg_set (by simp [hl]) (by omega), rg_set (by simp [hl]) (by omega), rg_set (by simp [hl]) (by omega), rg_set (by simp [hl]) (by omega), rg_set hl (by omega), rg_set (by simp [hl]) (by omega), rg_set (by simp [hl]) (by omega), rg_set (by simp [hl]) (by omega), rg_set (by simp [hl]) (by omega), rg_set hl (by omega), e0]
    repeat' split
    all_goals first | rfl | omega
theorem comes_th {r : Row} {m : Int} (hm : m ≠ 2) (h : 0 ≤ comesR r m) : comesR r m = thX r (rF r) (rB r) m := by
  unfold comesR at h ⊢
  rw [if_neg hm] at h ⊢
  split at h
  · omega
  · rename_i hz; rw [if_neg hz]
theorem mov_go {D D1 : Dat} {v m : Int} (h : gdR (rowM D 284 0)) (hm : 0 ≤ m ∧ m ≤ 2) (h0 : 0 ≤ comesR (rowM D 284 0) m) (q : movQ D D1 v m) : rowM D1 284 0 = goR (rowM D 284 0) m ∧ v = (if m = 2 then -4 else comesR (rowM D 284 0) m) ∧ ∀ c, c ≠ 284 → D1 c = D c := by
  have e : m ≠ 2 → bnM D m = comesR (rowM D 284 0) m := fun h2 => by
    rw [comes_th h2 h0, gd_bn h (by omega), mF, mB]
  refine ⟨?_, ?_, q.2.2⟩
  · rw [q.1]; exact gm_go h.1 e h0
  · rw [q.2.1]
    by_cases h2 : m = 2
    · rw [if_pos h2, if_pos h2]
    · rw [if_neg h2, if_neg h2, e h2]
theorem go_L {r : Row} {m p : Int} (h : pOk r) (hp : 0 ≤ p ∧ p < 8) : rL (goR r m) p = rL r p := by
  obtain ⟨hl, ho, hf, hb⟩ := h
  have h8 := ho.2.1
  rcases goR_cases (r := r) (m := m) hb.1 with ⟨-, e⟩ | ⟨-, -, e⟩ | ⟨hc, -, e⟩
  · rw [e]
  · rw [e]; unfold rL; rw [rg_turn hl (by omega), if_neg (by omega), if_neg (by omega), if_neg (by omega)]
  · have hin := comesR_in (r := r) (m := m) (by omega) hb
    rw [e]; exact fl_L hl (by omega) hp
theorem gd_go {r : Row} {m : Int} (h : gdR r) : gdR (goR r m) := by
  obtain ⟨hp, hs, ht, hk⟩ := h
  obtain ⟨g1, g2⟩ := goR_ok (m := m) hp
  have h8 := hp.2.1.2.1
  have eL : ∀ p : Int, 0 ≤ p → p < rN r → rL (goR r m) p = rL r p := fun p p0 p1 => go_L hp ⟨p0, by omega⟩
  refine ⟨g1, fun p q p0 p1 q0 q1 => ?_, fun a b s a0 a1 b0 b1 hl hs2 => ?_, ?_⟩
  · rw [g2] at p1 q1
    rw [eL p p0 p1, eL q q0 q1]; exact hs p q p0 p1 q0 q1
  · rw [g2] at a1 b1
    rw [eL a a0 a1] at hl
    have := ht a b s a0 a1 b0 b1 hl hs2
    rw [g2, brM_c (L2 := rL r) (eL a a0 a1) (eL b b0 b1), this]
    unfold thX
    rw [g2, eL a a0 a1, eL b b0 b1]
  · have hf := hp.2.2.1
    have hb := hp.2.2.2
    rcases goR_cases (r := r) (m := m) hb.1 with ⟨-, e⟩ | ⟨-, -, e⟩ | ⟨hc, hm, e⟩
    · rw [e]; exact hk
    · have e1 : rF (goR r m) = rB r := by rw [e]; unfold rF; rw [rg_turn hp.1 (by decide), if_pos (by decide)]
      have e2 : rB (goR r m) = rF r := by rw [e]; unfold rB; rw [rg_turn hp.1 (by decide), if_neg (by decide), if_pos (by decide)]
      rw [e1, e2, eL _ hb.1 hb.2, ← hs _ _ hf.1 hf.2 hb.1 hb.2]; exact hk
    · have hin := comesR_in (r := r) (m := m) (by omega) hb
      have e1 : rF (goR r m) = comesR r m := by rw [e]; exact fl_F hp.1
      have e2 : rB (goR r m) = rF r := by rw [e]; exact fl_B hp.1
      have hth := comes_th hm hc
      rw [e1, e2, eL _ hc (by omega), ← hs _ _ hf.1 hf.2 hc (by omega), hth]
      exact (thX_bit (by rw [← hth]; exact hc)).1
theorem bh_nx {r : Row} {z m : Int} (hz : 0 ≤ z ∧ z < 64) (hm : 0 ≤ m ∧ m ≤ 2) : bhR r z m = nxR r z m := by
  unfold bhR; rw [if_pos ⟨hz.1, hz.2, hm.1, hm.2⟩]
theorem mvC_in {r : Row} {z s : Int} (h : 0 ≤ s ∧ s ≤ 1) : 0 ≤ mvC r z s ∧ mvC r z s ≤ 2 := by
  unfold mvC
  split
  · omega
  · split <;> omega
/-- items of a sheet wiped -/
def zrF (W E : Dat) (s k : Int) : Prop := (∀ i : Int, 0 ≤ i → i < k → E 297 (24 * s + i) = 0) ∧ (∀ q : Int, (q < 24 * s ∨ 24 * s + k ≤ q) → E 297 q = W 297 q) ∧ ∀ c, c ≠ 297 → E c = W c
theorem zrF.z {W : Dat} {s : Int} : zrF W W s 0 := ⟨fun i h0 h1 => by omega, fun _ _ => rfl, fun _ _ => rfl⟩
theorem zrF.s {W E : Dat} {s k : Int} (h : zrF W E s k) (hk : 0 ≤ k) : zrF W (upD E 297 (24 * s + k) 0) s (k + 1) := by
  refine ⟨fun i h0 h1 => ?_, fun q hq => ?_, fun c hc => (upD_other hc).trans (h.2.2 c hc)⟩
  · by_cases e : i = k
    · rw [e, upD_s]
    · rw [upD_n (Or.inr (by omega))]; exact h.1 i h0 (by omega)
  · rw [upD_n (Or.inr (by omega))]; exact h.2.1 q (by omega)
theorem refS_in (lane size want i n : Int) : refS lane size want i n = 0 ∨ refS lane size want i n = -11 ∨ refS lane size want i n = -12 ∨ refS lane size want i n = -13 := by
  unfold refS
  repeat' split
  all_goals simp
theorem refS_0 {lane size want i n : Int} (h : refS lane size want i n = 0) : lane ≠ -1 ∧ lane = want ∧ (0 ≤ n ∧ n ≤ size ∧ 0 ≤ i ∧ i ≤ size - n) := by
  unfold refS at h
  split at h
  · omega
  · split at h
    · omega
    · split at h
      · rename_i h1 h2 h3
        exact ⟨h1, by omega, h3⟩
      · omega
