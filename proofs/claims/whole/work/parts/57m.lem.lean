/-! the tape alone is read, from its begin on -/
def tEq (t u : Int → Int) : Prop := ∀ p : Int, 0 ≤ p → t p = u p
def PE (x y : PR) : Prop := x = y ∧ 0 ≤ x.2.2
theorem PEpb {x y : PR} {f g : Row → Int → PR} (h : PE x y) (hf : ∀ r p, 0 ≤ p → PE (f r p) (g r p)) : PE (pb x f) (pb y g) := by
  obtain ⟨rfl, h0⟩ := h
  cases e : x.1
  · rw [pb_f e, pb_f e]; exact ⟨rfl, h0⟩
  · rw [pb_t e, pb_t e]; exact hf _ _ h0
theorem PEsgn {t u : Int → Int} {c p : Int} {r : Row} (h : tEq t u) (hp : 0 ≤ p) : PE (sgn t c r p) (sgn u c r p) := by
  unfold sgn
  rw [h p hp]
  refine ⟨rfl, ?_⟩
  split
  · show 0 ≤ p + 1; omega
  · exact hp
theorem fig_t {t u : Int → Int} {p : Int} (h : tEq t u) (hp : 0 ≤ p) : figT t p = figT u p := by unfold figT; rw [h p hp]
theorem PEpic {t u : Int → Int} {p : Int} {r : Row} (h : tEq t u) (hp : 0 ≤ p) : PE (pPic t r p) (pPic u r p) := by
  unfold pPic
  rw [h p hp, fig_t h (show 0 ≤ p + 1 by omega), fig_t h (show 0 ≤ p + 2 by omega)]
  refine ⟨rfl, ?_⟩
  split
  · exact hp
  · split
    · show 0 ≤ p + 1; omega
    · split
      · show 0 ≤ p + 2; omega
      · show 0 ≤ p + 3; omega
theorem PEpics {t u : Int → Int} (h : tEq t u) : ∀ (f : Nat) (r : Row) (p : Int), 0 ≤ p → PE (pPics t f r p) (pPics u f r p)
  | 0, r, p, hp => ⟨rfl, hp⟩
  | f + 1, r, p, hp => by
    rw [pPics, pPics]
    refine PEpb (PEpic h hp) (fun r p hp => ?_)
    rw [h p hp]
    split
    · exact ⟨rfl, hp⟩
    · exact PEpics h f r (p + 1) (by omega)
theorem PEfold {t u : Int → Int} {p : Int} {r : Row} (h : tEq t u) (hp : 0 ≤ p) : PE (pFold t r p) (pFold u r p) := by
  unfold pFold
  rw [fig_t h hp, fig_t h (show 0 ≤ p + 1 by omega)]
  refine ⟨rfl, ?_⟩
  split
  · exact hp
  · by_cases q : (0 ≤ figT u (p + 1) ∧ figT u (p + 1) < rN r) ∧ canJ r (figT u p) (figT u (p + 1))
    · rw [cif_t q]; show 0 ≤ p + 2; omega
    · rw [cif_f q]; show 0 ≤ p + 1; omega
theorem PEfoldG {t u : Int → Int} (h : tEq t u) : ∀ (m : Nat) (b : Bool) (r : Row) (p : Int), 0 ≤ p → PE (pFoldG t m b r p) (pFoldG u m b r p)
  | 0, b, r, p, hp => by rw [pFoldG, pFoldG]; exact ⟨rfl, hp⟩
  | m + 1, true, r, p, hp => by
    rw [pFoldG, pFoldG]
    exact PEpb (PEfold h hp) (fun r p hp => PEfoldG h m false r p hp)
  | m + 1, false, r, p, hp => by
    rw [pFoldG, pFoldG]
    exact PEpb (PEsgn h hp) (fun r p hp => PEpb (PEfold h hp) (fun r p hp => PEfoldG h m false r p hp))
theorem PEfolds {t u : Int → Int} {p : Int} {r : Row} (h : tEq t u) (hp : 0 ≤ p) : PE (pFolds t r p) (pFolds u r p) := by
  unfold pFolds
  split
  · exact PEsgn h hp
  · exact PEfoldG h _ _ _ _ hp
theorem PEshown {t u : Int → Int} {p : Int} {r : Row} (h : tEq t u) (hp : 0 ≤ p) : PE (pShown t r p) (pShown u r p) := by
  unfold pShown
  rw [fig_t h hp, fig_t h (show 0 ≤ p + 1 by omega)]
  refine ⟨rfl, ?_⟩
  split
  · exact hp
  · split
    · show 0 ≤ p + 2; omega
    · show 0 ≤ p + 1; omega
theorem whole_t {t u : Int → Int} {len : Int} {r : Row} (h : tEq t u) : pWhole t len r = pWhole u len r := by
  unfold pWhole
  refine (PEpb (PEsgn h (by decide)) (fun r p hp => ?_)).1
  refine PEpb (PEpics h 8 r p hp) (fun r p hp => ?_)
  refine PEpb (PEsgn h hp) (fun r p hp => ?_)
  refine PEpb (PEfolds h hp) (fun r p hp => ?_)
  refine PEpb (PEsgn h hp) (fun r p hp => ?_)
  exact PEpb (PEshown h hp) (fun r p hp => ⟨rfl, hp⟩)
/-! what is kept, on both sides -/
theorem rowM_eq {D E : Dat} {c d : Nat} {o p : Int} (h : ∀ i : Int, 0 ≤ i → i < 52 → D c (o + i) = E d (p + i)) : rowM D c o = rowM E d p := by
  unfold rowM
  apply List.map_congr_left
  intro i hi
  exact h i (by omega) (by have := List.mem_range.mp hi; omega)
theorem rowX_k {D K : Dat} {x j : Nat} (hj : j < 24) (hx : x < 24) (hne : j ≠ x) (h : ∀ c, c ≠ 18 → (c < stHist x ∨ stHist x + 7 ≤ c) → K c = D c) : rowX K (stHist j) = rowX D (stHist j) := by
  unfold stHist at *
  exact rowX_c (fun c c0 c1 => h c (by omega) (by omega))
theorem keep_I {D E K N : Dat} (h : I2 D E) (hk : kepX D K) (hn : notQ E N) : I2 K N := by
  obtain ⟨h1, h2, h3, h4, h5, h6, h7⟩ := h
  obtain ⟨k1, k2, k3, k4⟩ := id hk
  obtain ⟨n1, n2, n3, n4⟩ := hn
  obtain ⟨⟨o1, o2⟩, o3, o4⟩ := h3
  obtain ⟨x, ex⟩ : ∃ x : Nat, D 18 1 = x := ⟨(D 18 1).toNat, by omega⟩
  obtain ⟨m, em⟩ : ∃ m : Nat, D 18 2 = m := ⟨(D 18 2).toNat, by omega⟩
  have hx : x < 24 := by omega
  have ek : ∀ c, (c < 18 ∨ (188 ≤ c)) → K c = D c := fun c hc => k4 c (by omega) (by unfold stHist; omega)
  have e284 : rowM N 284 0 = rowM E 284 0 := rowM_c (n1 284 (by decide) (by decide))
  rw [ex, Int.toNat_natCast] at k1 k4
  refine ⟨?_, by rw [hk.r, e284]; exact h2, ⟨⟨?_, ?_⟩, ?_, ?_⟩, ?_, ?_, ?_, ?_⟩
  · have := h1.cx (D1 := K) (ek 1 (by omega)) (ek 2 (by omega))
    exact ⟨by rw [n2 2 (by omega)]; exact this.1, this.2.1, fun i i0 i1 => by rw [n1 285 (by decide) (by decide)]; exact this.2.2 i i0 i1⟩
  · rw [k2, ex]; omega
  · rw [k3, em]; split <;> omega
  · rw [k3]
    by_cases q : E 283 6 = 24
    · rw [(n3 q).1]; split <;> omega
    · rw [(n4 q).1]; split <;> omega
  · intro k k0 k5
    have ei : hsAt K k = stHist ((K 18 1 + 24 - K 18 2 + k) % 24).toNat := rfl
    rw [k2, k3, ex, em] at ei
    rw [k3, em] at k5
    by_cases q : E 283 6 = 24
    · obtain ⟨-, a2, a3⟩ := n3 q
      rw [if_neg (by omega)] at ei k5
      by_cases w : k = 23
      · have e1 : hsAt K k = stHist x := by rw [ei]; congr 1; omega
        have e2 : rowM N 287 (52 * k) = rowM E 284 0 := rowM_eq (fun i i0 i1 => by rw [show 52 * k + i = 1196 + i by omega, a3 i i0 i1, Int.zero_add])
        rw [e1, e2, k1]; exact h2
      · have e1 : hsAt K k = hsAt D (k + 1) := by rw [ei]; unfold hsAt; rw [ex, em]; congr 2; omega
        have e2 : rowM N 287 (52 * k) = rowM E 287 (52 * (k + 1)) := rowM_eq (fun i i0 i1 => by rw [a2 (52 * k + i) (by omega) (by omega)]; congr 1; omega)
        have e3 : rowX K (hsAt D (k + 1)) = rowX D (hsAt D (k + 1)) := by
          unfold hsAt
          rw [ex, em]
          exact rowX_k (by omega) hx (by omega) k4
        rw [e1, e2, e3]
        exact o4 (k + 1) (by omega) (by omega)
    · obtain ⟨-, a2, a3⟩ := n4 q
      have hm : m < 24 := by omega
      have es : (if (m : Int) + 1 < 24 then (m : Int) + 1 else 24) = m + 1 := by split <;> omega
      rw [es] at ei k5
      have eE : E 283 6 = m := by omega
      rw [eE] at a2 a3
      by_cases w : k = m
      · have e1 : hsAt K k = stHist x := by rw [ei]; congr 1; omega
        have e2 : rowM N 287 (52 * k) = rowM E 284 0 := rowM_eq (fun i i0 i1 => by rw [w, a3 i i0 i1, Int.zero_add])
        rw [e1, e2, k1]; exact h2
      · have e1 : hsAt K k = hsAt D k := by rw [ei]; unfold hsAt; rw [ex, em]; congr 2; omega
        have e2 : rowM N 287 (52 * k) = rowM E 287 (52 * k) := rowM_eq (fun i i0 i1 => a2 (52 * k + i) (by omega) (by omega))
        have e3 : rowX K (hsAt D k) = rowX D (hsAt D k) := by
          unfold hsAt
          rw [ex, em]
          exact rowX_k (by omega) hx (by omega) k4
        rw [e1, e2, e3]
        exact o4 k (by omega) (by omega)
  · have := h4.cx (D1 := K) (fun c c0 c1 => ek c (by omega))
    intro k z0 z1
    rw [rowM_c (n1 288 (by decide) (by decide))]
    exact this k z0 z1
  · have := h5.cx (D1 := K) (fun c c0 c1 => ek c (by omega))
    intro s z0 z1
    rw [n1 295 (by decide) (by decide), n1 296 (by decide) (by decide), n1 297 (by decide) (by decide)]
    exact this s z0 z1
  · unfold sOk; rw [rowX_c (D := D) (fun c c0 c1 => ek c (by omega))]; exact h6
  · unfold sOk; rw [rowX_c (D := D) (fun c c0 c1 => ek c (by omega))]; exact h7
/-- another strip in front of both -/
theorem I2.row {K N D1 E1 : Dat} (h : I2 K N) (hx : frm 11 7 K D1) (hm : ∀ c, c ≠ 284 → E1 c = N c) (hr : rR (rowX D1 11) (rowM E1 284 0)) : I2 D1 E1 := by
  obtain ⟨h1, h2, h3, h4, h5, h6, h7⟩ := h
  have g1 := h1.cx (D1 := D1) (hx 1 (by omega)) (hx 2 (by omega))
  have g3 := h3.cx (D1 := D1) (fun c c0 c1 => hx c (by omega))
  have g4 := h4.cx (D1 := D1) (fun c c0 c1 => hx c (by omega))
  have g5 := h5.cx (D1 := D1) (fun c c0 c1 => hx c (by omega))
  refine ⟨?_, hr, ?_, ?_, ?_, ?_, ?_⟩
  · unfold Itp; rw [hm 283 (by decide), hm 285 (by decide)]; exact g1
  · unfold Ihs rowM; rw [hm 283 (by decide), hm 287 (by decide)]; exact g3
  · unfold Iim rowM; rw [hm 288 (by decide)]; exact g4
  · unfold Ish; rw [hm 295 (by decide), hm 296 (by decide), hm 297 (by decide)]; exact g5
  · unfold sOk; rw [rowX_c (D := K) (fun c c0 c1 => hx c (by omega))]; exact h6
  · unfold sOk; rw [rowX_c (D := K) (fun c c0 c1 => hx c (by omega))]; exact h7
theorem go_F {r : Row} {m : Int} (h : pOk r) (hm : m ≠ 2) (h0 : 0 ≤ comesR r m) : rF (goR r m) = comesR r m := by
  have e : goR r m = flexR r (comesR r m) (rE r + effK (rK r (comesR r m)) (rSh r (comesR r m))) (rWe r (comesR r m) + wearK (rK r (comesR r m))) (if rSh r (comesR r m) + 1 < 99 then rSh r (comesR r m) + 1 else 99) := goR_flex hm rfl h0
  rw [e]
  exact fl_F h.1
