/-! the calls in step: those that change something -/
theorem st_feed {D E D1 E1 : Dat} {x v w : Int} (h : I2 D E) (hx : qX_feed x D v D1) (hm : qM_feed x E w E1) : v = w ∧ I2 D1 E1 := by
  have ht := h.tp
  have h1 := h.1.1
  rcases hx with ⟨a, b, c⟩ | ⟨a, a2, b, c⟩ | ⟨a, a2, b, c⟩
  · rcases hm with ⟨d, e, f⟩ | ⟨d, d2, e, f⟩ | ⟨d, d2, e, f⟩
    · exact ⟨by rw [b, e], by rw [c, f]; exact h⟩
    · exact absurd d a
    · exact absurd d a
  · rcases hm with ⟨d, e, f⟩ | ⟨d, d2, e, f⟩ | ⟨d, d2, e, f⟩
    · exact absurd a d
    · exact ⟨by rw [b, e], by rw [c, f]; exact h⟩
    · have := ht.2.1; omega
  · rcases hm with ⟨d, e, f⟩ | ⟨d, d2, e, f⟩ | ⟨d, d2, e, f⟩
    · exact absurd a d
    · omega
    · refine ⟨by rw [b, e, h1], ?_⟩
      obtain ⟨i1, i2, i3, i4, i5, i6, i7⟩ := h
      have eX : ∀ c, c ≠ 1 → c ≠ 2 → D1 c = D c := fun z z1 z2 => by rw [c, upD_other z1, upD_other z2]
      have eM : ∀ c, c ≠ 283 → c ≠ 285 → E1 c = E c := fun z z1 z2 => by rw [f, upD_other z1, upD_other z2]
      have l1 : D1 1 1 = D 1 1 + 1 := by rw [c, upD_s]
      have l2 : E1 283 2 = E 283 2 + 1 := by rw [f, upD_s]
      have l3 : ∀ i : Int, D1 2 i = if i = D 1 1 then x else D 2 i := fun i => by rw [c, upD_n (Or.inl (by decide))]; exact upD2
      have l4 : ∀ i : Int, E1 285 i = if i = E 283 2 then x else E 285 i := fun i => by rw [f, upD_n (Or.inl (by decide))]; exact upD2
      have l5 : E1 283 6 = E 283 6 := by rw [f, upD_n (Or.inr (by decide)), upD_n (Or.inl (by decide))]
      refine ⟨⟨by rw [l1, l2, h1], ⟨by have := ht.1; omega, by omega, fun i j0 j1 => ?_⟩, fun i j0 j1 => ?_⟩, ?_, ?_, ?_, ?_, ?_, ?_⟩
      · rw [l3]; split
        · exact a
        · exact ht.2.2 i j0 j1
      · rw [l3, l4, h1]; split
        · rfl
        · exact i1.2.2 i j0 j1
      · rw [rowX_c (D := D) (fun c c0 c1 => eX c (by omega) (by omega)), rowM_c (eM 284 (by decide) (by decide))]; exact i2
      · have := i3.cx (D1 := D1) (fun c c0 c1 => eX c (by omega) (by omega))
        unfold Ihs rowM at this ⊢
        rw [l5, eM 287 (by decide) (by decide)]; exact this
      · have := i4.cx (D1 := D1) (fun c c0 c1 => eX c (by omega) (by omega))
        unfold Iim rowM at this ⊢
        rw [eM 288 (by decide) (by decide)]; exact this
      · have := i5.cx (D1 := D1) (fun c c0 c1 => eX c (by omega) (by omega))
        unfold Ish at this ⊢
        rw [eM 295 (by decide) (by decide), eM 296 (by decide) (by decide), eM 297 (by decide) (by decide)]; exact this
      · unfold sOk; rw [rowX_c (D := D) (fun c c0 c1 => eX c (by omega) (by omega))]; exact i6
      · unfold sOk; rw [rowX_c (D := D) (fun c c0 c1 => eX c (by omega) (by omega))]; exact i7
theorem zR_ok : rOk zR := by
  have e : ∀ (j : Nat) (p : Int), rg zR j p = 0 := fun j p => by
    unfold rg zR
    rw [List.getD_eq_getElem?_getD, List.getElem?_replicate]
    split <;> rfl
  unfold rOk rN rF rB rK rW rBe rWe rSh rL
  simp only [e]
  exact ⟨by decide, by decide, by decide, by decide, fun p p0 p1 => ⟨by decide, by decide, by decide, by decide, by decide, by decide, fun z => by omega⟩⟩
theorem st_strip {D E D1 E1 : Dat} {v w : Int} (h : I2 D E) (hx : qX_strip D v D1) (hm : qM_strip E w E1) : v = w ∧ I2 D1 E1 := by
  have et : tEq (tAt D) (mAt E) := fun p p0 => by
    unfold tAt mAt
    rw [← h.1.1]
    by_cases q : p < D 1 1
    · rw [if_pos ⟨p0, q⟩, if_pos q, h.1.2.2 p p0 (by have := h.tp.2.1; omega)]
    · rw [if_neg (fun z => q z.2), if_neg q]
  have hq := pWhole_q (t := tAt D) (len := D 1 1) (r := rowX D 4) (s := zR) rfl rfl h.s4 zR_ok
  rw [whole_t (r := zR) et, h.1.1] at hq
  obtain ⟨hx, x1, x2, x3, x4⟩ := hx
  rw [h.1.1] at hx
  obtain ⟨hm, m1, m2, m3⟩ := hm
  obtain ⟨q1, q2, q3⟩ := hq
  obtain ⟨i1, i2, i3, i4, i5, i6, i7⟩ := h
  have ke : v = w ∧ rR (rowX D1 11) (rowM E1 284 0) ∧ Ihs D1 E1 := by
    have eH : ∀ c, 19 ≤ c → c < 188 → D1 c = D c := fun c c0 c1 => x4 c c0
    rcases hx with ⟨a, b, c, d1, d2⟩ | ⟨a, b, c, d⟩
    · rcases hm with ⟨e, f, g, g2⟩ | ⟨e, f, g, g2⟩
      · have hv := q3 a
        refine ⟨by rw [b, f, hv.1.N], by rw [c, g]; exact hv.r, ⟨⟨by omega, by omega⟩, by omega, fun k k0 k1 => by omega⟩⟩
      · rw [q1, e] at a; cases a
    · rcases hm with ⟨e, f, g, g2⟩ | ⟨e, f, g, g2⟩
      · rw [q1, e] at a; cases a
      · refine ⟨by rw [b, f, q2], by rw [c, rowM_c g]; exact i2, ?_⟩
        have := i3.cx (D1 := D1) (fun c c0 c1 => by
          by_cases z : c = 18
          · rw [z]; exact d
          · exact x4 c (by omega))
        unfold Ihs rowM at this ⊢
        rw [g2, m2 287 (by decide) (by decide) (by decide)]; exact this
  refine ⟨ke.1, ?_, ke.2.1, ke.2.2, ?_, ?_, x2, ?_⟩
  · refine ⟨by rw [x1, m1], ?_, fun i j0 j1 => ?_⟩
    · have := i1.2.1
      unfold tOk at this ⊢
      rw [x1, x3]; exact ⟨by decide, by decide, this.2.2⟩
    · rw [x3, m2 285 (by decide) (by decide) (by decide)]; exact i1.2.2 i j0 j1
  · have := i4.cx (D1 := D1) (fun c c0 c1 => x4 c (by omega))
    unfold Iim rowM at this ⊢
    rw [m2 288 (by decide) (by decide) (by decide)]; exact this
  · have := i5.cx (D1 := D1) (fun c c0 c1 => x4 c (by omega))
    unfold Ish at this ⊢
    rw [m2 295 (by decide) (by decide) (by decide), m2 296 (by decide) (by decide) (by decide), m2 297 (by decide) (by decide) (by decide)]; exact this
  · unfold sOk; rw [rowX_c (D := D) (fun c c0 c1 => x4 c (by omega))]; exact i7
theorem go_step {D E K N D1 E1 : Dat} {m u : Int} (h : I2 D E) (h0 : D 11 6 ≠ 0) (hm : 0 ≤ m ∧ m ≤ 2) (hc : 0 ≤ comesR (rowX D 11) m) (hk : kepX D K) (hr : rowX D1 11 = goR (rowX D 11) m) (hf : frm 11 7 K D1) (hn : notQ E N) (hq : movQ N E1 u m) : rowM E1 284 0 = goR (rowM E 284 0) m ∧ u = (if m = 2 then -4 else comesR (rowM E 284 0) m) ∧ I2 D1 E1 := by
  have e284 : rowM N 284 0 = rowM E 284 0 := rowM_c (hn.1 284 (by decide) (by decide))
  have hV := h.v h0
  have hg := h.gM (by have := h.n; have := h.n8.1; omega)
  have g := mov_go (D := N) (D1 := E1) (m := m) (v := u) (by rw [e284]; exact hg) hm (by rw [e284, ← hV.comes]; exact hc) hq
  rw [e284] at g
  refine ⟨g.1, g.2.1, (keep_I h hk hn).row hf g.2.2 ?_⟩
  rw [hr, g.1]
  exact (hV.go m).r
theorem st_flex {D E D1 E1 : Dat} {s v w : Int} (h : I2 D E) (hx : qX_flex s D v D1) (hm : qM_flex s E w E1) : v = w ∧ I2 D1 E1 := by
  have hn := h.n
  have h8 := h.n8.1
  by_cases q : 0 ≤ s ∧ s ≤ 1
  · have key : D 11 6 ≠ 0 → ((s = 2 ∨ (bnM E s ≠ -4 ∧ ¬ E 284 (20 + bnM E s) ≤ E 284 (28 + bnM E s))) ↔ 0 ≤ comesR (rowX D 11) s) := fun h0 => by
      rw [(h.v h0).comes s]; exact gd_may (h.gM (by omega)) (by omega)
    rcases hx with ⟨a, -⟩ | ⟨-, ⟨a, b, c⟩ | ⟨a, K, k1, k2, k3, k4⟩⟩
    · exact absurd q a
    · rcases hm with ⟨d, -⟩ | ⟨-, d, e, f⟩ | ⟨-, d, -⟩
      · exact absurd q d
      · exact ⟨by rw [b, e], by rw [c, f]; exact h⟩
      · exact absurd ⟨by omega, (key (by omega)).1 d.2⟩ a
    · rcases hm with ⟨d, -⟩ | ⟨-, d, e, f⟩ | ⟨-, d, N, e, f⟩
      · exact absurd q d
      · exact absurd ⟨by omega, (key (by omega)).2 a.2⟩ d
      · obtain ⟨g1, g2, g3⟩ := go_step h (by omega) (by omega) a.2 k1 k2 k3 e f
        refine ⟨?_, g3⟩
        have hV := h.v (by omega)
        rw [k4, g2, if_neg (by omega), go_F hV.2.1.1 (by omega) a.2, hV.comes]
  · rcases hx with ⟨-, b, c⟩ | ⟨a, -⟩
    · rcases hm with ⟨-, e, f⟩ | ⟨d, -⟩ | ⟨d, -⟩
      · exact ⟨by rw [b, e], by rw [c, f]; exact h⟩
      · exact absurd d q
      · exact absurd d q
    · exact absurd a q
theorem st_turn {D E D1 E1 : Dat} {v w : Int} (h : I2 D E) (hx : qX_turn D v D1) (hm : qM_turn E w E1) : v = w ∧ I2 D1 E1 := by
  have hn := h.n
  have h8 := h.n8.1
  have hc : comesR (rowX D 11) 2 = D 11 8 := rfl
  have hb := h.s11.b
  rcases hx with ⟨a, b, c⟩ | ⟨a, K, k1, k2, k3, k4⟩
  · rcases hm with ⟨d, e, f⟩ | ⟨d, -⟩
    · exact ⟨by rw [b, e], by rw [c, f]; exact h⟩
    · exact absurd ⟨by omega, by omega⟩ a
  · rcases hm with ⟨d, e, f⟩ | ⟨d, e, N, u, f, f2⟩
    · omega
    · obtain ⟨g1, g2, g3⟩ := go_step h (by omega) (by decide) a.2 k1 k2 k3 f f2
      refine ⟨?_, g3⟩
      have hV := h.v (by omega)
      rw [k4, e, ← mF E1 284, g1, (hV.go 2).1.F]
theorem adj_M {n p q : Int} (hn : 3 ≤ n) (hp : 0 ≤ p ∧ p < n) (hq : 0 ≤ q ∧ q < n) (hne : p ≠ q) : (1 < (q - p + n) % n ∧ (q - p + n) % n < n - 1) ↔ ¬ (p - q = 1 ∨ q - p = 1 ∨ p - q = n - 1 ∨ q - p = n - 1) := by
  rcases Int.lt_or_le p q with w | w
  · rw [wrapM (show 0 ≤ q - p ∧ q - p < n by omega)]; omega
  · rw [Int.emod_eq_of_lt (show 0 ≤ q - p + n by omega) (by omega)]; omega
theorem I2.td {D E : Dat} (h : I2 D E) {p q : Int} (hp : 0 ≤ p ∧ p < D 11 6) (hq : 0 ≤ q ∧ q < D 11 6) (ht : tb (rL (rowX D 11) p) q = true) : tdM E p q = thX (rowX D 11) p q 0 ∧ tdM E q p = thX (rowX D 11) p q 1 := by
  have hn := h.n
  have h8 := h.n8.1
  have hV := h.v (by omega)
  have hg := h.gM (by omega)
  have ht2 := ht
  rw [hV.1.2 p hp.1 (by omega)] at ht2
  rw [hV.1.th (by omega) (by omega), hV.1.th (by omega) (by omega)]
  exact ⟨gd_br (m := 0) hg (by omega) (by omega) ht2 (Or.inl rfl), gd_br (m := 1) hg (by omega) (by omega) ht2 (Or.inr rfl)⟩
theorem I2.htr {D E : Dat} (h : I2 D E) : ∀ p q : Int, hasM E p q → foldM E p q → tdM E p q ≠ -4 ∧ tdM E q p ≠ -4 := fun p q h1 h2 => by
  have hn := h.n
  have h8 := h.n8
  unfold hasM at h1
  unfold foldM at h2
  rw [← hn] at h1 h2
  have hV := h.v (by omega)
  have ht : tb (rL (rowX D 11) p) q = true := by rw [hV.1.2 p h1.1.1 (by omega), mL (by omega)]; exact h2.2.2
  obtain ⟨t0, t1⟩ := h.td h1.1 h1.2.1 ht
  have hf := hV.2.1.fold (p := p) (q := q) (by rw [xN]; exact h1.1) (by rw [xN]; exact h1.2.1) ht (by rw [xN]; exact (adj_M (h8.2 (by omega)) h1.1 h1.2.1 h1.2.2).1 ⟨h2.1, h2.2.1⟩)
  omega
theorem st_refold {D E D1 E1 : Dat} {p q v w : Int} (h : I2 D E) (hx : qX_refold p q D v D1) (hm : qM_refold p q E w E1) : v = w ∧ I2 D1 E1 := by
  have hn := h.n
  have h8 := h.n8
  unfold qM_refold hasM at hm
  rw [← hn] at hm
  by_cases a : (0 ≤ p ∧ p < D 11 6) ∧ (0 ≤ q ∧ q < D 11 6) ∧ p ≠ q
  · have h0 : D 11 6 ≠ 0 := by omega
    have hV := h.v h0
    have eL : rL (rowX D 11) p = D 17 p := xL (D := D) (a := 11) (p := p) (by omega)
    have eM : D 17 p = E 284 (44 + p) := by rw [← eL, hV.1.2 p a.1.1 (by omega)]; exact mL (by omega)
    have ef : foldM E p q ↔ (tb (D 17 p) q = true ∧ ¬ (p - q = 1 ∨ q - p = 1 ∨ p - q = D 11 6 - 1 ∨ q - p = D 11 6 - 1)) := by
      unfold foldM
      rw [← hn, ← eM]
      have := adj_M (h8.2 h0) a.1 a.2.1 a.2.2
      constructor
      · rintro ⟨x, y, z⟩; exact ⟨z, this.1 ⟨x, y⟩⟩
      · rintro ⟨z, y⟩; exact ⟨(this.2 y).1, (this.2 y).2, z⟩
    have eh : heldM E p q ↔ ((D 11 7 = p ∧ D 11 8 = q) ∨ (D 11 7 = q ∧ D 11 8 = p)) := by
      unfold heldM; rw [← h.f, ← h.b]
    rcases hx with ⟨b, -⟩ | ⟨-, b, c, d⟩ | ⟨-, b, ⟨K, k1, k2, k3⟩, c⟩
    · exact absurd a b
    · rcases hm with ⟨e, -⟩ | ⟨-, e, f, g⟩ | ⟨-, e, -⟩
      · exact absurd a e
      · exact ⟨by rw [c, f], by rw [d, g]; exact h⟩
      · have e1 := ef.1 e.1
        have hf := hV.2.1.fold (p := p) (q := q) (by rw [xN]; exact a.1) (by rw [xN]; exact a.2.1) (by rw [eL]; exact e1.1) (by rw [xN]; exact e1.2)
        exact absurd ⟨⟨e1, fun z => e.2 (eh.2 z)⟩, hf.1, hf.2.1⟩ b
    · rcases hm with ⟨e, -⟩ | ⟨-, e, f, g⟩ | ⟨-, e, N, n1, n2, n3⟩
      · exact absurd a e
      · exact absurd ⟨ef.2 b.1.1, fun z => b.1.2 (eh.1 z)⟩ e
      · have ht : tb (rL (rowX D 11) p) q = true := by rw [eL]; exact b.1.1.1
        obtain ⟨t0, t1⟩ := h.td a.1 a.2.1 ht
        rw [t0, t1] at n2 n3
        have i0 := thX_in (r := rowX D 11) (a := p) (b := q) (s := 0) (by rw [xN]; omega)
        have i1 := thX_in (r := rowX D 11) (a := p) (b := q) (s := 1) (by rw [xN]; omega)
        rw [xN] at i0 i1
        have b2 := b.2.1
        have b3 := b.2.2
        refine ⟨?_, (keep_I h k1 n1).row k3 (fun c hc => by rw [n2, lnM_fo hc, ptM_fr hc]) ?_⟩
        · rw [c, n3]
          clear n2 n3 t0 t1 k2
          generalize thX (rowX D 11) p q 0 = x at *
          generalize thX (rowX D 11) p q 1 = y at *
          split <;> split <;> omega
        · rw [k2, n2, ln_row (by omega) (by omega), pt_row (by omega) (by omega), rowM_c (n1.1 284 (by decide) (by decide))]
          exact (hV.fold (by rw [xN]; exact a.1) (by rw [xN]; exact a.2.1) ht (by rw [xN]; exact b.1.1.2) b.1.2).r
  · rcases hx with ⟨-, b, c⟩ | ⟨b, -⟩ | ⟨b, -⟩
    · rcases hm with ⟨-, e, f⟩ | ⟨e, -⟩ | ⟨e, -⟩
      · exact ⟨by rw [b, e], by rw [c, f]; exact h⟩
      · exact absurd e a
      · exact absurd e a
    · exact absurd b a
    · exact absurd b a
theorem st_mend {D E D1 E1 : Dat} {p v w : Int} (h : I2 D E) (hx : qX_mend p D v D1) (hm : qM_mend p E w E1) : v = w ∧ I2 D1 E1 := by
  have hn := h.n
  have h8 := h.n8
  unfold qM_mend at hm
  rw [← hn] at hm
  by_cases a : 0 ≤ p ∧ p < D 11 6
  · have hV := h.v (by omega)
    have e1 : rWe (rowX D 11) p = D 15 p := xWe (D := D) (a := 11) (p := p) (by omega)
    have e2 : D 15 p = E 284 (28 + p) := by rw [← e1, (hV.1.at (p := p) (by rw [xN]; exact a)).2.2.2.1]; exact mWe (by omega)
    have hr := (h.s11.2.2.2.2 p a.1 (by omega)).2.2.2.1
    rw [e1] at hr
    rw [← e2] at hm
    rcases hx with ⟨b, -⟩ | ⟨-, b, c, d⟩ | ⟨-, b, c, K, k1, k2, k3⟩
    · exact absurd a b
    · rcases hm with ⟨e, -⟩ | ⟨-, e, f, g⟩ | ⟨-, e, -⟩
      · exact absurd a e
      · exact ⟨by rw [c, f], by rw [d, g]; exact h⟩
      · exact absurd b e
    · rcases hm with ⟨e, -⟩ | ⟨-, e, f, g⟩ | ⟨-, e, f, N, n1, n2⟩
      · exact absurd a e
      · exact absurd e b
      · have hvw : v = w := by
          rw [c, f]
          split <;> split <;> omega
        have hv20 : 0 ≤ v ∧ v ≤ 20 := by
          rw [c]
          split <;> omega
        refine ⟨hvw, (keep_I h k1 n1).row k3 (fun c hc => by rw [n2, upD_other hc]) ?_⟩
        rw [k2, n2, rowM_up (by omega), rowM_c (n1.1 284 (by decide) (by decide)), show (28 + p - 0).toNat = 28 + p.toNat by omega, ← hvw]
        exact (hV.we (by omega) hv20).r
  · rcases hx with ⟨-, b, c⟩ | ⟨b, -⟩ | ⟨b, -⟩
    · rcases hm with ⟨-, e, f⟩ | ⟨e, -⟩ | ⟨e, -⟩
      · exact ⟨by rw [b, e], by rw [c, f]; exact h⟩
      · exact absurd e a
      · exact absurd e a
    · exact absurd b a
    · exact absurd b a
