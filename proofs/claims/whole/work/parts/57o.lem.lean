/-! the calls in step: what was kept; sheets -/
theorem rX_N (D : Dat) (a : Nat) : D a 6 = rN (rowX D a) := rfl
theorem rM_N {E : Dat} {c : Nat} {o : Int} : rN (rowM E c o) = E c o := by
  have := rowM_get (D := E) (c := c) (o := o) (k := 0) (p := 0) (by decide) (by decide)
  rw [show o + (((0 : Nat) : Int) + 0) = o by omega] at this
  exact this
theorem rM_F {E : Dat} {c : Nat} {o : Int} : rF (rowM E c o) = E c (o + 1) := by
  have := rowM_get (D := E) (c := c) (o := o) (k := 0) (p := 1) (by decide) (by decide)
  rw [show o + (((0 : Nat) : Int) + 1) = o + 1 by omega] at this
  exact this
theorem st_undo {D E D1 E1 : Dat} {v w : Int} (h : I2 D E) (hx : qX_undo D v D1) (hm : qM_undo E w E1) : v = w ∧ I2 D1 E1 := by
  obtain ⟨hh1, hh2⟩ := h.hs
  have he := h.2.2.1.2.1
  rcases hx with ⟨a, b, c⟩ | ⟨a, b, c1, c2, c3, c4⟩
  · rcases hm with ⟨d, e, f⟩ | ⟨d, -⟩
    · exact ⟨by rw [b, e], by rw [c, f]; exact h⟩
    · omega
  · rcases hm with ⟨d, e, f⟩ | ⟨d, e, f1, f2, f3⟩
    · omega
    · refine ⟨by rw [b, e, he], ?_⟩
      obtain ⟨i1, i2, i3, i4, i5, i6, i7⟩ := h
      have eM : ∀ c, c ≠ 283 → c ≠ 284 → E1 c = E c := fun c q1 q2 => by rw [f3 c q2, upD_other q1]
      have m2 : E1 283 2 = E 283 2 := by rw [f3 283 (by decide), upD_n (Or.inr (by decide))]
      have m6 : E1 283 6 = E 283 6 - 1 := by rw [f3 283 (by decide), upD_s]
      have g1 := i1.cx (D1 := D1) (c4 1 (by decide) (by decide)) (c4 2 (by decide) (by decide))
      have g4 := i4.cx (D1 := D1) (fun c q0 q1 => c4 c (by omega) (by omega))
      have g5 := i5.cx (D1 := D1) (fun c q0 q1 => c4 c (by omega) (by omega))
      refine ⟨?_, ?_, ⟨⟨?_, ?_⟩, ?_, fun k k0 k1 => ?_⟩, ?_, ?_, ?_, ?_⟩
      · unfold Itp at g1 ⊢; rw [m2, eM 285 (by decide) (by decide)]; exact g1
      · have q := i3.2.2 (D 18 2 - 1) (by omega) (by omega)
        have e1 : hsAt D (D 18 2 - 1) = stHist ((D 18 1 + 24 - 1) % 24).toNat := by unfold hsAt; congr 3; omega
        have e2 : rowM E1 284 0 = rowM E 287 (52 * (D 18 2 - 1)) := rowM_eq (fun i q0 q1 => by rw [f1 i q0 q1, upD_n (Or.inl (by decide)), he])
        rw [c3, e2, ← e1]; exact q
      · rw [c1]; omega
      · rw [c2]; omega
      · rw [c2, m6, he]
      · rw [c2] at k1
        have q := i3.2.2 k k0 (by omega)
        have e1 : hsAt D1 k = hsAt D k := by unfold hsAt; rw [c1, c2]; congr 2; omega
        obtain ⟨j, hj, ej⟩ := hsAt_in (D := D) (k := k)
        rw [e1, rowM_c (eM 287 (by decide) (by decide)), rowX_c (D := D) (fun c q0 q1 => c4 c (by omega) (by omega))]
        exact q
      · unfold Iim rowM at g4 ⊢; rw [eM 288 (by decide) (by decide)]; exact g4
      · unfold Ish at g5 ⊢; rw [eM 295 (by decide) (by decide), eM 296 (by decide) (by decide), eM 297 (by decide) (by decide)]; exact g5
      · unfold sOk; rw [rowX_c (D := D) (fun c q0 q1 => c4 c (by omega) (by omega))]; exact i6
      · unfold sOk; rw [rowX_c (D := D) (fun c q0 q1 => c4 c (by omega) (by omega))]; exact i7
theorem st_image {D E D1 E1 : Dat} {k v w : Int} (h : I2 D E) (hx : qX_image k D v D1) (hm : qM_image k E w E1) : v = w ∧ I2 D1 E1 := by
  have hn := h.n
  have h8 := h.n8
  by_cases a : 0 ≤ k ∧ k ≤ 1
  · rcases hx with ⟨b, -⟩ | ⟨-, b, c, d⟩ | ⟨-, b, c, d, e⟩
    · exact absurd a b
    · rcases hm with ⟨f, -⟩ | ⟨-, f, g, i⟩ | ⟨-, f, -⟩
      · exact absurd a f
      · exact ⟨by rw [c, g], by rw [d, i]; exact h⟩
      · omega
    · rcases hm with ⟨f, -⟩ | ⟨-, f, g, i⟩ | ⟨-, f, g, f1, f2, f3⟩
      · exact absurd a f
      · omega
      · refine ⟨by rw [c, g, h.f], ?_⟩
        obtain ⟨i1, i2, i3, i4, i5, i6, i7⟩ := h
        have eX : ∀ c, c < 261 ∨ 275 ≤ c → D1 c = D c := fun c hc => e c (by unfold stImg; omega)
        have g1 := i1.cx (D1 := D1) (eX 1 (by decide)) (eX 2 (by decide))
        have g3 := i3.cx (D1 := D1) (fun c q0 q1 => eX c (by omega))
        have g5 := i5.cx (D1 := D1) (fun c q0 q1 => eX c (by omega))
        refine ⟨?_, ?_, ?_, fun j j0 j1 => ?_, ?_, ?_, ?_⟩
        · unfold Itp at g1 ⊢; rw [f3 283 (by decide), f3 285 (by decide)]; exact g1
        · rw [rowX_c (D := D) (fun c q0 q1 => eX c (by omega)), rowM_c (f3 284 (by decide))]; exact i2
        · unfold Ihs rowM at g3 ⊢; rw [f3 283 (by decide), f3 287 (by decide)]; exact g3
        · by_cases q : j = k
          · rw [q, d, rowM_eq (D := E1) (E := E) (c := 288) (d := 284) (o := 52 * k) (p := 0) (fun i q0 q1 => f1 i q0 q1)]; exact i2
          · have e1 : rowX D1 (stImg j.toNat) = rowX D (stImg j.toNat) := e.row (by unfold stImg; omega)
            have e2 : rowM E1 288 (52 * j) = rowM E 288 (52 * j) := rowM_eq (fun i q0 q1 => f2 _ (by omega))
            rw [e1, e2]; exact i4 j j0 j1
        · unfold Ish at g5 ⊢; rw [f3 295 (by decide), f3 296 (by decide), f3 297 (by decide)]; exact g5
        · unfold sOk; rw [rowX_c (D := D) (fun c q0 q1 => eX c (by omega))]; exact i6
        · unfold sOk; rw [rowX_c (D := D) (fun c q0 q1 => eX c (by omega))]; exact i7
  · rcases hx with ⟨-, b, c⟩ | ⟨b, -⟩ | ⟨b, -⟩
    · rcases hm with ⟨-, e, f⟩ | ⟨e, -⟩ | ⟨e, -⟩
      · exact ⟨by rw [b, e], by rw [c, f]; exact h⟩
      · exact absurd e a
      · exact absurd e a
    · exact absurd b a
    · exact absurd b a
theorem st_restore {D E D1 E1 : Dat} {k v w : Int} (h : I2 D E) (hx : qX_restore k D v D1) (hm : qM_restore k E w E1) : v = w ∧ I2 D1 E1 := by
  by_cases a : 0 ≤ k ∧ k ≤ 1
  · have hi := h.2.2.2.1 k a.1 a.2
    have eN : D (stImg k.toNat) 6 = E 288 (52 * k) := by rw [rX_N D (stImg k.toNat), hi.1.N, rM_N]
    rcases hx with ⟨b, -⟩ | ⟨-, b, c, d⟩ | ⟨-, b, c, d, d1, d2, e⟩
    · exact absurd a b
    · rcases hm with ⟨f, -⟩ | ⟨-, f, g, i⟩ | ⟨-, f, -⟩
      · exact absurd a f
      · exact ⟨by rw [c, g], by rw [d, i]; exact h⟩
      · omega
    · rcases hm with ⟨f, -⟩ | ⟨-, f, g, i⟩ | ⟨-, f, g, F, ⟨f1, f2, f3⟩, f4⟩
      · exact absurd a f
      · omega
      · refine ⟨by rw [c, g, hi.1.F, rM_F], ?_⟩
        obtain ⟨i1, i2, i3, i4, i5, i6, i7⟩ := h
        have eM : ∀ c, c ≠ 283 → c ≠ 284 → E1 c = E c := fun c q1 q2 => by rw [f4, upD_other q1, f3 c q2]
        have m2 : E1 283 2 = E 283 2 := by rw [f4, upD_n (Or.inr (by decide)), f3 283 (by decide)]
        have m6 : E1 283 6 = 0 := by rw [f4, upD_s]
        have g1 := i1.cx (D1 := D1) (e 1 (by decide) (by decide)) (e 2 (by decide) (by decide))
        have g4 := i4.cx (D1 := D1) (fun c q0 q1 => e c (by omega) (by omega))
        have g5 := i5.cx (D1 := D1) (fun c q0 q1 => e c (by omega) (by omega))
        refine ⟨?_, ?_, ⟨⟨by omega, by omega⟩, by omega, fun k k0 k1 => by omega⟩, ?_, ?_, ?_, ?_⟩
        · unfold Itp at g1 ⊢; rw [m2, eM 285 (by decide) (by decide)]; exact g1
        · have e2 : rowM E1 284 0 = rowM E 288 (52 * k) := rowM_eq (fun i q0 q1 => by rw [f4, upD_n (Or.inl (by decide)), f1 i q0 q1])
          rw [d, e2]; exact hi
        · unfold Iim rowM at g4 ⊢; rw [eM 288 (by decide) (by decide)]; exact g4
        · unfold Ish at g5 ⊢; rw [eM 295 (by decide) (by decide), eM 296 (by decide) (by decide), eM 297 (by decide) (by decide)]; exact g5
        · unfold sOk; rw [rowX_c (D := D) (fun c q0 q1 => e c (by omega) (by omega))]; exact i6
        · unfold sOk; rw [rowX_c (D := D) (fun c q0 q1 => e c (by omega) (by omega))]; exact i7
  · rcases hx with ⟨-, b, c⟩ | ⟨b, -⟩ | ⟨b, -⟩
    · rcases hm with ⟨-, e, f⟩ | ⟨e, -⟩ | ⟨e, -⟩
      · exact ⟨by rw [b, e], by rw [c, f]; exact h⟩
      · exact absurd e a
      · exact absurd e a
    · exact absurd b a
    · exact absurd b a
/-- other sheets -/
theorem I2.shs {D E D1 E1 : Dat} (h : I2 D E) (hx : ∀ c, (c < 190 ∨ 196 ≤ c) → (c < 275 ∨ 283 ≤ c) → D1 c = D c) (hm : ∀ c, (c < 295 ∨ 297 < c) → c ≠ 298 → E1 c = E c) (hs : Ish D1 E1) : I2 D1 E1 := by
  obtain ⟨i1, i2, i3, i4, i5, i6, i7⟩ := h
  have g1 := i1.cx (D1 := D1) (hx 1 (by omega) (by omega)) (hx 2 (by omega) (by omega))
  have g3 := i3.cx (D1 := D1) (fun c q0 q1 => hx c (by omega) (by omega))
  have g4 := i4.cx (D1 := D1) (fun c q0 q1 => hx c (by omega) (by omega))
  refine ⟨?_, ?_, ?_, ?_, hs, ?_, ?_⟩
  · unfold Itp at g1 ⊢; rw [hm 283 (by decide) (by decide), hm 285 (by decide) (by decide)]; exact g1
  · rw [rowX_c (D := D) (fun c q0 q1 => hx c (by omega) (by omega)), rowM_c (hm 284 (by decide) (by decide))]; exact i2
  · unfold Ihs rowM at g3 ⊢; rw [hm 283 (by decide) (by decide), hm 287 (by decide) (by decide)]; exact g3
  · unfold Iim rowM at g4 ⊢; rw [hm 288 (by decide) (by decide)]; exact g4
  · unfold sOk; rw [rowX_c (D := D) (fun c q0 q1 => hx c (by omega) (by omega))]; exact i6
  · unfold sOk; rw [rowX_c (D := D) (fun c q0 q1 => hx c (by omega) (by omega))]; exact i7
theorem st_sheet {D E D1 E1 : Dat} {s n k v w : Int} (h : I2 D E) (hx : qX_sheet s n k D v D1) (hm : qM_sheet s n k E w E1) : v = w ∧ I2 D1 E1 := by
  rcases hx with ⟨a, b, c⟩ | ⟨a, a2, b, c⟩ | ⟨a, a2, b, c1, c2, c3, c4⟩
  · rcases hm with ⟨d, e, f⟩ | ⟨d, -⟩ | ⟨d, -⟩
    · exact ⟨by rw [b, e], by rw [c, f]; exact h⟩
    · exact absurd ⟨⟨d.1, d.2.1⟩, d.2.2⟩ a
    · exact absurd ⟨⟨d.1, d.2.1⟩, d.2.2⟩ a
  · rcases hm with ⟨d, -⟩ | ⟨d, d2, e, f⟩ | ⟨d, d2, -⟩
    · exact absurd ⟨a.1.1, a.1.2, a.2⟩ d
    · exact ⟨by rw [b, e], by rw [c, f]; exact h⟩
    · omega
  · rcases hm with ⟨d, -⟩ | ⟨d, d2, -⟩ | ⟨d, d2, e, f1, f2, f3⟩
    · exact absurd ⟨a.1.1, a.1.2, a.2⟩ d
    · omega
    · refine ⟨by rw [b, e], ?_⟩
      have hsn : shAt s.toNat = 275 + 2 * s.toNat := rfl
      have e5 : ∀ j : Int, E1 295 j = if j = s then n else E 295 j := fun j => by rw [f3 295 (by decide), upD_n (Or.inl (by decide))]; exact upD2
      have e6 : ∀ j : Int, E1 296 j = if j = s then k else E 296 j := fun j => by rw [f3 296 (by decide)]; exact (upD2).trans (by rw [upD_n (Or.inl (by decide))])
      refine h.shs (fun c q0 q1 => c4 c (by omega)) (fun c q0 q1 => by rw [f3 c (by omega), upD_other (by omega), upD_other (by omega)]) (fun z z0 z1 => ?_)
      by_cases q : z = s
      · subst q
        rw [e5, e6, if_pos rfl, if_pos rfl, c1]
        refine ⟨⟨by omega, by omega, fun i q0 q1 => by rw [c3 i q0 q1]; decide⟩, rfl, by omega, fun _ => c2, fun i q0 q1 => by rw [c3 i q0 q1, f1 i q0 q1]⟩
      · obtain ⟨x1, x2, x3, x4, x5⟩ := h.sh z z0 z1
        have hz : shAt z.toNat = 275 + 2 * z.toNat := rfl
        have y1 : D1 (shAt z.toNat) = D (shAt z.toNat) := c4 _ (by omega)
        have y2 : D1 (shAt z.toNat + 1) = D (shAt z.toNat + 1) := c4 _ (by omega)
        unfold shOk at x1 ⊢
        rw [e5, e6, if_neg q, if_neg q, y1, y2]
        refine ⟨x1, x2, x3, x4, fun i q0 q1 => ?_⟩
        rw [f2 (24 * z + i) (by omega), upD_n (Or.inl (by decide)), upD_n (Or.inl (by decide))]
        exact x5 i q0 q1
theorem st_drop {D E D1 E1 : Dat} {s v w : Int} (h : I2 D E) (hx : qX_drop s D v D1) (hm : qM_drop s E w E1) : v = w ∧ I2 D1 E1 := by
  by_cases a : 0 ≤ s ∧ s ≤ 3
  · obtain ⟨s1, s2, s3, s4, s5⟩ := h.sh s a.1 a.2
    rcases hx with ⟨b, -⟩ | ⟨-, b, c, d⟩ | ⟨-, b, c, d⟩
    · exact absurd a b
    · rcases hm with ⟨e, -⟩ | ⟨-, e, f, g⟩ | ⟨-, e, -⟩
      · exact absurd a e
      · exact ⟨by rw [c, f], by rw [d, g]; exact h⟩
      · omega
    · rcases hm with ⟨e, -⟩ | ⟨-, e, f, g⟩ | ⟨-, e, f, g⟩
      · exact absurd a e
      · have := s1.1; omega
      · refine ⟨by rw [c, f]; exact s4 (by omega), ?_⟩
        have hsn : shAt s.toNat = 275 + 2 * s.toNat := rfl
        have e5 : ∀ j : Int, E1 295 j = if j = s then -1 else E 295 j := fun j => by rw [g]; exact upD2
        refine h.shs (fun c q0 q1 => by rw [d, upD_other (by omega), upD_other (by omega)]) (fun c q0 q1 => by rw [g, upD_other (by omega)]) (fun z z0 z1 => ?_)
        have y6 : E1 296 = E 296 := by rw [g, upD_other (by decide)]
        have y7 : E1 297 = E 297 := by rw [g, upD_other (by decide)]
        obtain ⟨x1, x2, x3, x4, x5⟩ := h.sh z z0 z1
        have hz : shAt z.toNat = 275 + 2 * z.toNat := rfl
        have y2 : D1 (shAt z.toNat + 1) = D (shAt z.toNat + 1) := by rw [d, upD_other (by omega), upD_other (by omega)]
        rw [e5, y6, y7]
        by_cases q : z = s
        · subst q
          have y3 : D1 (shAt z.toNat) 1 = -1 := by rw [d, upD_n (Or.inr (by decide)), upD_s]
          have y4 : D1 (shAt z.toNat) 2 = 0 := by rw [d, upD_s]
          unfold shOk at x1 ⊢
          rw [if_pos rfl, y2, y3, y4]
          exact ⟨⟨by decide, by decide, x1.2.2⟩, rfl, x3, fun z => absurd rfl z, x5⟩
        · have y1 : D1 (shAt z.toNat) = D (shAt z.toNat) := by rw [d, upD_other (by omega), upD_other (by omega)]
          unfold shOk at x1 ⊢
          rw [if_neg q, y1, y2]
          exact ⟨x1, x2, x3, x4, x5⟩
  · rcases hx with ⟨-, b, c⟩ | ⟨b, -⟩ | ⟨b, -⟩
    · rcases hm with ⟨-, e, f⟩ | ⟨e, -⟩ | ⟨e, -⟩
      · exact ⟨by rw [b, e], by rw [c, f]; exact h⟩
      · exact absurd e a
      · exact absurd e a
    · exact absurd b a
    · exact absurd b a
/-- other items on one sheet -/
theorem I2.its {D E D1 E1 : Dat} {s : Int} (h : I2 D E) (hs : 0 ≤ s ∧ s ≤ 3) (hx : ∀ c, (c < 190 ∨ 196 ≤ c) → c ≠ shAt s.toNat + 1 → D1 c = D c) (hm : ∀ c, c ≠ 297 → c ≠ 298 → E1 c = E c) (hi : ∀ i : Int, 0 ≤ i → i < 24 → (-9223372036854775808 ≤ D1 (shAt s.toNat + 1) i ∧ D1 (shAt s.toNat + 1) i ≤ 9223372036854775807) ∧ D1 (shAt s.toNat + 1) i = E1 297 (24 * s + i)) (ho : ∀ y : Int, (y < 24 * s ∨ 24 * s + 24 ≤ y) → E1 297 y = E 297 y) : I2 D1 E1 := by
  have hsn : shAt s.toNat = 275 + 2 * s.toNat := rfl
  refine h.shs (fun c q0 q1 => hx c q0 (by omega)) (fun c q0 q1 => hm c (by omega) q1) (fun z z0 z1 => ?_)
  obtain ⟨x1, x2, x3, x4, x5⟩ := h.sh z z0 z1
  have hz : shAt z.toNat = 275 + 2 * z.toNat := rfl
  have y1 : D1 (shAt z.toNat) = D (shAt z.toNat) := hx _ (by omega) (by omega)
  rw [hm 295 (by decide) (by decide), hm 296 (by decide) (by decide)]
  by_cases q : z = s
  · subst q
    unfold shOk at x1 ⊢
    rw [y1]
    exact ⟨⟨x1.1, x1.2.1, fun i q0 q1 => (hi i q0 q1).1⟩, x2, x3, x4, fun i q0 q1 => (hi i q0 q1).2⟩
  · have y2 : D1 (shAt z.toNat + 1) = D (shAt z.toNat + 1) := hx _ (by omega) (by omega)
    unfold shOk at x1 ⊢
    rw [y1, y2]
    exact ⟨x1, x2, x3, x4, fun i q0 q1 => by rw [ho _ (by omega)]; exact x5 i q0 q1⟩
