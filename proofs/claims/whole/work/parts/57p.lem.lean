/-! the calls in step: items -/
theorem st_item {D E D1 E1 : Dat} {s n i x v w : Int} (hxr : -9223372036854775808 ≤ x ∧ x ≤ 9223372036854775807) (h : I2 D E) (hx : qX_item s n i x D v D1) (hm : qM_item s n i x E w E1) : v = w ∧ I2 D1 E1 := by
  by_cases a : (0 ≤ s ∧ s ≤ 3) ∧ (0 ≤ n ∧ n ≤ 3)
  · unfold qX_item at hx
    rw [ref_c h a.1] at hx
    rcases hx with ⟨b, -⟩ | ⟨-, b, c, d⟩ | ⟨-, b, c, d⟩
    · exact absurd a b
    · rcases hm with ⟨e, -⟩ | ⟨-, e, f, g⟩ | ⟨-, e, -⟩
      · exact absurd a e
      · exact ⟨by rw [c, f], by rw [d, g]; exact h⟩
      · omega
    · rcases hm with ⟨e, -⟩ | ⟨-, e, f, g⟩ | ⟨-, e, f, g⟩
      · exact absurd a e
      · omega
      · refine ⟨by rw [c, f], ?_⟩
        obtain ⟨x1, x2, x3, x4, x5⟩ := h.sh s a.1.1 a.1.2
        have hr := (refS_0 b).2.2
        have hsn : shAt s.toNat = 275 + 2 * s.toNat := rfl
        refine h.its (s := s) a.1 (fun c q0 q1 => by rw [d, upD_other q1]) (fun c q0 q1 => by rw [g, upD_other q0]) (fun y y0 y1 => ?_) (fun y hy => by rw [g]; exact upD_n (Or.inr (by omega)))
        have e1 : D1 (shAt s.toNat + 1) y = if y = i then cutL n x else D (shAt s.toNat + 1) y := by rw [d]; exact upD2
        have e2 : E1 297 (24 * s + y) = if 24 * s + y = 24 * s + i then cutL n x else E 297 (24 * s + y) := by rw [g]; exact upD2
        rw [e1, e2]
        by_cases q : y = i
        · rw [if_pos q, if_pos (by omega)]; exact ⟨cutL_in hxr, rfl⟩
        · rw [if_neg q, if_neg (by omega)]; exact ⟨x1.2.2 y y0 y1, x5 y y0 y1⟩
  · rcases hx with ⟨-, b, c⟩ | ⟨b, -⟩ | ⟨b, -⟩
    · rcases hm with ⟨-, e, f⟩ | ⟨e, -⟩ | ⟨e, -⟩
      · exact ⟨by rw [b, e], by rw [c, f]; exact h⟩
      · exact absurd e a
      · exact absurd e a
    · exact absurd b a
    · exact absurd b a
theorem st_copy {D E D1 E1 : Dat} {f i t j n v w : Int} (h : I2 D E) (hx : qX_copy f i t j n D v D1) (hm : qM_copy f i t j n E w E1) : v = w ∧ I2 D1 E1 := by
  by_cases a : (0 ≤ f ∧ f ≤ 3) ∧ (0 ≤ t ∧ t ≤ 3)
  · obtain ⟨f1, f2, f3, f4, f5⟩ := h.sh f a.1.1 a.1.2
    obtain ⟨t1, t2, t3, t4, t5⟩ := h.sh t a.2.1 a.2.2
    have lf := f1.1
    have lt := t1.1
    unfold qX_copy at hx
    rw [f2, t2] at hx
    rw [f2] at lf
    rw [t2] at lt
    rcases hx with ⟨b, -⟩ | ⟨-, b, c, d⟩ | ⟨-, b, b2, c, d⟩ | ⟨-, b, b2, c, d⟩ | ⟨-, b, b2, c, d⟩
    · exact absurd a b
    · rcases hm with ⟨e, -⟩ | ⟨-, e, g, k⟩ | ⟨-, e, -⟩ | ⟨-, e, -⟩ | ⟨-, e, -⟩
      · exact absurd a e
      · exact ⟨by rw [c, g], by rw [d, k]; exact h⟩
      · omega
      · omega
      · omega
    · rcases hm with ⟨e, -⟩ | ⟨-, e, g, k⟩ | ⟨-, e, e2, g, k⟩ | ⟨-, e, -⟩ | ⟨-, e, -⟩
      · exact absurd a e
      · omega
      · exact ⟨by rw [c, g], by rw [d, k]; exact h⟩
      · omega
      · omega
    · have z1 := f4 b.1
      have z2 := t4 (by rw [← b.2]; exact b.1)
      rw [z1, z2] at b2
      rcases hm with ⟨e, -⟩ | ⟨-, e, g, k⟩ | ⟨-, e, e2, g, k⟩ | ⟨-, e, e2, g, k⟩ | ⟨-, e, e2, -⟩
      · exact absurd a e
      · omega
      · omega
      · exact ⟨by rw [c, g], by rw [d, k]; exact h⟩
      · exact absurd (by omega) b2
    · have z1 := f4 b.1
      have z2 := t4 (by rw [← b.2]; exact b.1)
      rw [z1, z2] at b2
      rcases hm with ⟨e, -⟩ | ⟨-, e, g, k⟩ | ⟨-, e, e2, g, k⟩ | ⟨-, e, e2, g, k⟩ | ⟨-, e, e2, g, C, ⟨c1, c2, c3⟩, k1, k2, k3⟩
      · exact absurd a e
      · omega
      · omega
      · exact absurd (by omega) e2
      · refine ⟨by rw [c, g], ?_⟩
        have hsn : shAt t.toNat = 275 + 2 * t.toNat := rfl
        have hsf : shAt f.toNat = 275 + 2 * f.toNat := rfl
        refine h.its (s := t) a.2 (fun c q0 q1 => ?_) (fun c q0 q1 => by rw [k3 c q0, c3 c q1]) (fun y y0 y1 => ?_) (fun y hy => by rw [k2 y (by omega), c3 297 (by decide)])
        · rw [d]; funext z; unfold cpD; rw [if_neg q1]
        · have e1 : D1 (shAt t.toNat + 1) y = if j ≤ y ∧ y < j + n then D (shAt f.toNat + 1) (i + (y - j)) else D (shAt t.toNat + 1) y := by rw [d]; unfold cpD; rw [if_pos rfl]
          rw [e1]
          by_cases q : j ≤ y ∧ y < j + n
          · rw [if_pos q]
            refine ⟨f1.2.2 (i + (y - j)) (by omega) (by omega), ?_⟩
            have e3 := k1 (y - j) (by omega) (by omega)
            have e4 := c1 (y - j) (by omega) (by omega)
            rw [show 24 * t + j + (y - j) = 24 * t + y by omega] at e3
            rw [e3, e4, f5 (i + (y - j)) (by omega) (by omega)]
            congr 1; omega
          · rw [if_neg q]
            refine ⟨t1.2.2 y y0 y1, ?_⟩
            rw [k2 (24 * t + y) (by omega), c3 297 (by decide)]
            exact t5 y y0 y1
  · rcases hx with ⟨-, b, c⟩ | ⟨b, -⟩ | ⟨b, -⟩ | ⟨b, -⟩ | ⟨b, -⟩
    · rcases hm with ⟨-, e, g⟩ | ⟨e, -⟩ | ⟨e, -⟩ | ⟨e, -⟩ | ⟨e, -⟩
      · exact ⟨by rw [b, e], by rw [c, g]; exact h⟩
      · exact absurd e a
      · exact absurd e a
      · exact absurd e a
      · exact absurd e a
    · exact absurd b a
    · exact absurd b a
    · exact absurd b a
    · exact absurd b a
theorem st_log {D E D1 E1 : Dat} {s n i k v w : Int} (h : I2 D E) (hx : qX_log s n i k D v D1) (hm : qM_log s n i k E w E1) : v = w ∧ I2 D1 E1 := by
  have hn := h.n
  have h8 := h.n8
  by_cases a : ((0 ≤ s ∧ s ≤ 3) ∧ (0 ≤ n ∧ n ≤ 3)) ∧ (1 ≤ k ∧ k ≤ 24)
  · unfold qX_log at hx
    rw [ref_c h a.1.1] at hx
    rcases hx with ⟨b, -⟩ | ⟨-, b, c, d⟩ | ⟨-, b, b2, c, d⟩ | ⟨-, b, b2, c, d1, d2, d3⟩
    · exact absurd a b
    · rcases hm with ⟨e, -⟩ | ⟨-, e, f, g⟩ | ⟨-, e, -⟩ | ⟨-, e, -⟩
      · exact absurd a e
      · exact ⟨by rw [c, f], by rw [d, g]; exact h⟩
      · omega
      · omega
    · rcases hm with ⟨e, -⟩ | ⟨-, e, f, g⟩ | ⟨-, e, e2, f, g⟩ | ⟨-, e, e2, -⟩
      · exact absurd a e
      · omega
      · exact ⟨by rw [c, f], by rw [d, g]; exact h⟩
      · omega
    · rcases hm with ⟨e, -⟩ | ⟨-, e, f, g⟩ | ⟨-, e, e2, f, g⟩ | ⟨-, e, e2, f, g1, g2, g3⟩
      · exact absurd a e
      · omega
      · omega
      · refine ⟨by rw [c, f], ?_⟩
        obtain ⟨x1, x2, x3, x4, x5⟩ := h.sh s a.1.1.1 a.1.1.2
        have hr := (refS_0 b).2.2
        have hV := h.v b2
        rw [h.z0] at g1
        refine h.its (s := s) a.1.1 (fun c q0 q1 => d3 c q1 q0) (fun c q0 q1 => g3 c q0) (fun y y0 y1 => ?_) (fun y hy => g2 y (by omega))
        by_cases q : i ≤ y ∧ y < i + k
        · have e3 := d1 (y - i).toNat (by omega)
          have e4 := g1 (y - i).toNat (by omega)
          rw [show i + (((y - i).toNat : Nat) : Int) = y by omega] at e3
          rw [show 24 * s + i + (((y - i).toNat : Nat) : Int) = 24 * s + y by omega] at e4
          have hb := bhR_in (r := rowX D 11) (z := cSeq (rowX D 11) (D 11 7 * 8 + D 11 8) (y - i).toNat) (m := mvC (rowX D 11) (cSeq (rowX D 11) (D 11 7 * 8 + D 11 8) (y - i).toNat) (((y - i).toNat : Nat) % 2)) h.s11.2.1
          have e5 : cSeq (rowX D 11) (D 11 7 * 8 + D 11 8) ((y - i).toNat + 1) = bhR (rowX D 11) (cSeq (rowX D 11) (D 11 7 * 8 + D 11 8) (y - i).toNat) (mvC (rowX D 11) (cSeq (rowX D 11) (D 11 7 * 8 + D 11 8) (y - i).toNat) (((y - i).toNat : Nat) % 2)) := by rw [cSeq]
          rw [← e5] at hb
          rw [e3, e4, ← hV.1.seq]
          exact ⟨by omega, rfl⟩
        · rw [d2 y (by omega), g2 (24 * s + y) (by omega)]
          exact ⟨x1.2.2 y y0 y1, x5 y y0 y1⟩
  · rcases hx with ⟨-, b, c⟩ | ⟨b, -⟩ | ⟨b, -⟩ | ⟨b, -⟩
    · rcases hm with ⟨-, e, f⟩ | ⟨e, -⟩ | ⟨e, -⟩ | ⟨e, -⟩
      · exact ⟨by rw [b, e], by rw [c, f]; exact h⟩
      · exact absurd e a
      · exact absurd e a
      · exact absurd e a
    · exact absurd b a
    · exact absurd b a
    · exact absurd b a
