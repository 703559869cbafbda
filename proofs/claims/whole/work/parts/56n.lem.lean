/-! the calls in step: those that change nothing that is kept -/
theorem st_picture {D E : Dat} (h : I2 D E) (p w : Int) : qX_picture p w D = qM_picture p w E := h.R.1.pic p w
theorem st_as {D E : Dat} (h : I2 D E) (p k : Int) : qX_as p k D = qM_as p k E := h.R.1.as p k
theorem st_count {D E : Dat} (h : I2 D E) (w : Int) : qX_count w D = qM_count w E := by
  unfold qX_count qM_count
  rw [h.R.1.cnt, h.2.2.1.2.1, h.1.1]
theorem I2.bn {D E : Dat} (h : I2 D E) (h0 : D 11 6 ≠ 0) {s : Int} (hs : 0 ≤ s ∧ s ≤ 1) : bnM E s = thX (rowX D 11) (D 11 7) (D 11 8) s := by
  have hn := h.n
  have h8 := h.n8.1
  have hf := h.fb h0
  rw [gd_bn (h.gM (by omega)) (by omega), ← h.f, ← h.b]
  exact (h.R.1.th (by omega) (by omega)).symm
theorem st_brings {D E : Dat} (h : I2 D E) (s : Int) : qX_brings s D = qM_brings s E := by
  have hn := h.n
  have h8 := h.n8.1
  unfold qX_brings qM_brings
  by_cases q : 0 ≤ s ∧ s ≤ 1
  · rw [if_pos q, if_pos q]
    by_cases w : 0 < D 11 6
    · rw [if_pos w, if_pos (show 0 < E 284 0 by omega), h.bn (by omega) q]
    · rw [if_neg w, if_neg (show ¬ 0 < E 284 0 by omega)]
  · rw [if_neg q, if_neg q]
theorem st_reach {D E D1 E1 : Dat} {v w : Int} (h : I2 D E) (hx : qX_reach D v D1) (hm : qM_reach E w E1) : v = w ∧ I2 D1 E1 := by
  have hn := h.n
  have h8 := h.n8.1
  rcases hx with ⟨a, b, c⟩ | ⟨a, b, c⟩
  · rcases hm with ⟨d, e, f⟩ | ⟨d, e, f⟩
    · exact ⟨by rw [b, e], by rw [c, f]; exact h⟩
    · omega
  · rcases hm with ⟨d, e, f⟩ | ⟨d, e, f⟩
    · omega
    · refine ⟨?_, (h.cx (exX.fr c (by omega) h.s8)).cm (exM.of (fun c hc => f c (by omega) (by omega)))⟩
      rw [h.z0] at e
      exact isReach_uniq ((h.v a).1.reach b) e
theorem st_tour {D E D1 E1 : Dat} {v w : Int} (h : I2 D E) (hx : qX_tour D v D1) (hm : qM_tour E w E1) : v = w ∧ I2 D1 E1 := by
  have hn := h.n
  have h8 := h.n8.1
  rcases hx with ⟨a, b, c⟩ | ⟨a, ⟨al, b1, b2⟩, c⟩
  · rcases hm with ⟨d, e, f⟩ | ⟨d, e, f⟩
    · exact ⟨by rw [b, e], by rw [c, f]; exact h⟩
    · omega
  · rcases hm with ⟨d, e, f⟩ | ⟨d, ⟨al2, e1, e2⟩, f⟩
    · omega
    · refine ⟨?_, (h.cx (exX.fr c (by omega) h.s8)).cm (exM.of (fun c hc => f c (by omega) (by omega)))⟩
      rw [h.z0] at e1
      have ea := isReach_uniq ((h.v a).1.reach b1) e1
      have hf := h.fb a
      have et : tS0 E = 256 * (D 11 7 * 8 + D 11 8) + pw ((D 11 7 * 8 + D 11 8) / 8) := by
        unfold tS0
        rw [h.z0, ← h.f, show (D 11 7 * 8 + D 11 8) / 8 = D 11 7 by omega]
      rw [et, ← ea] at e2
      exact isTour_uniq ((h.v a).1.tour b2) e2
theorem st_round {D E D1 E1 : Dat} {x v w : Int} (h : I2 D E) (hx : qX_round x D v D1) (hm : qM_round x E w E1) : v = w ∧ I2 D1 E1 := by
  have hn := h.n
  have h8 := h.n8.1
  rcases hx with ⟨a0, b, c⟩ | ⟨a0, a, b, c⟩ | ⟨a0, a, ⟨i, j, b1, b2⟩, c⟩
  · rcases hm with ⟨d0, e, f⟩ | ⟨d0, d, e, f⟩ | ⟨d0, d, e, f⟩
    · exact ⟨by rw [b, e], by rw [c, f]; exact h⟩
    · exact absurd d0 a0
    · exact absurd d0 a0
  · rcases hm with ⟨d0, e, f⟩ | ⟨d0, d, e, f⟩ | ⟨d0, d, e, f⟩
    · exact absurd a0 d0
    · exact ⟨by rw [b, e], by rw [c, f]; exact h⟩
    · omega
  · rcases hm with ⟨d0, e, f⟩ | ⟨d0, d, e, f⟩ | ⟨d0, d, ⟨i2, j2, e1, e2⟩, f⟩
    · exact absurd a0 d0
    · omega
    · refine ⟨?_, (h.cx (exX.fr c (by omega) h.s8)).cm (exM.of (fun c hc => f c (by omega)))⟩
      rw [h.z0] at e1
      obtain ⟨g1, g2⟩ := isCirc_uniq ((h.v a).1.circ b1) e1
      rw [b2, e2, g1, g2]
theorem st_way {D E D1 E1 : Dat} {p k v w : Int} (h : I2 D E) (hx : qX_way p k D v D1) (hm : qM_way p k E w E1) : v = w ∧ I2 D1 E1 := by
  have hn := h.n
  have h8 := h.n8.1
  rcases hx with ⟨a, b, c⟩ | ⟨a, ⟨L, b1, b2⟩, c⟩
  · rcases hm with ⟨d, e, f⟩ | ⟨d, e, f⟩
    · exact ⟨by rw [b, e], by rw [c, f]; exact h⟩
    · exact absurd ⟨by omega, d.2⟩ a
  · rcases hm with ⟨d, e, f⟩ | ⟨d, ⟨M, e1, e2⟩, f⟩
    · exact absurd ⟨by omega, a.2⟩ d
    · have a0 : D 11 6 ≠ 0 := by omega
      refine ⟨?_, (h.cx (exX.fr c (by omega) h.s8)).cm (exM.of (fun c hc => f c (by omega)))⟩
      rw [h.z0] at e2
      rw [b2, e2]
      exact (h.v a0).way b1 e1 (zR_x (h.gX a0).1) a.2
theorem st_hand {D E D1 E1 : Dat} {p n q x v w : Int} (h : I2 D E) (hx : qX_hand p n q x D v D1) (hm : qM_hand p n q x E w E1) : v = w ∧ I2 D1 E1 := by
  have hn := h.n
  unfold qM_hand at hm
  rw [← hn] at hm
  rcases hx with ⟨a, b, c⟩ | ⟨a, b, c⟩
  · rcases hm with ⟨d, e, f⟩ | ⟨d, e, f⟩
    · exact ⟨by rw [b, e], by rw [c, f]; exact h⟩
    · exact absurd d a
  · rcases hm with ⟨d, e, f⟩ | ⟨d, e, f⟩
    · exact absurd a d
    · refine ⟨?_, (h.cx (exX.fr c (by omega) h.s8)).cm (exM.bk f)⟩
      rw [b, e, rV.parts n.toNat (h.v (by omega))]
theorem st_duel {D E D1 E1 : Dat} {n v w : Int} (h : I2 D E) (hx : qX_duel n D v D1) (hm : qM_duel n E w E1) : v = w ∧ I2 D1 E1 := by
  have hn := h.n
  have h8 := h.n8.1
  rcases hx with ⟨a0, b, c⟩ | ⟨a0, a, b, c⟩ | ⟨a0, a, b, c⟩
  · rcases hm with ⟨d0, e, f⟩ | ⟨d0, d, e, f⟩ | ⟨d0, d, e, f⟩
    · exact ⟨by rw [b, e], by rw [c, f]; exact h⟩
    · exact absurd d0 a0
    · exact absurd d0 a0
  · rcases hm with ⟨d0, e, f⟩ | ⟨d0, d, e, f⟩ | ⟨d0, d, e, f⟩
    · exact absurd a0 d0
    · exact ⟨by rw [b, e], by rw [c, f]; exact h⟩
    · omega
  · rcases hm with ⟨d0, e, f⟩ | ⟨d0, d, e, f⟩ | ⟨d0, d, e, f⟩
    · exact absurd a0 d0
    · omega
    · refine ⟨?_, (h.cx (exX.fr c (by omega) h.s8)).cm (exM.bk f)⟩
      rw [b, e, rV.gain n.toNat (h.v a)]
theorem st_decades {D E D1 E1 : Dat} {n x y v w : Int} (h : I2 D E) (hx : qX_decades n x y D v D1) (hm : qM_decades n x y E w E1) : v = w ∧ I2 D1 E1 := by
  have hn := h.n
  have h8 := h.n8.1
  rcases hx with ⟨a0, b, c⟩ | ⟨a0, a, b, c⟩ | ⟨a0, a, b, c⟩
  · rcases hm with ⟨d0, e, f⟩ | ⟨d0, d, e, f⟩ | ⟨d0, d, e, f⟩
    · exact ⟨by rw [b, e], by rw [c, f]; exact h⟩
    · exact absurd d0 a0
    · exact absurd d0 a0
  · rcases hm with ⟨d0, e, f⟩ | ⟨d0, d, e, f⟩ | ⟨d0, d, e, f⟩
    · exact absurd a0 d0
    · exact ⟨by rw [b, e], by rw [c, f]; exact h⟩
    · omega
  · rcases hm with ⟨d0, e, f⟩ | ⟨d0, d, e, f⟩ | ⟨d0, d, e, f⟩
    · exact absurd a0 d0
    · omega
    · refine ⟨?_, (h.cx (exX.fr c (by omega) h.s8)).cm (exM.bk f)⟩
      have g := (rV.draw n.toNat x (h.v a)).1
      rw [b, e, g.E, g.F]
theorem ref_c {D E : Dat} (h : I2 D E) {s n i k : Int} (hs : 0 ≤ s ∧ s ≤ 3) : refS (D (shAt s.toNat) 1) (D (shAt s.toNat) 2) n i k = refS (E 295 s) (E 296 s) n i k := by
  obtain ⟨-, b, -, d, -⟩ := h.sh s hs.1 hs.2
  rw [b]
  by_cases q : E 295 s = -1
  · unfold refS; rw [if_pos q, if_pos q]
  · rw [d q]
theorem sameI {D E : Dat} (h : I2 D E) {s n i k : Int} (hs : 0 ≤ s ∧ s ≤ 3) (h0 : refS (E 295 s) (E 296 s) n i k = 0) : sameF (D (shAt s.toNat + 1)) (E 297) i (24 * s + i) k ∧ (0 ≤ k ∧ k ≤ E 296 s ∧ 0 ≤ i ∧ i ≤ E 296 s - k) := by
  obtain ⟨-, -, c, -, e⟩ := h.sh s hs.1 hs.2
  have r := (refS_0 h0).2.2
  refine ⟨fun j j0 j1 => ?_, r⟩
  rw [e (i + j) (by omega) (by omega), show 24 * s + i + j = 24 * s + (i + j) by omega]
theorem st_kinds {D E : Dat} (h : I2 D E) (s n i k w : Int) : qX_kinds s n i k w D = qM_kinds s n i k w E := by
  unfold qX_kinds qM_kinds
  by_cases q : (((0 ≤ s ∧ s ≤ 3) ∧ (0 ≤ n ∧ n ≤ 3)) ∧ (1 ≤ k ∧ k ≤ 10)) ∧ (0 ≤ w ∧ w ≤ 1)
  · rw [if_pos q, if_pos q, ref_c h q.1.1.1]
    by_cases z : refS (E 295 s) (E 296 s) n i (2 * k) < 0
    · rw [if_pos z, if_pos z]
    · rw [if_neg z, if_neg z]
      have r := refS_in (E 295 s) (E 296 s) n i (2 * k)
      exact knd_eq (by omega) (sameI (n := n) (i := i) (k := 2 * k) h q.1.1.1 (by omega)).1
  · rw [if_neg q, if_neg q]
theorem st_foldings {D E D1 E1 : Dat} {s n i m x v w : Int} (h : I2 D E) (hx : qX_foldings s n i m x D v D1) (hm : qM_foldings s n i m x E w E1) : v = w ∧ I2 D1 E1 := by
  have hn := h.n
  have h8 := h.n8
  obtain ⟨hx, hf, h24⟩ := hx
  have hI : I2 D1 E := h.cx ⟨fun c hc => hf c (by omega), h24⟩
  have hc : ((((D 11 6 ≠ 0 ∧ (0 ≤ s ∧ s ≤ 3)) ∧ (0 ≤ n ∧ n ≤ 3)) ∧ (0 ≤ m ∧ m ≤ 8)) ∧ (0 ≤ x ∧ x ≤ 2)) ↔ ((((0 < E 284 0 ∧ (0 ≤ s ∧ s ≤ 3)) ∧ (0 ≤ n ∧ n ≤ 3)) ∧ (0 ≤ m ∧ m ≤ 8)) ∧ (0 ≤ x ∧ x ≤ 2)) := by omega
  by_cases q : (((D 11 6 ≠ 0 ∧ (0 ≤ s ∧ s ≤ 3)) ∧ (0 ≤ n ∧ n ≤ 3)) ∧ (0 ≤ m ∧ m ≤ 8)) ∧ (0 ≤ x ∧ x ≤ 2)
  · have q2 := hc.1 q
    have er := ref_c h (n := n) (i := i) (k := 2 + 2 * m) q.1.1.1.2
    rw [show 2 + 2 * m = 2 * m + 2 by omega] at er
    unfold qM_foldings at hm
    rw [show 2 + 2 * m = 2 * m + 2 by omega, er] at hx
    have ri := refS_in (E 295 s) (E 296 s) n i (2 * m + 2)
    by_cases z : refS (E 295 s) (E 296 s) n i (2 * m + 2) < 0
    · rcases hx with ⟨a, -⟩ | ⟨-, -, b⟩ | ⟨⟨-, a⟩, -⟩ | ⟨⟨-, a⟩, -⟩ | ⟨⟨-, a⟩, -⟩
      · exact absurd q a
      · rcases hm with ⟨d, -⟩ | ⟨-, -, e, f⟩ | ⟨⟨-, d⟩, -⟩ | ⟨⟨-, d⟩, -⟩ | ⟨⟨-, d⟩, -⟩
        · exact absurd q2 d
        · exact ⟨by rw [b, e], by rw [f]; exact hI⟩
        · omega
        · omega
        · omega
      · omega
      · omega
      · omega
    · have z0 : refS (E 295 s) (E 296 s) n i (2 * m + 2) = 0 := by omega
      obtain ⟨hsame, hr⟩ := sameI h q.1.1.1.2 z0
      have ew : whB (D (shAt s.toNat + 1)) (D 11 6) i m.toNat = whB (E 297) (E 284 0) (24 * s + i) m.toNat := by
        rw [hn]; exact whB_f hsame m.toNat (by omega)
      rw [ew] at hx
      have a0 : D 11 6 ≠ 0 := q.1.1.1.1
      have hV := h.v a0
      rcases hx with ⟨a, -⟩ | ⟨-, a, -⟩ | ⟨-, a, b⟩ | ⟨-, a, b, c⟩ | ⟨-, a, b, c⟩
      · exact absurd q a
      · omega
      · rcases hm with ⟨d, -⟩ | ⟨-, d, -⟩ | ⟨-, d, e, f⟩ | ⟨-, d, e, f⟩ | ⟨-, d, e, f⟩
        · exact absurd q2 d
        · omega
        · exact ⟨by rw [b, e], by rw [f]; exact hI⟩
        · rw [a] at d; cases d
        · rw [a] at d; cases d
      · rcases hm with ⟨d, -⟩ | ⟨-, d, -⟩ | ⟨-, d, e, f⟩ | ⟨-, d, e, e2, f⟩ | ⟨-, d, e, f⟩
        · exact absurd q2 d
        · omega
        · rw [a] at d; cases d
        · refine ⟨?_, by rw [f]; exact hI⟩
          have gd := hV.2.1.gd.1
          have wX : whB (D (shAt s.toNat + 1)) (D 11 6) i m.toNat = true := by rw [ew]; exact a
          have g := (gs_eq (L := rL (rowX D 11)) (N := D 11 6) (f := D (shAt s.toNat + 1)) (o := i) (n := m) (by omega) (fun a b a0 a1 b0 b1 => gd.2.1 a b a0 (by rw [xN]; exact a1) b0 (by rw [xN]; exact b1)) (fun a b s a0 a1 b0 b1 hl hs => gd.2.2.1 a b s a0 (by rw [xN]; exact a1) b0 (by rw [xN]; exact b1) hl hs) (by omega) wX).1
          rw [c, e2, ← g, gsM_f hsame (by omega) (by omega), hn]
          rw [gsM_c (L := rL (rowX D 11)) (L2 := fun p => E 284 (44 + p)) (f := E 297) (o := 24 * s + i) (N := E 284 0) (n := m) (by omega) (by omega) d (fun p p0 p1 => by rw [hV.1.2 p p0 p1]; exact mL ⟨p0, p1⟩)]
        · exact absurd b e
      · rcases hm with ⟨d, -⟩ | ⟨-, d, -⟩ | ⟨-, d, e, f⟩ | ⟨-, d, e, f⟩ | ⟨-, d, e, e2, f1, f2⟩
        · exact absurd q2 d
        · omega
        · rw [a] at d; cases d
        · exact absurd e b
        · have wX : whB (D (shAt s.toNat + 1)) (D 11 6) i m.toNat = true := by rw [ew]; exact a
          obtain ⟨N, eN⟩ : ∃ N : Nat, D 11 6 = N := ⟨(D 11 6).toNat, by omega⟩
          refine ⟨?_, hI.cm ⟨f2 2 (by omega), f2 6 (by omega), rowM_c (f1 284 (by decide) (by decide) (by decide) (by decide) (by decide) (by decide) (by decide)), f1 _ (by decide) (by decide) (by decide) (by decide) (by decide) (by decide) (by decide), f1 _ (by decide) (by decide) (by decide) (by decide) (by decide) (by decide) (by decide), f1 _ (by decide) (by decide) (by decide) (by decide) (by decide) (by decide) (by decide), f1 _ (by decide) (by decide) (by decide) (by decide) (by decide) (by decide) (by decide), f1 _ (by decide) (by decide) (by decide) (by decide) (by decide) (by decide) (by decide), f1 _ (by decide) (by decide) (by decide) (by decide) (by decide) (by decide) (by decide)⟩⟩
          rw [eN] at wX c
          rw [← hn, eN] at e2
          rw [Int.toNat_natCast] at c e2
          rw [c, e2, fd_eq (by omega) (by omega) wX]
          exact fdA_f hsame (by omega) (by omega)
  · have q2 : ¬ ((((0 < E 284 0 ∧ (0 ≤ s ∧ s ≤ 3)) ∧ (0 ≤ n ∧ n ≤ 3)) ∧ (0 ≤ m ∧ m ≤ 8)) ∧ (0 ≤ x ∧ x ≤ 2)) := fun z => q (hc.2 z)
    rcases hx with ⟨-, b⟩ | ⟨a, -⟩ | ⟨⟨a, -⟩, -⟩ | ⟨⟨a, -⟩, -⟩ | ⟨⟨a, -⟩, -⟩
    · rcases hm with ⟨-, e, f⟩ | ⟨d, -⟩ | ⟨⟨d, -⟩, -⟩ | ⟨⟨d, -⟩, -⟩ | ⟨⟨d, -⟩, -⟩
      · exact ⟨by rw [b, e], by rw [f]; exact hI⟩
      · exact absurd d q2
      · exact absurd d q2
      · exact absurd d q2
      · exact absurd d q2
    · exact absurd a q
    · exact absurd a q
    · exact absurd a q
    · exact absurd a q
