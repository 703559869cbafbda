/-- what a state that is queued does -/
def enqQ (D D1 : Dat) (v z s e : Int) : Prop := ((z < 0 ∨ 3328 ≤ e) ∧ v = e ∧ D1 = D) ∨ ((0 ≤ z ∧ e < 3328) ∧ bitW (D 195) (z * 256 + sb s (z / 8)) ∧ v = e ∧ D1 = D) ∨ ((0 ≤ z ∧ e < 3328) ∧ ¬ bitW (D 195) (z * 256 + sb s (z / 8)) ∧ v = e + 1 ∧ D1 = upD (upD D 195 ((z * 256 + sb s (z / 8)) / 32) (iOr (D 195 ((z * 256 + sb s (z / 8)) / 32)) (iShl 1 ((z * 256 + sb s (z / 8)) % 32)))) 194 e (z * 256 + sb s (z / 8)))
theorem xq_step {r : Row} {t0 al : Int} {E W : Dat} {e v la n k m y sn : Int} (hc : cntB (lkB r) 64 ≤ 26) (hs : sym r) (hn8 : rN r ≤ 8) (hI : bfI r (E 194) (bitW (E 195)) e) (hL : bfL r t0 al (E 194) e la n) (hD : bfD r al (E 194) (bitW (E 195)) k) (hM : bfM r (E 194) (bitW (E 195)) k m) (hk : 0 ≤ k ∧ k < la) (hm : 0 ≤ m ∧ m ≤ 2) (hy : y = bhR r (E 194 k / 256) m) (hsn : sn = E 194 k % 256) (hq : enqQ E W v y sn e) : bfI r (W 194) (bitW (W 195)) v ∧ bfL r t0 al (W 194) v la n ∧ bfD r al (W 194) (bitW (W 195)) k ∧ bfM r (W 194) (bitW (W 195)) k (m + 1) ∧ W 194 k = E 194 k ∧ frm 194 2 E W := by
  have hle := hL.1
  have he := hI.lx hc
  have hok := (hI.2.1 k hk.1 (by omega)).1
  have hx : nxS r (E 194 k) m = if y < 0 then -4 else y * 256 + sb sn (y / 8) := by
    unfold nxS
    rw [← hy, ← hsn]
    split
    · rfl
    · omega
  have hns := nxS_ok hs hn8 hok hm
  have keep : W = E → v = e → (nxS r (E 194 k) m < 0 ∨ bitW (E 195) (nxS r (E 194 k) m)) → bfI r (W 194) (bitW (W 195)) v ∧ bfL r t0 al (W 194) v la n ∧ bfD r al (W 194) (bitW (W 195)) k ∧ bfM r (W 194) (bitW (W 195)) k (m + 1) ∧ W 194 k = E 194 k ∧ frm 194 2 E W := fun h1 h2 h3 => by
    subst h1 h2
    exact ⟨hI, hL, hD, hM.no h3, rfl, frm.rf⟩
  rcases hq with ⟨h1, h2, h3⟩ | ⟨h1, h2, h3, h4⟩ | ⟨h1, h2, h3, h4⟩
  · refine keep h3 h2 ?_
    by_cases q : y < 0
    · left; rw [hx, if_pos q]; omega
    · right
      rcases hns with w | w
      · rw [hx, if_neg q] at w
        have := bhR_in (r := r) (z := E 194 k / 256) (m := m) hn8
        have := sb_in (x := sn) (k := y / 8) (by omega) (by omega)
        omega
      · by_cases b : bitW (E 195) (nxS r (E 194 k) m)
        · exact b
        · have := hI.ltx hc w b; omega
  · refine keep h4 h3 (Or.inr ?_)
    rw [hx, if_neg (by omega)]; exact h2
  · have ht : nxS r (E 194 k) m = y * 256 + sb sn (y / 8) := by rw [hx, if_neg (by omega)]
    have hb1 := bhR_in (r := r) (z := E 194 k / 256) (m := m) hn8
    have hb2 := sb_in (x := sn) (k := y / 8) (by omega) (by omega)
    have hb3 : 0 ≤ y * 256 + sb sn (y / 8) := by omega
    clear hb1 hb2
    generalize y * 256 + sb sn (y / 8) = t at *
    rcases hns with w | w
    · rw [ht] at w; omega
    · rw [ht] at w
      have ha := xq_ad (E := E) (e := e) (t := t) w.1.1
      rw [← h4] at ha
      rw [h3]
      refine ⟨hI.ad ha w h2, hL.ad hI.1 ha hk hm ht w.1.1, bfD.ad hs hn8 hI hD ha (by omega), bfM.ad hs hn8 hI hM ha (by omega) hm ht, ha.1 k hk.1 (by omega), ?_⟩
      rw [h4]
      exact (frm.rf.up (by omega)).up (by omega)
theorem xq_0 {r : Row} {al : Int} {E W : Dat} {v z : Int} (hz : zOk r z) (he : ∀ i : Int, 0 ≤ i → i < 512 → E 195 i = 0) (hq : enqQ E W v z 0 0) : v = 1 ∧ bfI r (W 194) (bitW (W 195)) 1 ∧ bfL r (256 * z + pw (z / 8)) al (W 194) 1 1 0 ∧ bfD r al (W 194) (bitW (W 195)) 0 ∧ frm 194 2 E W := by
  have h0 := hz.1
  have ht := t0_x hz
  have e1 : z * 256 + sb 0 (z / 8) = 256 * z + pw (z / 8) := by
    have : sb 0 (z / 8) = pw (z / 8) := by unfold sb pw; simp
    omega
  unfold enqQ at hq
  rw [e1] at hq
  generalize 256 * z + pw (z / 8) = t at *
  have hno : ¬ bitW (E 195) t := bitW_0 (he (t / 32) (by have := ht.1; omega) (by have := ht.1; omega))
  rcases hq with ⟨h1, -⟩ | ⟨-, h2, -⟩ | ⟨h1, h2, h3, h4⟩
  · omega
  · exact absurd h2 hno
  · have ha := xq_ad (E := E) (e := 0) (t := t) ht.1.1
    rw [← h4] at ha
    have hb := bf_0 (r := r) (t0 := t) (Q := W 194) (S := bitW (W 195)) (al := al) ht ha.2.1 (fun x x0 x1 => (ha.2.2 x x0 x1).trans ⟨fun q => q.elim (fun w => absurd w (bitW_0 (he (x / 32) (by omega) (by omega)))) id, fun q => Or.inr q⟩)
    exact ⟨by omega, hb.1, hb.2.1, hb.2.2, by rw [h4]; exact (frm.rf.up (by omega)).up (by omega)⟩
