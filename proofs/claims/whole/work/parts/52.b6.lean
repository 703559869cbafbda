set_option maxHeartbeats 4000000 in
set_option maxRecDepth 100000 in
theorem zX9_reach {g : Gm} {l : Launch} {D : Dat} (ho : sOk D 11) (hg0 : D 11 6 ≠ 0 → gdX (rowX D 11)) : CrI g l 6 mX9_reach [vR 0] D (fun v D1 => (D 11 6 = 0 ∧ v = -2 ∧ D1 = D) ∨ (D 11 6 ≠ 0 ∧ isReach (rowX D 11) (D 11 7 * 8 + D 11 8) v ∧ frm 190 6 D D1)) := by
  refine Cr.ofI (lo0 := [vR 0]) (by decide) (Nat.le_of_ble_eq_true rfl) rfl (fun J hA hR => ?_)
  have hn := ho.n
  have hf := ho.f
  have hb := ho.b
  refine q_aload_n (j := 0) hA rfl dX9_reach_0 ?_
  refine q_getR hA f_X9_26 dX9_reach_1 sx_0 (by decide) fx_0_2 ?_
  refine q_callVB (b := 11) (As := []) (st := []) hA l_X9_139 kX7_isMissing (zX7_isMissing isS11 ho) dX9_reach_4 rfl rfl (strS isS11) (by decide) rfl (Nat.le_of_ble_eq_true rfl) (by omega) (fun h4 => ?_) (fun h4 => ?_)
  · refine q_if_eq (tgt := 13) hA (by decide) dX9_reach_7 (by decide) (fun h7 => absurd h7 (by decide)) (fun h7 => ?_)
    refine q_bipush hA (by decide) dX9_reach_10 ?_
    exact hR 12 _ _ _ dX9_reach_12 (by exact Or.inl ⟨h4, rfl, rfl⟩)
  · refine q_if_eq (tgt := 13) hA (by decide) dX9_reach_7 (by decide) (fun h7 => ?_) (fun h7 => absurd h7 (by decide))
    refine q_aload_n (j := 0) hA rfl dX9_reach_13 ?_
    refine q_getR hA f_X9_50 dX9_reach_14 sx_0 (by decide) fx_0_6 ?_
    refine q_aload_n (j := 0) hA rfl dX9_reach_17 ?_
    refine q_getR hA f_X9_26 dX9_reach_18 sx_0 (by decide) fx_0_2 ?_
    refine q_callVV (b := 190) (As := [vR 11]) (st := []) hA l_X9_195 kX4_lay (zX4_lay isS11 ho) dX9_reach_21 rfl rfl sx_190 (by decide) rfl (Nat.le_of_ble_eq_true rfl) (by omega) (fun D21 q21 => ?_)
    obtain ⟨l1, l2, l3⟩ := q21
    have hgx := hg0 (by omega)
    have hgd := hgx.1
    have hsy := hgd.2.1
    have hn8 := hgd.1.2.1.2.1
    have hz0 : zOk (rowX D 11) (D21 190 5) := by rw [l1]; exact zR_x hgd
    refine q_aload_n (j := 0) hA rfl dX9_reach_24 ?_
    refine q_getR hA f_X9_50 dX9_reach_25 sx_0 (by decide) fx_0_6 ?_
    refine q_callVI (b := 190) (As := []) (st := []) hA l_X9_198 kX4_reached (zX4_reached l2 hsy hn8 hgx.2.1 hz0) dX9_reach_28 rfl rfl sx_190 (by decide) rfl (Nat.le_of_ble_eq_true rfl) (by omega) (fun v28 D28 q28 => ?_)
    exact hR 31 _ _ _ dX9_reach_31 (by exact Or.inr ⟨h4, by rw [← l1]; exact q28.1, fun c hc => by rw [q28.2]; exact l3 c (by omega)⟩)
set_option maxHeartbeats 4000000 in
set_option maxRecDepth 100000 in
theorem zX9_round {g : Gm} {l : Launch} {D : Dat} (ho : sOk D 11) (hg0 : D 11 6 ≠ 0 → gdX (rowX D 11)) {w : Int} (rw : -2147483648 ≤ w ∧ w ≤ 2147483647) : CrI g l 6 mX9_round [vR 0, vI w] D (fun v D1 => (¬ (0 ≤ w ∧ w ≤ 1) ∧ v = -1 ∧ D1 = D) ∨ ((0 ≤ w ∧ w ≤ 1) ∧ D 11 6 = 0 ∧ v = -2 ∧ D1 = D) ∨ ((0 ≤ w ∧ w ≤ 1) ∧ D 11 6 ≠ 0 ∧ (∃ i j : Nat, isCirc (rowX D 11) (D 11 7 * 8 + D 11 8) i j ∧ v = if w = 0 then (i : Int) else (j : Int) - i) ∧ frm 190 6 D D1)) := by
  refine Cr.ofI (lo0 := [vR 0, vI w]) (by decide) (Nat.le_of_ble_eq_true rfl) rfl (fun J hA hR => ?_)
  have hn := ho.n
  have hf := ho.f
  have hb := ho.b
  refine q_iload_n (j := 1) hA rfl dX9_round_0 ?_
  refine q_iconst hA dX9_round_1 ?_
  refine q_iconst hA dX9_round_2 ?_
  refine q_callSB (As := [vI w, vI 0, vI 1]) (st := []) hA l_X9_69 kX9_isWithin (zX9_isWithin (by first | assumption | omega | rfl) (by first | assumption | omega | rfl) (by first | assumption | omega | rfl)) dX9_round_3 rfl rfl (Nat.le_of_ble_eq_true rfl) (by omega) (fun h3 => ?_) (fun h3 => ?_)
  · refine q_if_ne (tgt := 11) hA (by decide) dX9_round_6 (by decide) (fun h6 => ?_) (fun h6 => absurd h6 (by decide))
    refine q_aload_n (j := 0) hA rfl dX9_round_11 ?_
    refine q_getR hA f_X9_26 dX9_round_12 sx_0 (by decide) fx_0_2 ?_
    refine q_callVB (b := 11) (As := []) (st := []) hA l_X9_139 kX7_isMissing (zX7_isMissing isS11 ho) dX9_round_15 rfl rfl (strS isS11) (by decide) rfl (Nat.le_of_ble_eq_true rfl) (by omega) (fun h15 => ?_) (fun h15 => ?_)
    · refine q_if_eq (tgt := 24) hA (by decide) dX9_round_18 (by decide) (fun h18 => absurd h18 (by decide)) (fun h18 => ?_)
      refine q_bipush hA (by decide) dX9_round_21 ?_
      exact hR 23 _ _ _ dX9_round_23 (by exact Or.inr (Or.inl ⟨h3, h15, rfl, rfl⟩))
    · refine q_if_eq (tgt := 24) hA (by decide) dX9_round_18 (by decide) (fun h18 => ?_) (fun h18 => absurd h18 (by decide))
      refine q_aload_n (j := 0) hA rfl dX9_round_24 ?_
      refine q_getR hA f_X9_50 dX9_round_25 sx_0 (by decide) fx_0_6 ?_
      refine q_aload_n (j := 0) hA rfl dX9_round_28 ?_
      refine q_getR hA f_X9_26 dX9_round_29 sx_0 (by decide) fx_0_2 ?_
      refine q_callVV (b := 190) (As := [vR 11]) (st := []) hA l_X9_195 kX4_lay (zX4_lay isS11 ho) dX9_round_32 rfl rfl sx_190 (by decide) rfl (Nat.le_of_ble_eq_true rfl) (by omega) (fun D32 q32 => ?_)
      obtain ⟨l1, l2, l3⟩ := q32
      have hgx := hg0 (by omega)
      have hgd := hgx.1
      have hsy := hgd.2.1
      have hn8 := hgd.1.2.1.2.1
      have hz0 : zOk (rowX D 11) (D32 190 5) := by rw [l1]; exact zR_x hgd
      refine q_iload_n (j := 1) hA rfl dX9_round_35 ?_
      refine q_if_ne (tgt := 49) hA (by omega) dX9_round_36 (by decide) (fun h36 => ?_) (fun h36 => ?_)
      · refine q_aload_n (j := 0) hA rfl dX9_round_49 ?_
        refine q_getR hA f_X9_50 dX9_round_50 sx_0 (by decide) fx_0_6 ?_
        refine q_callVI (b := 190) (As := []) (st := []) hA l_X9_225 kX4_movesOfCircle (zX4_movesOfCircle l2 hsy hn8 hz0) dX9_round_53 rfl rfl sx_190 (by decide) rfl (Nat.le_of_ble_eq_true rfl) (by omega) (fun v53 D53 q53 => ?_)
        exact hR 56 _ _ _ dX9_round_56 (by first | (obtain ⟨⟨i, j, c1, c2⟩, c3⟩ := q43; exact Or.inr (Or.inr ⟨h3, h15, ⟨i, j, by rw [← l1]; exact c1, by rw [if_pos (by omega)]; exact c2⟩, fun c hc => (c3 c (by omega)).trans (l3 c (by omega))⟩)) | (obtain ⟨⟨i, j, c1, c2⟩, c3⟩ := q53; exact Or.inr (Or.inr ⟨h3, h15, ⟨i, j, by rw [← l1]; exact c1, by rw [if_neg (by omega)]; exact c2⟩, fun c hc => (c3 c (by omega)).trans (l3 c (by omega))⟩)))
      · refine q_aload_n (j := 0) hA rfl dX9_round_39 ?_
        refine q_getR hA f_X9_50 dX9_round_40 sx_0 (by decide) fx_0_6 ?_
        refine q_callVI (b := 190) (As := []) (st := []) hA l_X9_222 kX4_movesAheadOfCircle (zX4_movesAheadOfCircle l2 hsy hn8 hz0) dX9_round_43 rfl rfl sx_190 (by decide) rfl (Nat.le_of_ble_eq_true rfl) (by omega) (fun v43 D43 q43 => ?_)
        refine q_goto (tgt := 56) hA dX9_round_46 (by decide) ?_
        exact hR 56 _ _ _ dX9_round_56 (by first | (obtain ⟨⟨i, j, c1, c2⟩, c3⟩ := q43; exact Or.inr (Or.inr ⟨h3, h15, ⟨i, j, by rw [← l1]; exact c1, by rw [if_pos (by omega)]; exact c2⟩, fun c hc => (c3 c (by omega)).trans (l3 c (by omega))⟩)) | (obtain ⟨⟨i, j, c1, c2⟩, c3⟩ := q53; exact Or.inr (Or.inr ⟨h3, h15, ⟨i, j, by rw [← l1]; exact c1, by rw [if_neg (by omega)]; exact c2⟩, fun c hc => (c3 c (by omega)).trans (l3 c (by omega))⟩)))
  · refine q_if_ne (tgt := 11) hA (by decide) dX9_round_6 (by decide) (fun h6 => absurd h6 (by decide)) (fun h6 => ?_)
    refine q_iconst hA dX9_round_9 ?_
    exact hR 10 _ _ _ dX9_round_10 (by exact Or.inl ⟨h3, rfl, rfl⟩)
set_option maxHeartbeats 4000000 in
set_option maxRecDepth 100000 in
theorem zX9_tour {g : Gm} {l : Launch} {D : Dat} (ho : sOk D 11) (hg0 : D 11 6 ≠ 0 → gdX (rowX D 11)) : CrI g l 6 mX9_tour [vR 0] D (fun v D1 => (D 11 6 = 0 ∧ v = -2 ∧ D1 = D) ∨ (D 11 6 ≠ 0 ∧ (∃ al, isReach (rowX D 11) (D 11 7 * 8 + D 11 8) al ∧ isTour (rowX D 11) (256 * (D 11 7 * 8 + D 11 8) + pw ((D 11 7 * 8 + D 11 8) / 8)) al v) ∧ frm 190 6 D D1)) := by
  refine Cr.ofI (lo0 := [vR 0]) (by decide) (Nat.le_of_ble_eq_true rfl) rfl (fun J hA hR => ?_)
  have hn := ho.n
  have hf := ho.f
  have hb := ho.b
  refine q_aload_n (j := 0) hA rfl dX9_tour_0 ?_
  refine q_getR hA f_X9_26 dX9_tour_1 sx_0 (by decide) fx_0_2 ?_
  refine q_callVB (b := 11) (As := []) (st := []) hA l_X9_139 kX7_isMissing (zX7_isMissing isS11 ho) dX9_tour_4 rfl rfl (strS isS11) (by decide) rfl (Nat.le_of_ble_eq_true rfl) (by omega) (fun h4 => ?_) (fun h4 => ?_)
  · refine q_if_eq (tgt := 13) hA (by decide) dX9_tour_7 (by decide) (fun h7 => absurd h7 (by decide)) (fun h7 => ?_)
    refine q_bipush hA (by decide) dX9_tour_10 ?_
    exact hR 12 _ _ _ dX9_tour_12 (by exact Or.inl ⟨h4, rfl, rfl⟩)
  · refine q_if_eq (tgt := 13) hA (by decide) dX9_tour_7 (by decide) (fun h7 => ?_) (fun h7 => absurd h7 (by decide))
    refine q_aload_n (j := 0) hA rfl dX9_tour_13 ?_
    refine q_getR hA f_X9_50 dX9_tour_14 sx_0 (by decide) fx_0_6 ?_
    refine q_aload_n (j := 0) hA rfl dX9_tour_17 ?_
    refine q_getR hA f_X9_26 dX9_tour_18 sx_0 (by decide) fx_0_2 ?_
    refine q_callVV (b := 190) (As := [vR 11]) (st := []) hA l_X9_195 kX4_lay (zX4_lay isS11 ho) dX9_tour_21 rfl rfl sx_190 (by decide) rfl (Nat.le_of_ble_eq_true rfl) (by omega) (fun D21 q21 => ?_)
    obtain ⟨l1, l2, l3⟩ := q21
    have hgx := hg0 (by omega)
    have hgd := hgx.1
    have hsy := hgd.2.1
    have hn8 := hgd.1.2.1.2.1
    have hz0 : zOk (rowX D 11) (D21 190 5) := by rw [l1]; exact zR_x hgd
    refine q_aload_n (j := 0) hA rfl dX9_tour_24 ?_
    refine q_getR hA f_X9_50 dX9_tour_25 sx_0 (by decide) fx_0_6 ?_
    refine q_aload_n (j := 0) hA rfl dX9_tour_28 ?_
    refine q_getR hA f_X9_50 dX9_tour_29 sx_0 (by decide) fx_0_6 ?_
    refine q_callVI (b := 190) (As := []) (st := [vR 190]) hA l_X9_198 kX4_reached (zX4_reached l2 hsy hn8 hgx.2.1 hz0) dX9_tour_32 rfl rfl sx_190 (by decide) rfl (Nat.le_of_ble_eq_true rfl) (by omega) (fun v32 D32 q32 => ?_)
    obtain ⟨r1, r2⟩ := q32
    subst r2
    have hal := r1.1
    refine q_callVI (b := 190) (As := [vI v32]) (st := []) hA l_X9_219 kX4_fewestToSee (zX4_fewestToSee l2 hsy hn8 hgx.2.2.1 hz0 (by omega)) dX9_tour_35 rfl rfl sx_190 (by decide) rfl (Nat.le_of_ble_eq_true rfl) (by omega) (fun v35 D35 q35 => ?_)
    exact hR 38 _ _ _ dX9_tour_38 (by exact Or.inr ⟨h4, ⟨v32, by rw [← l1]; exact r1, by rw [← l1]; exact q35.1⟩, fun c hc => (q35.2 c (by omega)).trans (l3 c (by omega))⟩)
set_option maxHeartbeats 4000000 in
set_option maxRecDepth 100000 in
theorem zX9_way {g : Gm} {l : Launch} {D : Dat} (ho : sOk D 11) (hg0 : D 11 6 ≠ 0 → gdX (rowX D 11)) {p : Int} {k : Int} (rp : -2147483648 ≤ p ∧ p ≤ 2147483647) (rk : -2147483648 ≤ k ∧ k ≤ 2147483647) : CrI g l 7 mX9_way [vR 0, vI p, vI k] D (fun v D1 => (¬ ((0 ≤ p ∧ p < D 11 6) ∧ -2 ≤ k) ∧ v = -1 ∧ D1 = D) ∨ (((0 ≤ p ∧ p < D 11 6) ∧ -2 ≤ k) ∧ (∃ L, mDist (rowX D 11) p 100 1000000 L ∧ v = wayX (rowX D 11) L (D 11 7 * 8 + D 11 8) k) ∧ frm 190 6 D D1)) := by
  refine Cr.ofI (lo0 := [vR 0, vI p, vI k]) (by decide) (Nat.le_of_ble_eq_true rfl) rfl (fun J hA hR => ?_)
  have hn := ho.n
  have hf := ho.f
  have hb := ho.b
  refine q_aload_n (j := 0) hA rfl dX9_way_0 ?_
  refine q_getR hA f_X9_26 dX9_way_1 sx_0 (by decide) fx_0_2 ?_
  refine q_iload_n (j := 1) hA rfl dX9_way_4 ?_
  refine q_callVB (b := 11) (As := [vI p]) (st := []) hA l_X9_101 kX7_has (zX7_has isS11 ho (by omega)) dX9_way_5 rfl rfl (strS isS11) (by decide) rfl (Nat.le_of_ble_eq_true rfl) (by omega) (fun h5 => ?_) (fun h5 => ?_)
  · refine q_if_eq (tgt := 17) hA (by decide) dX9_way_8 (by decide) (fun h8 => absurd h8 (by decide)) (fun h8 => ?_)
    refine q_iload_n (j := 2) hA rfl dX9_way_11 ?_
    refine q_bipush hA (by decide) dX9_way_12 ?_
    refine q_icmp_ge (tgt := 19) hA (by omega) (by omega) dX9_way_14 (by decide) (fun h14 => ?_) (fun h14 => ?_)
    · refine q_aload_n (j := 0) hA rfl dX9_way_19 ?_
      refine q_getR hA f_X9_50 dX9_way_20 sx_0 (by decide) fx_0_6 ?_
      refine q_aload_n (j := 0) hA rfl dX9_way_23 ?_
      refine q_getR hA f_X9_26 dX9_way_24 sx_0 (by decide) fx_0_2 ?_
      refine q_callVV (b := 190) (As := [vR 11]) (st := []) hA l_X9_195 kX4_lay (zX4_lay isS11 ho) dX9_way_27 rfl rfl sx_190 (by decide) rfl (Nat.le_of_ble_eq_true rfl) (by omega) (fun D27 q27 => ?_)
      obtain ⟨l1, l2, l3⟩ := q27
      have hgx := hg0 (by omega)
      have hgd := hgx.1
      have hsy := hgd.2.1
      have hn8 := hgd.1.2.1.2.1
      have hz0 : zOk (rowX D 11) (D27 190 5) := by rw [l1]; exact zR_x hgd
      have r27 : rowX D27 11 = rowX D 11 := frm.row (a := 190) (n := 2) l3 (by omega)
      have o27 : sOk D27 11 := by unfold sOk; rw [r27]; exact ho
      refine q_aload_n (j := 0) hA rfl dX9_way_30 ?_
      refine q_getR hA f_X9_50 dX9_way_31 sx_0 (by decide) fx_0_6 ?_
      refine q_aload_n (j := 0) hA rfl dX9_way_34 ?_
      refine q_getR hA f_X9_26 dX9_way_35 sx_0 (by decide) fx_0_2 ?_
      refine q_iload_n (j := 1) hA rfl dX9_way_38 ?_
      refine q_callVV (b := 190) (As := [vR 11, vI p]) (st := []) hA l_X9_202 kX4_measure (zX4_measure l2 r27.symm o27 hsy (by omega)) dX9_way_39 rfl rfl sx_190 (by decide) rfl (Nat.le_of_ble_eq_true rfl) (by omega) (fun D39 q39 => ?_)
      obtain ⟨m1, m2⟩ := q39
      have e90 : D39 190 5 = D 11 7 * 8 + D 11 8 := by rw [m2 190 (by omega)]; exact l1
      have hz3 : zOk (rowX D 11) (D39 190 5) := by rw [e90]; exact zR_x hgd
      have l39 : ∀ z m : Int, 0 ≤ z → z < 64 → 0 ≤ m → m ≤ 2 → D39 191 (z * 3 + m) = nxR (rowX D 11) z m := by rw [m2 191 (by omega)]; exact l2
      have r39 : rowX D39 11 = rowX D 11 := (frm.row (a := 192) (n := 1) m2 (by omega)).trans r27
      have o39 : sOk D39 11 := by unfold sOk; rw [r39]; exact ho
      have hfr : frm 190 6 D D39 := fun c hc => (m2 c (by omega)).trans (l3 c (by omega))
      have hlr := m1.1.1
      refine q_aload_n (j := 0) hA rfl dX9_way_42 ?_
      refine q_getR hA f_X9_50 dX9_way_43 sx_0 (by decide) fx_0_6 ?_
      refine q_callVB (b := 190) (As := []) (st := []) hA l_X9_206 kX4_hasWay (zX4_hasWay hlr hz3) dX9_way_46 rfl rfl sx_190 (by decide) rfl (Nat.le_of_ble_eq_true rfl) (by omega) (fun h46 => ?_) (fun h46 => ?_)
      · refine q_if_ne (tgt := 55) hA (by decide) dX9_way_49 (by decide) (fun h49 => ?_) (fun h49 => absurd h49 (by decide))
        refine q_iload_n (j := 2) hA rfl dX9_way_55 ?_
        refine q_bipush hA (by decide) dX9_way_56 ?_
        refine q_icmp_ne (tgt := 69) hA (by omega) (by omega) dX9_way_58 (by decide) (fun h58 => ?_) (fun h58 => ?_)
        · refine q_iload_n (j := 2) hA rfl dX9_way_69 ?_
          refine q_iconst hA dX9_way_70 ?_
          refine q_icmp_ne (tgt := 84) hA (by omega) (by omega) dX9_way_71 (by decide) (fun h71 => ?_) (fun h71 => ?_)
          · refine q_aload_n (j := 0) hA rfl dX9_way_84 ?_
            refine q_getR hA f_X9_50 dX9_way_85 sx_0 (by decide) fx_0_6 ?_
            refine q_aload_n (j := 0) hA rfl dX9_way_88 ?_
            refine q_getR hA f_X9_26 dX9_way_89 sx_0 (by decide) fx_0_2 ?_
            refine q_iload_n (j := 2) hA rfl dX9_way_92 ?_
            refine q_callVP (b := 190) (As := [vR 11, vI k]) (st := []) hA l_X9_215 kX4_wayMove (zX4_wayMove l39 r39.symm o39 hsy m1 (by omega) hz3 h46) dX9_way_93 rfl rfl sx_190 (by decide) rfl (Nat.le_of_ble_eq_true rfl) (by omega) ?_
            refine q_nmI (fun wv ewv => ?_)
            exact hR 96 _ _ _ dX9_way_96 (by first | exact Or.inr ⟨by omega, ⟨D39 192, m1, by unfold wayX; rw [← e90, if_neg (by omega), if_neg (by omega), if_pos (by omega)]; exact ewm⟩, hfr⟩ | exact Or.inr ⟨by omega, ⟨D39 192, m1, by unfold wayX; rw [← e90, if_neg (by omega), if_neg (by omega), if_neg (by omega)]; exact ewv⟩, hfr⟩)
          · refine q_aload_n (j := 0) hA rfl dX9_way_74 ?_
            refine q_getR hA f_X9_50 dX9_way_75 sx_0 (by decide) fx_0_6 ?_
            refine q_callVP (b := 190) (As := []) (st := []) hA l_X9_212 kX4_wayMoves (zX4_wayMoves hlr hz3) dX9_way_78 rfl rfl sx_190 (by decide) rfl (Nat.le_of_ble_eq_true rfl) (by omega) ?_
            refine q_nmI (fun wm ewm => ?_)
            refine q_goto (tgt := 96) hA dX9_way_81 (by decide) ?_
            exact hR 96 _ _ _ dX9_way_96 (by first | exact Or.inr ⟨by omega, ⟨D39 192, m1, by unfold wayX; rw [← e90, if_neg (by omega), if_neg (by omega), if_pos (by omega)]; exact ewm⟩, hfr⟩ | exact Or.inr ⟨by omega, ⟨D39 192, m1, by unfold wayX; rw [← e90, if_neg (by omega), if_neg (by omega), if_neg (by omega)]; exact ewv⟩, hfr⟩)
        · refine q_aload_n (j := 0) hA rfl dX9_way_61 ?_
          refine q_getR hA f_X9_50 dX9_way_62 sx_0 (by decide) fx_0_6 ?_
          refine q_callVP (b := 190) (As := []) (st := []) hA l_X9_209 kX4_wayEffort (zX4_wayEffort hlr hz3) dX9_way_65 rfl rfl sx_190 (by decide) rfl (Nat.le_of_ble_eq_true rfl) (by omega) ?_
          refine q_nmI (fun we ewe => ?_)
          exact hR 68 _ _ _ dX9_way_68 (by exact Or.inr ⟨by omega, ⟨D39 192, m1, by unfold wayX; rw [← e90, if_neg (by omega), if_pos (by omega)]; exact ewe⟩, hfr⟩)
      · refine q_if_ne (tgt := 55) hA (by decide) dX9_way_49 (by decide) (fun h49 => absurd h49 (by decide)) (fun h49 => ?_)
        refine q_bipush hA (by decide) dX9_way_52 ?_
        exact hR 54 _ _ _ dX9_way_54 (by exact Or.inr ⟨by omega, ⟨D39 192, m1, by unfold wayX; rw [← e90, if_pos (by omega)]⟩, hfr⟩)
    · refine q_iconst hA dX9_way_17 ?_
      exact hR 18 _ _ _ dX9_way_18 (by exact Or.inl ⟨by omega, rfl, rfl⟩)
  · refine q_if_eq (tgt := 17) hA (by decide) dX9_way_8 (by decide) (fun h8 => ?_) (fun h8 => absurd h8 (by decide))
    refine q_iconst hA dX9_way_17 ?_
    exact hR 18 _ _ _ dX9_way_18 (by exact Or.inl ⟨by omega, rfl, rfl⟩)
set_option maxHeartbeats 4000000 in
set_option maxRecDepth 100000 in
theorem zX9_hand_L65 {g : Gm} {l : Launch} {D : Dat} (ho : sOk D 11) (hg0 : D 11 6 ≠ 0 → gdX (rowX D 11)) {p : Int} {n : Int} {q : Int} {w : Int} (rp : -2147483648 ≤ p ∧ p ≤ 2147483647) (rn : -2147483648 ≤ n ∧ n ≤ 2147483647) (rq : -2147483648 ≤ q ∧ q ≤ 2147483647) (rw : -2147483648 ≤ w ∧ w ≤ 2147483647) {ab : Int} {F : Dat} (hb : ((((0 ≤ p ∧ p < D 11 6) ∧ (0 ≤ n ∧ n ≤ 6)) ∧ (0 ≤ q ∧ q ≤ 10)) ∧ (0 ≤ w ∧ w ≤ 1))) (ha1 : ab = partsR p q n.toNat (rowX D 11)) (hf1 : frm 198 49 D F) {J : JT} (hA : AX g l RX9 cX9_hand 8 16 J) (hR : ReI cX9_hand (fun v D1 => (¬ ((((0 ≤ p ∧ p < D 11 6) ∧ (0 ≤ n ∧ n ≤ 6)) ∧ (0 ≤ q ∧ q ≤ 10)) ∧ (0 ≤ w ∧ w ≤ 1)) ∧ v = -1 ∧ D1 = D) ∨ (((((0 ≤ p ∧ p < D 11 6) ∧ (0 ≤ n ∧ n ≤ 6)) ∧ (0 ≤ q ∧ q ≤ 10)) ∧ (0 ≤ w ∧ w ≤ 1)) ∧ (v = if w = 0 then partsR p q n.toNat (rowX D 11) / gI (partsR p q n.toNat (rowX D 11)) (10 ^ n.toNat) else (10 ^ n.toNat) / gI (partsR p q n.toNat (rowX D 11)) (10 ^ n.toNat)) ∧ frm 198 49 D D1)) J) (hx : ∀ (bl : Int) (k : Int), (0 ≤ k ∧ k ≤ n) → (bl = 10 ^ k.toNat) → (bl = 10 ^ n.toNat) → J 84 [vR 0, vI p, vI n, vI q, vI w, vI ab, vI bl, vI k] [] F) : ∀ (fuel : Nat) (bl : Int) (k : Int), (0 ≤ k ∧ k ≤ n) → (bl = 10 ^ k.toNat) → n - k < (fuel : Int) → J 65 [vR 0, vI p, vI n, vI q, vI w, vI ab, vI bl, vI k] [] F := by
  intro fuel
  induction fuel with
  | zero => intro bl k hk hbl hMs; exact absurd hMs (by omega)
  | succ fuel ih =>
    intro bl k hk hbl hMs
    have hpi := partsR_in (p := p) (q := q) (by omega) n.toNat (rowX D 11)
    have hp10 := pow10_6 (n := n) (by omega)
    have hp1k := pow10_6 (n := k) (by omega)
    refine q_iload (j := 7) hA rfl dX9_hand_65 ?_
    refine q_iload_n (j := 2) hA rfl dX9_hand_67 ?_
    refine q_icmp_ge (tgt := 84) hA (by omega) (by omega) dX9_hand_68 (by decide) (fun h68 => ?_) (fun h68 => ?_)
    · exact hx _ _ hk hbl (by rw [hbl, show k = n by omega])
    · refine q_iload (j := 6) hA rfl dX9_hand_71 ?_
      refine q_bipush hA (by decide) dX9_hand_73 ?_
      refine q_imul hA dX9_hand_75 ?_
      refine q_istore (j := 6) (lo2 := [vR 0, vI p, vI n, vI q, vI w, vI ab, vI (bl * 10), vI k]) hA dX9_hand_76 (by decide) rfl rfl ?_
      refine q_iinc (j := 7) (lo2 := [vR 0, vI p, vI n, vI q, vI w, vI ab, vI (bl * 10), vI (k + 1)]) hA dX9_hand_78 rfl (by decide) rfl rfl ?_
      refine q_goto (tgt := 65) hA dX9_hand_81 (by decide) ?_
      exact ih _ _ (by omega) (by rw [show (k + 1).toNat = k.toNat + 1 by omega, Int.pow_succ, hbl]) (by omega)
set_option maxHeartbeats 4000000 in
set_option maxRecDepth 100000 in
theorem zX9_hand {g : Gm} {l : Launch} {D : Dat} (ho : sOk D 11) (hg0 : D 11 6 ≠ 0 → gdX (rowX D 11)) {p : Int} {n : Int} {q : Int} {w : Int} (rp : -2147483648 ≤ p ∧ p ≤ 2147483647) (rn : -2147483648 ≤ n ∧ n ≤ 2147483647) (rq : -2147483648 ≤ q ∧ q ≤ 2147483647) (rw : -2147483648 ≤ w ∧ w ≤ 2147483647) : CrI g l 16 mX9_hand [vR 0, vI p, vI n, vI q, vI w] D (fun v D1 => (¬ ((((0 ≤ p ∧ p < D 11 6) ∧ (0 ≤ n ∧ n ≤ 6)) ∧ (0 ≤ q ∧ q ≤ 10)) ∧ (0 ≤ w ∧ w ≤ 1)) ∧ v = -1 ∧ D1 = D) ∨ (((((0 ≤ p ∧ p < D 11 6) ∧ (0 ≤ n ∧ n ≤ 6)) ∧ (0 ≤ q ∧ q ≤ 10)) ∧ (0 ≤ w ∧ w ≤ 1)) ∧ (v = if w = 0 then partsR p q n.toNat (rowX D 11) / gI (partsR p q n.toNat (rowX D 11)) (10 ^ n.toNat) else (10 ^ n.toNat) / gI (partsR p q n.toNat (rowX D 11)) (10 ^ n.toNat)) ∧ frm 198 49 D D1)) := by
  refine Cr.ofI (lo0 := [vR 0, vI p, vI n, vI q, vI w, vN, vN, vN]) (by decide) (Nat.le_of_ble_eq_true rfl) rfl (fun J hA hR => ?_)
  have hn := ho.n
  have hf := ho.f
  have hb := ho.b
  refine q_aload_n (j := 0) hA rfl dX9_hand_0 ?_
  refine q_getR hA f_X9_26 dX9_hand_1 sx_0 (by decide) fx_0_2 ?_
  refine q_iload_n (j := 1) hA rfl dX9_hand_4 ?_
  refine q_callVB (b := 11) (As := [vI p]) (st := []) hA l_X9_101 kX7_has (zX7_has isS11 ho (by omega)) dX9_hand_5 rfl rfl (strS isS11) (by decide) rfl (Nat.le_of_ble_eq_true rfl) (by omega) (fun h5 => ?_) (fun h5 => ?_)
  · refine q_if_eq (tgt := 41) hA (by decide) dX9_hand_8 (by decide) (fun h8 => absurd h8 (by decide)) (fun h8 => ?_)
    refine q_iload_n (j := 2) hA rfl dX9_hand_11 ?_
    refine q_iconst hA dX9_hand_12 ?_
    refine q_bipush hA (by decide) dX9_hand_13 ?_
    refine q_callSB (As := [vI n, vI 0, vI 6]) (st := []) hA l_X9_69 kX9_isWithin (zX9_isWithin (by first | assumption | omega | rfl) (by first | assumption | omega | rfl) (by first | assumption | omega | rfl)) dX9_hand_15 rfl rfl (Nat.le_of_ble_eq_true rfl) (by omega) (fun h15 => ?_) (fun h15 => ?_)
    · refine q_if_eq (tgt := 41) hA (by decide) dX9_hand_18 (by decide) (fun h18 => absurd h18 (by decide)) (fun h18 => ?_)
      refine q_iload_n (j := 3) hA rfl dX9_hand_21 ?_
      refine q_iconst hA dX9_hand_22 ?_
      refine q_bipush hA (by decide) dX9_hand_23 ?_
      refine q_callSB (As := [vI q, vI 0, vI 10]) (st := []) hA l_X9_69 kX9_isWithin (zX9_isWithin (by first | assumption | omega | rfl) (by first | assumption | omega | rfl) (by first | assumption | omega | rfl)) dX9_hand_25 rfl rfl (Nat.le_of_ble_eq_true rfl) (by omega) (fun h25 => ?_) (fun h25 => ?_)
      · refine q_if_eq (tgt := 41) hA (by decide) dX9_hand_28 (by decide) (fun h28 => absurd h28 (by decide)) (fun h28 => ?_)
        refine q_iload (j := 4) hA rfl dX9_hand_31 ?_
        refine q_iconst hA dX9_hand_33 ?_
        refine q_iconst hA dX9_hand_34 ?_
        refine q_callSB (As := [vI w, vI 0, vI 1]) (st := []) hA l_X9_69 kX9_isWithin (zX9_isWithin (by first | assumption | omega | rfl) (by first | assumption | omega | rfl) (by first | assumption | omega | rfl)) dX9_hand_35 rfl rfl (Nat.le_of_ble_eq_true rfl) (by omega) (fun h35 => ?_) (fun h35 => ?_)
        · refine q_if_ne (tgt := 43) hA (by decide) dX9_hand_38 (by decide) (fun h38 => ?_) (fun h38 => absurd h38 (by decide))
          have hgx := hg0 (by omega)
          refine q_aload_n (j := 0) hA rfl dX9_hand_43 ?_
          refine q_getR hA f_X9_57 dX9_hand_44 sx_0 (by decide) fx_0_7 ?_
          refine q_aload_n (j := 0) hA rfl dX9_hand_47 ?_
          refine q_getR hA f_X9_26 dX9_hand_48 sx_0 (by decide) fx_0_2 ?_
          refine q_iload_n (j := 2) hA rfl dX9_hand_51 ?_
          refine q_iload_n (j := 1) hA rfl dX9_hand_52 ?_
          refine q_iload_n (j := 3) hA rfl dX9_hand_53 ?_
          refine q_callVI (b := 196) (As := [vR 11, vI n, vI p, vI q]) (st := []) hA l_X9_228 kX1_partsOf (zX1_partsOf (by omega) (by omega) (by omega) hgx.1.1) dX9_hand_54 rfl rfl sx_196 (by decide) rfl (Nat.le_of_ble_eq_true rfl) (by omega) (fun v54 D54 q54 => ?_)
          have hpi := partsR_in (p := p) (q := q) (by omega) n.toNat (rowX D 11)
          have hp10 := pow10_6 (n := n) (by omega)
          obtain ⟨a1, a2⟩ := q54
          refine q_nmI (fun ab eab => ?_)
          refine q_istore (j := 5) (lo2 := [vR 0, vI p, vI n, vI q, vI w, vI ab, vN, vN]) hA dX9_hand_57 (by decide) rfl rfl ?_
          refine q_iconst hA dX9_hand_59 ?_
          refine q_istore (j := 6) (lo2 := [vR 0, vI p, vI n, vI q, vI w, vI ab, vI 1, vN]) hA dX9_hand_60 (by decide) rfl rfl ?_
          refine q_iconst hA dX9_hand_62 ?_
          refine q_istore (j := 7) (lo2 := [vR 0, vI p, vI n, vI q, vI w, vI ab, vI 1, vI 0]) hA dX9_hand_63 (by decide) rfl rfl ?_
          refine zX9_hand_L65 (D := D) (p := p) (n := n) (q := q) (w := w) ho hg0 rp rn rq rw (by omega) (eab.trans a1) a2 hA hR (fun bl k hk hbl hbn => ?_) 1000 _ _ (by omega) (by rfl) (by omega)
          refine q_iload (j := 5) hA rfl dX9_hand_84 ?_
          refine q_iload (j := 6) hA rfl dX9_hand_86 ?_
          refine q_callSP (As := [vI ab, vI bl]) (st := []) hA l_X9_232 kX9_greatestDivisor (zX9_greatestDivisor (by omega) (by omega)) dX9_hand_88 rfl rfl (Nat.le_of_ble_eq_true rfl) (by omega) ?_
          refine q_nmI (fun gg egg => ?_)
          have hgi := gI_in (a := ab) (b := bl) (by omega)
          rw [← egg] at hgi
          refine q_istore (j := 7) (lo2 := [vR 0, vI p, vI n, vI q, vI w, vI ab, vI bl, vI gg]) hA dX9_hand_91 (by decide) rfl rfl ?_
          refine q_iload (j := 7) hA rfl dX9_hand_93 ?_
          refine q_iconst hA dX9_hand_95 ?_
          refine q_icmp_ge (tgt := 101) hA (by omega) (by omega) dX9_hand_96 (by decide) (fun h96 => ?_) (fun h96 => ?_)
          · refine q_iload (j := 4) hA rfl dX9_hand_101 ?_
            refine q_if_ne (tgt := 111) hA (by omega) dX9_hand_103 (by decide) (fun h103 => ?_) (fun h103 => ?_)
            · refine q_iload (j := 6) hA rfl dX9_hand_111 ?_
              refine q_iload (j := 7) hA rfl dX9_hand_113 ?_
              refine q_idiv hA (by omega) (by omega) dX9_hand_115 ?_
              exact hR 116 _ _ _ dX9_hand_116 (by exact Or.inr ⟨by omega, by rw [egg, hbn, eab, a1]; first | rw [if_pos (by omega)] | rw [if_neg (by omega)], a2⟩)
            · refine q_iload (j := 5) hA rfl dX9_hand_106 ?_
              refine q_goto (tgt := 113) hA dX9_hand_108 (by decide) ?_
              refine q_iload (j := 7) hA rfl dX9_hand_113 ?_
              refine q_idiv hA (by omega) (by omega) dX9_hand_115 ?_
              exact hR 116 _ _ _ dX9_hand_116 (by exact Or.inr ⟨by omega, by rw [egg, hbn, eab, a1]; first | rw [if_pos (by omega)] | rw [if_neg (by omega)], a2⟩)
          · refine q_iconst hA dX9_hand_99 ?_
            exact hR 100 _ _ _ dX9_hand_100 (by exfalso; omega)
        · refine q_if_ne (tgt := 43) hA (by decide) dX9_hand_38 (by decide) (fun h38 => absurd h38 (by decide)) (fun h38 => ?_)
          refine q_iconst hA dX9_hand_41 ?_
          exact hR 42 _ _ _ dX9_hand_42 (by exact Or.inl ⟨by omega, rfl, rfl⟩)
      · refine q_if_eq (tgt := 41) hA (by decide) dX9_hand_28 (by decide) (fun h28 => ?_) (fun h28 => absurd h28 (by decide))
        refine q_iconst hA dX9_hand_41 ?_
        exact hR 42 _ _ _ dX9_hand_42 (by exact Or.inl ⟨by omega, rfl, rfl⟩)
    · refine q_if_eq (tgt := 41) hA (by decide) dX9_hand_18 (by decide) (fun h18 => ?_) (fun h18 => absurd h18 (by decide))
      refine q_iconst hA dX9_hand_41 ?_
      exact hR 42 _ _ _ dX9_hand_42 (by exact Or.inl ⟨by omega, rfl, rfl⟩)
  · refine q_if_eq (tgt := 41) hA (by decide) dX9_hand_8 (by decide) (fun h8 => ?_) (fun h8 => absurd h8 (by decide))
    refine q_iconst hA dX9_hand_41 ?_
    exact hR 42 _ _ _ dX9_hand_42 (by exact Or.inl ⟨by omega, rfl, rfl⟩)
set_option maxHeartbeats 4000000 in
set_option maxRecDepth 100000 in
theorem zX9_duel {g : Gm} {l : Launch} {D : Dat} (ho : sOk D 11) (hg0 : D 11 6 ≠ 0 → gdX (rowX D 11)) {n : Int} (rn : -2147483648 ≤ n ∧ n ≤ 2147483647) : CrI g l 16 mX9_duel [vR 0, vI n] D (fun v D1 => (¬ (0 ≤ n ∧ n ≤ 6) ∧ v = -1 ∧ D1 = D) ∨ ((0 ≤ n ∧ n ≤ 6) ∧ D 11 6 = 0 ∧ v = -2 ∧ D1 = D) ∨ ((0 ≤ n ∧ n ≤ 6) ∧ D 11 6 ≠ 0 ∧ v = 100 + gainR n.toNat (rowX D 11) ∧ frm 198 49 D D1)) := by
  refine Cr.ofI (lo0 := [vR 0, vI n]) (by decide) (Nat.le_of_ble_eq_true rfl) rfl (fun J hA hR => ?_)
  have hn := ho.n
  have hf := ho.f
  have hb := ho.b
  refine q_iload_n (j := 1) hA rfl dX9_duel_0 ?_
  refine q_iconst hA dX9_duel_1 ?_
  refine q_bipush hA (by decide) dX9_duel_2 ?_
  refine q_callSB (As := [vI n, vI 0, vI 6]) (st := []) hA l_X9_69 kX9_isWithin (zX9_isWithin (by first | assumption | omega | rfl) (by first | assumption | omega | rfl) (by first | assumption | omega | rfl)) dX9_duel_4 rfl rfl (Nat.le_of_ble_eq_true rfl) (by omega) (fun h4 => ?_) (fun h4 => ?_)
  · refine q_if_ne (tgt := 12) hA (by decide) dX9_duel_7 (by decide) (fun h7 => ?_) (fun h7 => absurd h7 (by decide))
    refine q_aload_n (j := 0) hA rfl dX9_duel_12 ?_
    refine q_getR hA f_X9_26 dX9_duel_13 sx_0 (by decide) fx_0_2 ?_
    refine q_callVB (b := 11) (As := []) (st := []) hA l_X9_139 kX7_isMissing (zX7_isMissing isS11 ho) dX9_duel_16 rfl rfl (strS isS11) (by decide) rfl (Nat.le_of_ble_eq_true rfl) (by omega) (fun h16 => ?_) (fun h16 => ?_)
    · refine q_if_eq (tgt := 27) hA (by decide) dX9_duel_19 (by decide) (fun h19 => absurd h19 (by decide)) (fun h19 => ?_)
      refine q_bipush hA (by decide) dX9_duel_22 ?_
      refine q_goto (tgt := 42) hA dX9_duel_24 (by decide) ?_
      exact hR 42 _ _ _ dX9_duel_42 (by first | exact Or.inr (Or.inl ⟨h4, h16, rfl, rfl⟩) | exact Or.inr (Or.inr ⟨h4, h16, by rw [q38.1], q38.2⟩))
    · refine q_if_eq (tgt := 27) hA (by decide) dX9_duel_19 (by decide) (fun h19 => ?_) (fun h19 => absurd h19 (by decide))
      have hgx := hg0 (by omega)
      refine q_bipush hA (by decide) dX9_duel_27 ?_
      refine q_aload_n (j := 0) hA rfl dX9_duel_29 ?_
      refine q_getR hA f_X9_57 dX9_duel_30 sx_0 (by decide) fx_0_7 ?_
      refine q_aload_n (j := 0) hA rfl dX9_duel_33 ?_
      refine q_getR hA f_X9_26 dX9_duel_34 sx_0 (by decide) fx_0_2 ?_
      refine q_iload_n (j := 1) hA rfl dX9_duel_37 ?_
      refine q_callVI (b := 196) (As := [vR 11, vI n]) (st := [vI 100]) hA l_X9_235 kX1_gainOf (zX1_gainOf (by omega) hgx.1.1) dX9_duel_38 rfl rfl sx_196 (by decide) rfl (Nat.le_of_ble_eq_true rfl) (by omega) (fun v38 D38 q38 => ?_)
      refine q_iadd hA dX9_duel_41 ?_
      exact hR 42 _ _ _ dX9_duel_42 (by first | exact Or.inr (Or.inl ⟨h4, h16, rfl, rfl⟩) | exact Or.inr (Or.inr ⟨h4, h16, by rw [q38.1], q38.2⟩))
  · refine q_if_ne (tgt := 12) hA (by decide) dX9_duel_7 (by decide) (fun h7 => absurd h7 (by decide)) (fun h7 => ?_)
    refine q_iconst hA dX9_duel_10 ?_
    exact hR 11 _ _ _ dX9_duel_11 (by exact Or.inl ⟨h4, rfl, rfl⟩)
set_option maxHeartbeats 4000000 in
set_option maxRecDepth 100000 in
theorem zX9_decades {g : Gm} {l : Launch} {D : Dat} (ho : sOk D 11) (hg0 : D 11 6 ≠ 0 → gdX (rowX D 11)) {n : Int} {x : Int} {w : Int} (rn : -2147483648 ≤ n ∧ n ≤ 2147483647) (rx : -2147483648 ≤ x ∧ x ≤ 2147483647) (rw : -2147483648 ≤ w ∧ w ≤ 2147483647) : CrI g l 6 mX9_decades [vR 0, vI n, vI x, vI w] D (fun v D1 => (¬ (((0 ≤ n ∧ n ≤ 60) ∧ (1 ≤ x ∧ x ≤ 999999)) ∧ (0 ≤ w ∧ w ≤ 1)) ∧ v = -1 ∧ D1 = D) ∨ ((((0 ≤ n ∧ n ≤ 60) ∧ (1 ≤ x ∧ x ≤ 999999)) ∧ (0 ≤ w ∧ w ≤ 1)) ∧ D 11 6 = 0 ∧ v = -2 ∧ D1 = D) ∨ ((((0 ≤ n ∧ n ≤ 60) ∧ (1 ≤ x ∧ x ≤ 999999)) ∧ (0 ≤ w ∧ w ≤ 1)) ∧ D 11 6 ≠ 0 ∧ (v = if w = 0 then rE (drawR n.toNat x (rowX D 11)) else rF (drawR n.toNat x (rowX D 11))) ∧ frm 198 49 D D1)) := by
  refine Cr.ofI (lo0 := [vR 0, vI n, vI x, vI w, vN]) (by decide) (Nat.le_of_ble_eq_true rfl) rfl (fun J hA hR => ?_)
  have hn := ho.n
  have hf := ho.f
  have hb := ho.b
  refine q_iload_n (j := 1) hA rfl dX9_decades_0 ?_
  refine q_iconst hA dX9_decades_1 ?_
  refine q_bipush hA (by decide) dX9_decades_2 ?_
  refine q_callSB (As := [vI n, vI 0, vI 60]) (st := []) hA l_X9_69 kX9_isWithin (zX9_isWithin (by first | assumption | omega | rfl) (by first | assumption | omega | rfl) (by first | assumption | omega | rfl)) dX9_decades_4 rfl rfl (Nat.le_of_ble_eq_true rfl) (by omega) (fun h4 => ?_) (fun h4 => ?_)
  · refine q_if_eq (tgt := 29) hA (by decide) dX9_decades_7 (by decide) (fun h7 => absurd h7 (by decide)) (fun h7 => ?_)
    refine q_iload_n (j := 2) hA rfl dX9_decades_10 ?_
    refine q_iconst hA dX9_decades_11 ?_
    refine q_ldc hA c_X9_238 dX9_decades_12 ?_
    refine q_callSB (As := [vI x, vI 1, vI 999999]) (st := []) hA l_X9_69 kX9_isWithin (zX9_isWithin (by first | assumption | omega | rfl) (by first | assumption | omega | rfl) (by first | assumption | omega | rfl)) dX9_decades_14 rfl rfl (Nat.le_of_ble_eq_true rfl) (by omega) (fun h14 => ?_) (fun h14 => ?_)
    · refine q_if_eq (tgt := 29) hA (by decide) dX9_decades_17 (by decide) (fun h17 => absurd h17 (by decide)) (fun h17 => ?_)
      refine q_iload_n (j := 3) hA rfl dX9_decades_20 ?_
      refine q_iconst hA dX9_decades_21 ?_
      refine q_iconst hA dX9_decades_22 ?_
      refine q_callSB (As := [vI w, vI 0, vI 1]) (st := []) hA l_X9_69 kX9_isWithin (zX9_isWithin (by first | assumption | omega | rfl) (by first | assumption | omega | rfl) (by first | assumption | omega | rfl)) dX9_decades_23 rfl rfl (Nat.le_of_ble_eq_true rfl) (by omega) (fun h23 => ?_) (fun h23 => ?_)
      · refine q_if_ne (tgt := 31) hA (by decide) dX9_decades_26 (by decide) (fun h26 => ?_) (fun h26 => absurd h26 (by decide))
        refine q_aload_n (j := 0) hA rfl dX9_decades_31 ?_
        refine q_getR hA f_X9_26 dX9_decades_32 sx_0 (by decide) fx_0_2 ?_
        refine q_callVB (b := 11) (As := []) (st := []) hA l_X9_139 kX7_isMissing (zX7_isMissing isS11 ho) dX9_decades_35 rfl rfl (strS isS11) (by decide) rfl (Nat.le_of_ble_eq_true rfl) (by omega) (fun h35 => ?_) (fun h35 => ?_)
        · refine q_if_eq (tgt := 44) hA (by decide) dX9_decades_38 (by decide) (fun h38 => absurd h38 (by decide)) (fun h38 => ?_)
          refine q_bipush hA (by decide) dX9_decades_41 ?_
          exact hR 43 _ _ _ dX9_decades_43 (by exact Or.inr (Or.inl ⟨by omega, h35, rfl, rfl⟩))
        · refine q_if_eq (tgt := 44) hA (by decide) dX9_decades_38 (by decide) (fun h38 => ?_) (fun h38 => absurd h38 (by decide))
          have hgx := hg0 (by omega)
          refine q_aload_n (j := 0) hA rfl dX9_decades_44 ?_
          refine q_getR hA f_X9_57 dX9_decades_45 sx_0 (by decide) fx_0_7 ?_
          refine q_aload_n (j := 0) hA rfl dX9_decades_48 ?_
          refine q_getR hA f_X9_26 dX9_decades_49 sx_0 (by decide) fx_0_2 ?_
          refine q_iload_n (j := 1) hA rfl dX9_decades_52 ?_
          refine q_iload_n (j := 2) hA rfl dX9_decades_53 ?_
          refine q_callVR (b := 196) (As := [vR 11, vI n, vI x]) (st := []) hA l_X9_239 kX1_drawn (zX1_drawn (by omega) (by omega) hgx.1.1) dX9_decades_54 rfl rfl sx_196 (by decide) rfl (Nat.le_of_ble_eq_true rfl) (by omega) (fun v54 D54 q54 => ?_)
          obtain ⟨d1, d2, d3⟩ := q54
          subst d1
          refine q_astore (j := 4) (lo2 := [vR 0, vI n, vI x, vI w, vR 198]) hA dX9_decades_57 (by decide) rfl rfl ?_
          refine q_iload_n (j := 3) hA rfl dX9_decades_59 ?_
          refine q_if_ne (tgt := 71) hA (by omega) dX9_decades_60 (by decide) (fun h60 => ?_) (fun h60 => ?_)
          · refine q_aload (j := 4) hA rfl dX9_decades_71 ?_
            refine q_getI (x := D54 198 7) hA f_X9_143 dX9_decades_73 (strS isS198) (by decide) rfl ?_
            exact hR 76 _ _ _ dX9_decades_76 (by exact Or.inr (Or.inr ⟨by omega, h35, by rw [← d2]; first | (rw [if_pos (by omega)]; exact (xE _ _).symm) | (rw [if_neg (by omega)]; exact (xF _ _).symm), fun c hc => d3 c (by omega)⟩))
          · refine q_aload (j := 4) hA rfl dX9_decades_63 ?_
            refine q_getI (x := D54 198 9) hA f_X9_243 dX9_decades_65 (strS isS198) (by decide) rfl ?_
            refine q_goto (tgt := 76) hA dX9_decades_68 (by decide) ?_
            exact hR 76 _ _ _ dX9_decades_76 (by exact Or.inr (Or.inr ⟨by omega, h35, by rw [← d2]; first | (rw [if_pos (by omega)]; exact (xE _ _).symm) | (rw [if_neg (by omega)]; exact (xF _ _).symm), fun c hc => d3 c (by omega)⟩))
      · refine q_if_ne (tgt := 31) hA (by decide) dX9_decades_26 (by decide) (fun h26 => absurd h26 (by decide)) (fun h26 => ?_)
        refine q_iconst hA dX9_decades_29 ?_
        exact hR 30 _ _ _ dX9_decades_30 (by exact Or.inl ⟨by omega, rfl, rfl⟩)
    · refine q_if_eq (tgt := 29) hA (by decide) dX9_decades_17 (by decide) (fun h17 => ?_) (fun h17 => absurd h17 (by decide))
      refine q_iconst hA dX9_decades_29 ?_
      exact hR 30 _ _ _ dX9_decades_30 (by exact Or.inl ⟨by omega, rfl, rfl⟩)
  · refine q_if_eq (tgt := 29) hA (by decide) dX9_decades_7 (by decide) (fun h7 => ?_) (fun h7 => absurd h7 (by decide))
    refine q_iconst hA dX9_decades_29 ?_
    exact hR 30 _ _ _ dX9_decades_30 (by exact Or.inl ⟨by omega, rfl, rfl⟩)
