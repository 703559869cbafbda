set_option maxHeartbeats 4000000 in
set_option maxRecDepth 100000 in
theorem zX9_greatestDivisor_L7 {g : Gm} {l : Launch} {D : Dat} {x : Int} {y : Int} (hx : 0 ≤ x ∧ x ≤ 1000000) (hy : 1 ≤ y ∧ y ≤ 1000000)   {J : JT} (hA : AX g l RX9 cX9_greatestDivisor 6 1 J) (hR : ReI cX9_greatestDivisor (fun v D1 => v = (gI x y) ∧ D1 = D) J) : ∀ (fuel : Nat) (a : Int) (b : Int) (k : Int), (0 ≤ k ∧ k ≤ 42) → (0 ≤ a ∧ a ≤ 1000000) → (0 ≤ b ∧ b ≤ 1000000) → ((k = 0 ∧ 1 ≤ b) ∨ (b < a ∧ a + b ≤ bnd (41 - k).toNat)) → (gI a b = gI x y) → 64 - k < (fuel : Int) → J 7 [vI x, vI y, vI a, vI b, vI k, vN] [] D := by
  intro fuel
  induction fuel with
  | zero => intro a b k hk ha hb hc hg hMs; exact absurd hMs (by omega)
  | succ fuel ih =>
    intro a b k hk ha hb hc hg hMs
    refine q_iload (j := 4) hA rfl dX9_greatestDivisor_7 ?_
    refine q_bipush hA (by decide) dX9_greatestDivisor_9 ?_
    refine q_icmp_ge (tgt := 34) hA (by omega) (by omega) dX9_greatestDivisor_11 (by decide) (fun h11 => ?_) (fun h11 => ?_)
    · refine q_iload_n (j := 2) hA rfl dX9_greatestDivisor_34 ?_
      exact hR 35 _ _ _ dX9_greatestDivisor_35 ⟨(by rw [← hg]; first | (rw [show b = 0 by omega, gI_z (by omega)]) | (exfalso; omega)), rfl⟩
    · refine q_iload_n (j := 3) hA rfl dX9_greatestDivisor_14 ?_
      refine q_if_eq (tgt := 34) hA (by omega) dX9_greatestDivisor_15 (by decide) (fun h15 => ?_) (fun h15 => ?_)
      · refine q_iload_n (j := 2) hA rfl dX9_greatestDivisor_34 ?_
        exact hR 35 _ _ _ dX9_greatestDivisor_35 ⟨(by rw [← hg]; first | (rw [show b = 0 by omega, gI_z (by omega)]) | (exfalso; omega)), rfl⟩
      · have hem := emod_in (a := a) (b := b) (by omega)
        have hnx := gd_step (by omega) (by omega) hk.1 hc
        have hk41 := gd_k (by omega) hk.1 hc
        refine q_iload_n (j := 2) hA rfl dX9_greatestDivisor_18 ?_
        refine q_iload_n (j := 3) hA rfl dX9_greatestDivisor_19 ?_
        refine q_irem hA (by omega) (by omega) dX9_greatestDivisor_20 ?_
        refine q_istore (j := 5) (lo2 := [vI x, vI y, vI a, vI b, vI k, vI (a % b)]) hA dX9_greatestDivisor_21 (by decide) rfl rfl ?_
        refine q_iload_n (j := 3) hA rfl dX9_greatestDivisor_23 ?_
        refine q_istore_n (j := 2) (lo2 := [vI x, vI y, vI b, vI b, vI k, vI (a % b)]) hA dX9_greatestDivisor_24 (by decide) rfl rfl ?_
        refine q_iload (j := 5) hA rfl dX9_greatestDivisor_25 ?_
        refine q_istore_n (j := 3) (lo2 := [vI x, vI y, vI b, vI (a % b), vI k, vI (a % b)]) hA dX9_greatestDivisor_27 (by decide) rfl rfl ?_
        refine q_iinc (j := 4) (lo2 := [vI x, vI y, vI b, vI (a % b), vI (k + 1), vI (a % b)]) hA dX9_greatestDivisor_28 rfl (by decide) rfl rfl ?_
        refine q_goto (tgt := 7) hA dX9_greatestDivisor_31 (by decide) ?_
        refine q_fgt (lo2 := [vI x, vI y, vI b, vI (a % b), vI (k + 1), vN]) hA ⟨Or.inr rfl, Or.inr rfl, Or.inr rfl, Or.inr rfl, Or.inr rfl, Or.inl rfl, trivial⟩ ?_
        exact ih _ _ _ (by omega) (by omega) (by omega) (by right; exact hnx) (by rw [gI_s (by omega) (by omega)]; exact hg) (by omega)
set_option maxHeartbeats 4000000 in
set_option maxRecDepth 100000 in
theorem zX9_greatestDivisor {g : Gm} {l : Launch} {D : Dat} {x : Int} {y : Int} (hx : 0 ≤ x ∧ x ≤ 1000000) (hy : 1 ≤ y ∧ y ≤ 1000000) : CrP g l 1 mX9_greatestDivisor [vI x, vI y] D (gI x y) := by
  unfold CrP
  refine Cr.ofI (lo0 := [vI x, vI y, vN, vN, vN, vN]) (by decide) (Nat.le_of_ble_eq_true rfl) rfl (fun J hA hR => ?_)
  refine q_iload_n (j := 0) hA rfl dX9_greatestDivisor_0 ?_
  refine q_istore_n (j := 2) (lo2 := [vI x, vI y, vI x, vN, vN, vN]) hA dX9_greatestDivisor_1 (by decide) rfl rfl ?_
  refine q_iload_n (j := 1) hA rfl dX9_greatestDivisor_2 ?_
  refine q_istore_n (j := 3) (lo2 := [vI x, vI y, vI x, vI y, vN, vN]) hA dX9_greatestDivisor_3 (by decide) rfl rfl ?_
  refine q_iconst hA dX9_greatestDivisor_4 ?_
  refine q_istore (j := 4) (lo2 := [vI x, vI y, vI x, vI y, vI 0, vN]) hA dX9_greatestDivisor_5 (by decide) rfl rfl ?_
  refine zX9_greatestDivisor_L7 (D := D) (x := x) (y := y) hx hy  hA hR 1000 _ _ _ (by omega) (by omega) (by omega) (by left; omega) (by rfl) (by omega)
set_option maxHeartbeats 4000000 in
set_option maxRecDepth 100000 in
theorem zX9_feed {g : Gm} {l : Launch} {D : Dat} (ht : tOk D) {x : Int} (rx : -2147483648 ≤ x ∧ x ≤ 2147483647) : CrI g l 2 mX9_feed [vR 0, vI x] D (fun v D1 => (¬ (0 ≤ x ∧ x ≤ 255) ∧ v = -1 ∧ D1 = D) ∨ ((0 ≤ x ∧ x ≤ 255) ∧ 80 ≤ D 1 1 ∧ v = -3 ∧ D1 = D) ∨ ((0 ≤ x ∧ x ≤ 255) ∧ D 1 1 < 80 ∧ v = D 1 1 + 1 ∧ D1 = upD (upD D 2 (D 1 1) x) 1 1 (D 1 1 + 1))) := by
  refine Cr.ofI (lo0 := [vR 0, vI x]) (by decide) (Nat.le_of_ble_eq_true rfl) rfl (fun J hA hR => ?_)
  refine q_iload_n (j := 1) hA rfl dX9_feed_0 ?_
  refine q_iconst hA dX9_feed_1 ?_
  refine q_sipush hA (by decide) dX9_feed_2 ?_
  refine q_callSB (As := [vI x, vI 0, vI 255]) (st := []) hA l_X9_69 kX9_isWithin (zX9_isWithin (by first | assumption | omega | rfl) (by first | assumption | omega | rfl) (by first | assumption | omega | rfl)) dX9_feed_5 rfl rfl (Nat.le_of_ble_eq_true rfl) (by omega) (fun h5 => ?_) (fun h5 => ?_)
  · refine q_if_ne (tgt := 13) hA (by decide) dX9_feed_8 (by decide) (fun h8 => ?_) (fun h8 => absurd h8 (by decide))
    refine q_aload_n (j := 0) hA rfl dX9_feed_13 ?_
    refine q_getR hA f_X9_10 dX9_feed_14 sx_0 (by decide) fx_0_0 ?_
    refine q_iload_n (j := 1) hA rfl dX9_feed_17 ?_
    refine q_callVI (b := 1) (As := [vI x]) (st := []) hA l_X9_73 kX8_add (zX8_add (by first | assumption | omega | rfl)) dX9_feed_18 rfl rfl sx_1 (by decide) rfl (Nat.le_of_ble_eq_true rfl) (by omega) (fun v18 D18 q18 => ?_)
    exact hR 21 _ _ _ dX9_feed_21 (by rcases q18 with q | q; exact Or.inr (Or.inl ⟨h5, q⟩); exact Or.inr (Or.inr ⟨h5, q⟩))
  · refine q_if_ne (tgt := 13) hA (by decide) dX9_feed_8 (by decide) (fun h8 => absurd h8 (by decide)) (fun h8 => ?_)
    refine q_iconst hA dX9_feed_11 ?_
    exact hR 12 _ _ _ dX9_feed_12 (by exact Or.inl ⟨h5, rfl, rfl⟩)
set_option maxHeartbeats 4000000 in
set_option maxRecDepth 100000 in
theorem zX9_strip {g : Gm} {l : Launch} {D : Dat} (ht : tOk D) (ho4 : sOk D 4) : CrI g l 7 mX9_strip [vR 0] D (fun v D1 => (((pWhole (tAt D) (D 1 1) (rowX D 4)).1 = true ∧ v = rN (pWhole (tAt D) (D 1 1) (rowX D 4)).2.1 ∧ rowX D1 11 = (pWhole (tAt D) (D 1 1) (rowX D 4)).2.1 ∧ D1 18 1 = 0 ∧ D1 18 2 = 0) ∨ ((pWhole (tAt D) (D 1 1) (rowX D 4)).1 = false ∧ v = -100 - (pWhole (tAt D) (D 1 1) (rowX D 4)).2.2 ∧ rowX D1 11 = rowX D 11 ∧ D1 18 = D 18)) ∧ D1 1 1 = 0 ∧ sOk D1 4 ∧ D1 2 = D 2 ∧ ∀ c, 19 ≤ c → D1 c = D c) := by
  refine Cr.ofI (lo0 := [vR 0, vN]) (by decide) (Nat.le_of_ble_eq_true rfl) rfl (fun J hA hR => ?_)
  refine q_aload_n (j := 0) hA rfl dX9_strip_0 ?_
  refine q_getR hA f_X9_19 dX9_strip_1 sx_0 (by decide) fx_0_1 ?_
  refine q_aload_n (j := 0) hA rfl dX9_strip_4 ?_
  refine q_getR hA f_X9_10 dX9_strip_5 sx_0 (by decide) fx_0_0 ?_
  refine q_callVI (b := 3) (As := [vR 1]) (st := []) hA l_X9_77 kX5_readWhole (zX5_readWhole (by first | assumption | omega | rfl) (by first | assumption | omega | rfl)) dX9_strip_8 rfl rfl sx_3 (by decide) rfl (Nat.le_of_ble_eq_true rfl) (by omega) (fun v8 D8 q8 => ?_)
  obtain ⟨hv8, hr8, hp8, hf8, hd8⟩ := q8
  have hv01 : v8 = 0 ∨ v8 = 1 := by rcases hv8 with q | q <;> omega
  have hpl := hd8.2.2
  refine q_istore_n (j := 1) (lo2 := [vR 0, vI v8]) hA dX9_strip_11 (by decide) rfl rfl ?_
  refine q_aload_n (j := 0) hA rfl dX9_strip_12 ?_
  refine q_getR hA f_X9_10 dX9_strip_13 sx_0 (by decide) fx_0_0 ?_
  refine q_callVV (b := 1) (As := []) (st := []) hA l_X9_81 kX8_empty (zX8_empty) dX9_strip_16 rfl rfl sx_1 (by decide) rfl (Nat.le_of_ble_eq_true rfl) (by omega) (fun D16 q16 => ?_)
  have e16 : ∀ c, c ≠ 1 → D16 c = D8 c := fun c hc => by rw [q16, upD_other hc]
  have r16 : rowX D16 4 = rowX D8 4 := by unfold rowX; rw [e16 4 (by omega), e16 (4 + 1) (by omega), e16 (4 + 2) (by omega), e16 (4 + 3) (by omega), e16 (4 + 4) (by omega), e16 (4 + 5) (by omega), e16 (4 + 6) (by omega)]
  have o16 : sOk D16 4 := by unfold sOk; rw [r16]; exact hd8.2.1
  refine q_iload_n (j := 1) hA rfl dX9_strip_19 ?_
  refine q_if_ne (tgt := 34) hA (by omega) dX9_strip_20 (by decide) (fun h20 => ?_) (fun h20 => ?_)
  · refine q_aload_n (j := 0) hA rfl dX9_strip_34 ?_
    refine q_getR hA f_X9_26 dX9_strip_35 sx_0 (by decide) fx_0_2 ?_
    refine q_aload_n (j := 0) hA rfl dX9_strip_38 ?_
    refine q_getR hA f_X9_19 dX9_strip_39 sx_0 (by decide) fx_0_1 ?_
    refine q_getR hA f_X9_88 dX9_strip_42 sx_3 (by decide) fx_3_0 ?_
    refine q_callVV (b := 11) (As := [vR 4]) (st := []) hA l_X9_91 kX7_takeFrom (zX7_takeFrom isS11 isS4 (by omega)) dX9_strip_45 rfl rfl (strS isS11) (by decide) rfl (Nat.le_of_ble_eq_true rfl) (by omega) (fun D45 q45 => ?_)
    refine q_aload_n (j := 0) hA rfl dX9_strip_48 ?_
    refine q_getR hA f_X9_33 dX9_strip_49 sx_0 (by decide) fx_0_3 ?_
    refine q_callVV (b := 18) (As := []) (st := []) hA l_X9_95 kX2_forget (zX2_forget) dX9_strip_52 rfl rfl sx_18 (by decide) rfl (Nat.le_of_ble_eq_true rfl) (by omega) (fun D52 q52 => ?_)
    have e52 : ∀ c, c ≠ 18 → D52 c = D45 c := fun c hc => by rw [q52, upD_other hc, upD_other hc]
    have r52 : rowX D52 11 = (pWhole (tAt D) (D 1 1) (rowX D 4)).2.1 := by rw [show rowX D52 11 = rowX D45 11 from by unfold rowX; rw [e52 11 (by omega), e52 (11 + 1) (by omega), e52 (11 + 2) (by omega), e52 (11 + 3) (by omega), e52 (11 + 4) (by omega), e52 (11 + 5) (by omega), e52 (11 + 6) (by omega)], q45.1, r16, hr8]
    refine q_aload_n (j := 0) hA rfl dX9_strip_55 ?_
    refine q_getR hA f_X9_26 dX9_strip_56 sx_0 (by decide) fx_0_2 ?_
    refine q_getI (x := D52 11 6) hA f_X9_98 dX9_strip_59 (strS isS11) (by decide) rfl ?_
    exact hR 62 _ _ _ dX9_strip_62 (by refine ⟨Or.inl ⟨?_, ?_, r52, ?_, ?_⟩, ?_, ?_, ?_, fun c hc => ?_⟩; (rcases hv8 with q | q; exact q.1; omega); (rw [← r52, xN]); (rw [q52, upD_n (Or.inr (by decide)), upD_s]); (rw [q52, upD_s]); (rw [e52 1 (by omega), q45.2 1 (by omega), q16, upD_s]); (unfold sOk; rw [show rowX D52 4 = rowX D16 4 from by unfold rowX; rw [e52 4 (by omega), e52 (4 + 1) (by omega), e52 (4 + 2) (by omega), e52 (4 + 3) (by omega), e52 (4 + 4) (by omega), e52 (4 + 5) (by omega), e52 (4 + 6) (by omega), q45.2 4 (by omega), q45.2 (4 + 1) (by omega), q45.2 (4 + 2) (by omega), q45.2 (4 + 3) (by omega), q45.2 (4 + 4) (by omega), q45.2 (4 + 5) (by omega), q45.2 (4 + 6) (by omega)]]; exact o16); (rw [e52 2 (by omega), q45.2 2 (by omega), e16 2 (by omega)]; exact hf8 2 (by omega)); (rw [e52 c (by omega), q45.2 c (by omega), e16 c (by omega)]; exact hf8 c (by omega)))
  · refine q_bipush hA (by decide) dX9_strip_23 ?_
    refine q_aload_n (j := 0) hA rfl dX9_strip_25 ?_
    refine q_getR hA f_X9_19 dX9_strip_26 sx_0 (by decide) fx_0_1 ?_
    refine q_getI (x := D16 3 1) hA f_X9_84 dX9_strip_29 sx_3 (by decide) rfl ?_
    refine q_isub hA dX9_strip_32 ?_
    exact hR 33 _ _ _ dX9_strip_33 (by refine ⟨Or.inr ⟨?_, ?_, ?_, ?_⟩, ?_, o16, ?_, fun c hc => ?_⟩; (rcases hv8 with q | q; omega; exact q.1); (rw [e16 3 (by omega), hp8]); (unfold rowX; rw [e16 11 (by omega), e16 (11 + 1) (by omega), e16 (11 + 2) (by omega), e16 (11 + 3) (by omega), e16 (11 + 4) (by omega), e16 (11 + 5) (by omega), e16 (11 + 6) (by omega), hf8 11 (by omega), hf8 (11 + 1) (by omega), hf8 (11 + 2) (by omega), hf8 (11 + 3) (by omega), hf8 (11 + 4) (by omega), hf8 (11 + 5) (by omega), hf8 (11 + 6) (by omega)]); (rw [e16 18 (by omega)]; exact hf8 18 (by omega)); (rw [q16, upD_s]); (rw [e16 2 (by omega)]; exact hf8 2 (by omega)); (rw [e16 c (by omega)]; exact hf8 c (by omega)))
set_option maxHeartbeats 4000000 in
set_option maxRecDepth 100000 in
theorem zX9_picture {g : Gm} {l : Launch} {D : Dat} (ho : sOk D 11) {p : Int} {w : Int} (rp : -2147483648 ≤ p ∧ p ≤ 2147483647) (rw : -2147483648 ≤ w ∧ w ≤ 2147483647) : CrP g l 4 mX9_picture [vR 0, vI p, vI w] D (picR (rowX D 11) p w) := by
  unfold CrP
  refine Cr.ofI (lo0 := [vR 0, vI p, vI w]) (by decide) (Nat.le_of_ble_eq_true rfl) rfl (fun J hA hR => ?_)
  have hn := ho.n
  have hf := ho.f
  have hb := ho.b
  refine q_aload_n (j := 0) hA rfl dX9_picture_0 ?_
  refine q_getR hA f_X9_26 dX9_picture_1 sx_0 (by decide) fx_0_2 ?_
  refine q_iload_n (j := 1) hA rfl dX9_picture_4 ?_
  refine q_callVB (b := 11) (As := [vI p]) (st := []) hA l_X9_101 kX7_has (zX7_has isS11 ho (by omega)) dX9_picture_5 rfl rfl (strS isS11) (by decide) rfl (Nat.le_of_ble_eq_true rfl) (by omega) (fun h5 => ?_) (fun h5 => ?_)
  · refine q_if_ne (tgt := 13) hA (by decide) dX9_picture_8 (by decide) (fun h8 => ?_) (fun h8 => absurd h8 (by decide))
    have hp8 : 0 ≤ p ∧ p < 8 := by omega
    have hat := ho.at hp8
    refine q_iload_n (j := 2) hA rfl dX9_picture_13 ?_
    by_cases hsw : w < 0 ∨ 7 < w
    · refine q_tblOut (tgt := 146) hA (by omega) dX9_picture_14 hsw (by decide) ?_
      refine q_iconst hA dX9_picture_146 ?_
      exact hR 147 _ _ _ dX9_picture_147 ⟨(by unfold picR; rw [xN, if_neg (fun z => z h5), if_neg (by omega), if_neg (by omega), if_neg (by omega), if_neg (by omega), if_neg (by omega), if_neg (by omega), if_neg (by omega), if_neg (by omega)]), rfl⟩
    · have hsw2 : w = 0 ∨ w = 1 ∨ w = 2 ∨ w = 3 ∨ w = 4 ∨ w = 5 ∨ w = 6 ∨ w = 7 := by omega
      rcases hsw2 with hsw3 | hsw3 | hsw3 | hsw3 | hsw3 | hsw3 | hsw3 | hsw3
      · refine q_tblIn (tgt := 60) (off := 46) hA (by omega) dX9_picture_14 (by omega) (by rw [hsw3]; rfl) (by decide) ?_
        refine q_aload_n (j := 0) hA rfl dX9_picture_60 ?_
        refine q_getR hA f_X9_26 dX9_picture_61 sx_0 (by decide) fx_0_2 ?_
        refine q_getR hA f_X9_105 dX9_picture_64 (strS isS11) (by decide) (strF0 isS11) ?_
        refine q_iload_n (j := 1) hA rfl dX9_picture_67 ?_
        refine q_iald (x := D 12 p) hA dX9_picture_68 (strS1 isS11) (by omega) (by decide) rfl ?_
        exact hR 69 _ _ _ dX9_picture_69 ⟨(by unfold picR; rw [xN, if_neg (fun z => z h5), xK hp8, xW hp8, xBe hp8, xWe hp8, xSh hp8, xL hp8, hsw3]; rfl), rfl⟩
      · refine q_tblIn (tgt := 70) (off := 56) hA (by omega) dX9_picture_14 (by omega) (by rw [hsw3]; rfl) (by decide) ?_
        refine q_aload_n (j := 0) hA rfl dX9_picture_70 ?_
        refine q_getR hA f_X9_26 dX9_picture_71 sx_0 (by decide) fx_0_2 ?_
        refine q_getR hA f_X9_109 dX9_picture_74 (strS isS11) (by decide) (strF1 isS11) ?_
        refine q_iload_n (j := 1) hA rfl dX9_picture_77 ?_
        refine q_iald (x := D 13 p) hA dX9_picture_78 (strS2 isS11) (by omega) (by decide) rfl ?_
        exact hR 79 _ _ _ dX9_picture_79 ⟨(by unfold picR; rw [xN, if_neg (fun z => z h5), xK hp8, xW hp8, xBe hp8, xWe hp8, xSh hp8, xL hp8, hsw3]; rfl), rfl⟩
      · refine q_tblIn (tgt := 80) (off := 66) hA (by omega) dX9_picture_14 (by omega) (by rw [hsw3]; rfl) (by decide) ?_
        refine q_aload_n (j := 0) hA rfl dX9_picture_80 ?_
        refine q_getR hA f_X9_26 dX9_picture_81 sx_0 (by decide) fx_0_2 ?_
        refine q_getR hA f_X9_112 dX9_picture_84 (strS isS11) (by decide) (strF2 isS11) ?_
        refine q_iload_n (j := 1) hA rfl dX9_picture_87 ?_
        refine q_iald (x := D 14 p) hA dX9_picture_88 (strS3 isS11) (by omega) (by decide) rfl ?_
        exact hR 89 _ _ _ dX9_picture_89 ⟨(by unfold picR; rw [xN, if_neg (fun z => z h5), xK hp8, xW hp8, xBe hp8, xWe hp8, xSh hp8, xL hp8, hsw3]; rfl), rfl⟩
      · refine q_tblIn (tgt := 90) (off := 76) hA (by omega) dX9_picture_14 (by omega) (by rw [hsw3]; rfl) (by decide) ?_
        refine q_aload_n (j := 0) hA rfl dX9_picture_90 ?_
        refine q_getR hA f_X9_26 dX9_picture_91 sx_0 (by decide) fx_0_2 ?_
        refine q_getR hA f_X9_115 dX9_picture_94 (strS isS11) (by decide) (strF3 isS11) ?_
        refine q_iload_n (j := 1) hA rfl dX9_picture_97 ?_
        refine q_iald (x := D 15 p) hA dX9_picture_98 (strS4 isS11) (by omega) (by decide) rfl ?_
        exact hR 99 _ _ _ dX9_picture_99 ⟨(by unfold picR; rw [xN, if_neg (fun z => z h5), xK hp8, xW hp8, xBe hp8, xWe hp8, xSh hp8, xL hp8, hsw3]; rfl), rfl⟩
      · refine q_tblIn (tgt := 100) (off := 86) hA (by omega) dX9_picture_14 (by omega) (by rw [hsw3]; rfl) (by decide) ?_
        refine q_aload_n (j := 0) hA rfl dX9_picture_100 ?_
        refine q_getR hA f_X9_26 dX9_picture_101 sx_0 (by decide) fx_0_2 ?_
        refine q_getR hA f_X9_118 dX9_picture_104 (strS isS11) (by decide) (strF4 isS11) ?_
        refine q_iload_n (j := 1) hA rfl dX9_picture_107 ?_
        refine q_iald (x := D 16 p) hA dX9_picture_108 (strS5 isS11) (by omega) (by decide) rfl ?_
        exact hR 109 _ _ _ dX9_picture_109 ⟨(by unfold picR; rw [xN, if_neg (fun z => z h5), xK hp8, xW hp8, xBe hp8, xWe hp8, xSh hp8, xL hp8, hsw3]; rfl), rfl⟩
      · refine q_tblIn (tgt := 110) (off := 96) hA (by omega) dX9_picture_14 (by omega) (by rw [hsw3]; rfl) (by decide) ?_
        refine q_aload_n (j := 0) hA rfl dX9_picture_110 ?_
        refine q_getR hA f_X9_26 dX9_picture_111 sx_0 (by decide) fx_0_2 ?_
        refine q_iload_n (j := 1) hA rfl dX9_picture_114 ?_
        refine q_callVP (b := 11) (As := [vI p]) (st := []) hA l_X9_121 kX7_effortOf (zX7_effortOf isS11 ho (by omega)) dX9_picture_115 rfl rfl (strS isS11) (by decide) rfl (Nat.le_of_ble_eq_true rfl) (by omega) ?_
        refine q_nmI (fun v115 ev115 => ?_)
        exact hR 118 _ _ _ dX9_picture_118 ⟨(by unfold picR; rw [xN, if_neg (fun z => z h5), xK hp8, xW hp8, xBe hp8, xWe hp8, xSh hp8, xL hp8, hsw3]; exact ev115), rfl⟩
      · refine q_tblIn (tgt := 119) (off := 105) hA (by omega) dX9_picture_14 (by omega) (by rw [hsw3]; rfl) (by decide) ?_
        refine q_aload_n (j := 0) hA rfl dX9_picture_119 ?_
        refine q_getR hA f_X9_26 dX9_picture_120 sx_0 (by decide) fx_0_2 ?_
        refine q_getR hA f_X9_124 dX9_picture_123 (strS isS11) (by decide) (strF5 isS11) ?_
        refine q_iload_n (j := 1) hA rfl dX9_picture_126 ?_
        refine q_iald (x := D 17 p) hA dX9_picture_127 (strS6 isS11) (by omega) (by decide) rfl ?_
        exact hR 128 _ _ _ dX9_picture_128 ⟨(by unfold picR; rw [xN, if_neg (fun z => z h5), xK hp8, xW hp8, xBe hp8, xWe hp8, xSh hp8, xL hp8, hsw3]; rfl), rfl⟩
      · refine q_tblIn (tgt := 129) (off := 115) hA (by omega) dX9_picture_14 (by omega) (by rw [hsw3]; rfl) (by decide) ?_
        refine q_aload_n (j := 0) hA rfl dX9_picture_129 ?_
        refine q_getR hA f_X9_26 dX9_picture_130 sx_0 (by decide) fx_0_2 ?_
        refine q_iload_n (j := 1) hA rfl dX9_picture_133 ?_
        refine q_callVB (b := 11) (As := [vI p]) (st := []) hA l_X9_127 kX7_isTorn (zX7_isTorn isS11 ho (by omega)) dX9_picture_134 rfl rfl (strS isS11) (by decide) rfl (Nat.le_of_ble_eq_true rfl) (by omega) (fun h134 => ?_) (fun h134 => ?_)
        · refine q_if_eq (tgt := 144) hA (by decide) dX9_picture_137 (by decide) (fun h137 => absurd h137 (by decide)) (fun h137 => ?_)
          refine q_iconst hA dX9_picture_140 ?_
          refine q_goto (tgt := 145) hA dX9_picture_141 (by decide) ?_
          exact hR 145 _ _ _ dX9_picture_145 ⟨(by unfold picR; rw [xN, if_neg (fun z => z h5), xK hp8, xW hp8, xBe hp8, xWe hp8, xSh hp8, xL hp8, hsw3]; first | exact (if_pos h134.2).symm | exact (if_neg (fun z => h134 ⟨h5, z⟩)).symm), rfl⟩
        · refine q_if_eq (tgt := 144) hA (by decide) dX9_picture_137 (by decide) (fun h137 => ?_) (fun h137 => absurd h137 (by decide))
          refine q_iconst hA dX9_picture_144 ?_
          exact hR 145 _ _ _ dX9_picture_145 ⟨(by unfold picR; rw [xN, if_neg (fun z => z h5), xK hp8, xW hp8, xBe hp8, xWe hp8, xSh hp8, xL hp8, hsw3]; first | exact (if_pos h134.2).symm | exact (if_neg (fun z => h134 ⟨h5, z⟩)).symm), rfl⟩
  · refine q_if_ne (tgt := 13) hA (by decide) dX9_picture_8 (by decide) (fun h8 => absurd h8 (by decide)) (fun h8 => ?_)
    refine q_iconst hA dX9_picture_11 ?_
    exact hR 12 _ _ _ dX9_picture_12 ⟨(by unfold picR; rw [xN, if_pos h5]), rfl⟩
set_option maxHeartbeats 4000000 in
set_option maxRecDepth 100000 in
theorem zX9_as {g : Gm} {l : Launch} {D : Dat} (ho : sOk D 11) {p : Int} {k : Int} (rp : -2147483648 ≤ p ∧ p ≤ 2147483647) (rk : -2147483648 ≤ k ∧ k ≤ 2147483647) : CrP g l 2 mX9_as [vR 0, vI p, vI k] D (asR (rowX D 11) p k) := by
  unfold CrP
  refine Cr.ofI (lo0 := [vR 0, vI p, vI k]) (by decide) (Nat.le_of_ble_eq_true rfl) rfl (fun J hA hR => ?_)
  have hn := ho.n
  have hf := ho.f
  have hb := ho.b
  refine q_aload_n (j := 0) hA rfl dX9_as_0 ?_
  refine q_getR hA f_X9_26 dX9_as_1 sx_0 (by decide) fx_0_2 ?_
  refine q_iload_n (j := 1) hA rfl dX9_as_4 ?_
  refine q_callVB (b := 11) (As := [vI p]) (st := []) hA l_X9_101 kX7_has (zX7_has isS11 ho (by omega)) dX9_as_5 rfl rfl (strS isS11) (by decide) rfl (Nat.le_of_ble_eq_true rfl) (by omega) (fun h5 => ?_) (fun h5 => ?_)
  · refine q_if_eq (tgt := 20) hA (by decide) dX9_as_8 (by decide) (fun h8 => absurd h8 (by decide)) (fun h8 => ?_)
    refine q_iload_n (j := 2) hA rfl dX9_as_11 ?_
    refine q_iconst hA dX9_as_12 ?_
    refine q_iconst hA dX9_as_13 ?_
    refine q_callSB (As := [vI k, vI 0, vI 5]) (st := []) hA l_X9_69 kX9_isWithin (zX9_isWithin (by first | assumption | omega | rfl) (by first | assumption | omega | rfl) (by first | assumption | omega | rfl)) dX9_as_14 rfl rfl (Nat.le_of_ble_eq_true rfl) (by omega) (fun h14 => ?_) (fun h14 => ?_)
    · refine q_if_ne (tgt := 22) hA (by decide) dX9_as_17 (by decide) (fun h17 => ?_) (fun h17 => absurd h17 (by decide))
      have hp8 : 0 ≤ p ∧ p < 8 := by omega
      have hat := ho.at hp8
      have hat2 := hat.2.2.2.2.2.2 (by omega)
      have hk12 : 1 ≤ D 12 p ∧ D 12 p ≤ 5 := ⟨hat2.1, hat.1.2⟩
      refine q_aload_n (j := 0) hA rfl dX9_as_22 ?_
      refine q_getR hA f_X9_26 dX9_as_23 sx_0 (by decide) fx_0_2 ?_
      refine q_getR hA f_X9_105 dX9_as_26 (strS isS11) (by decide) (strF0 isS11) ?_
      refine q_iload_n (j := 1) hA rfl dX9_as_29 ?_
      refine q_iald (x := D 12 p) hA dX9_as_30 (strS1 isS11) (by omega) (by decide) rfl ?_
      refine q_iload_n (j := 2) hA rfl dX9_as_31 ?_
      refine q_callSB (As := [vI (D 12 p), vI k]) (st := []) hA l_X9_132 kX3_isUnder (zX3_isUnder (by omega) (by omega)) dX9_as_32 rfl rfl (Nat.le_of_ble_eq_true rfl) (by omega) (fun h32 => ?_) (fun h32 => ?_)
      · refine q_if_eq (tgt := 42) hA (by decide) dX9_as_35 (by decide) (fun h35 => absurd h35 (by decide)) (fun h35 => ?_)
        refine q_iload_n (j := 1) hA rfl dX9_as_38 ?_
        refine q_goto (tgt := 44) hA dX9_as_39 (by decide) ?_
        exact hR 44 _ _ _ dX9_as_44 ⟨(by unfold asR; rw [xN, if_pos ⟨h5, h14⟩, xK hp8]; first | exact (if_pos h32).symm | exact (if_neg h32).symm), rfl⟩
      · refine q_if_eq (tgt := 42) hA (by decide) dX9_as_35 (by decide) (fun h35 => ?_) (fun h35 => absurd h35 (by decide))
        refine q_bipush hA (by decide) dX9_as_42 ?_
        exact hR 44 _ _ _ dX9_as_44 ⟨(by unfold asR; rw [xN, if_pos ⟨h5, h14⟩, xK hp8]; first | exact (if_pos h32).symm | exact (if_neg h32).symm), rfl⟩
    · refine q_if_ne (tgt := 22) hA (by decide) dX9_as_17 (by decide) (fun h17 => absurd h17 (by decide)) (fun h17 => ?_)
      refine q_iconst hA dX9_as_20 ?_
      exact hR 21 _ _ _ dX9_as_21 ⟨(by unfold asR; rw [xN, if_neg (by first | (intro z; exact h5 z.1) | (intro z; exact h14 z.2))]), rfl⟩
  · refine q_if_eq (tgt := 20) hA (by decide) dX9_as_8 (by decide) (fun h8 => ?_) (fun h8 => absurd h8 (by decide))
    refine q_iconst hA dX9_as_20 ?_
    exact hR 21 _ _ _ dX9_as_21 ⟨(by unfold asR; rw [xN, if_neg (by first | (intro z; exact h5 z.1) | (intro z; exact h14 z.2))]), rfl⟩
set_option maxHeartbeats 4000000 in
set_option maxRecDepth 100000 in
theorem zX9_brings {g : Gm} {l : Launch} {D : Dat} (ho : sOk D 11) (hfb : D 11 6 ≠ 0 → (0 ≤ D 11 7 ∧ D 11 7 < D 11 6) ∧ (0 ≤ D 11 8 ∧ D 11 8 < D 11 6)) {s : Int} (rs : -2147483648 ≤ s ∧ s ≤ 2147483647) : CrP g l 3 mX9_brings [vR 0, vI s] D (if 0 ≤ s ∧ s ≤ 1 then (if 0 < D 11 6 then thX (rowX D 11) (D 11 7) (D 11 8) s else -2) else -1) := by
  unfold CrP
  refine Cr.ofI (lo0 := [vR 0, vI s]) (by decide) (Nat.le_of_ble_eq_true rfl) rfl (fun J hA hR => ?_)
  have hn := ho.n
  have hf := ho.f
  have hb := ho.b
  refine q_iload_n (j := 1) hA rfl dX9_brings_0 ?_
  refine q_callSB (As := [vI s]) (st := []) hA l_X9_136 kX9_isSide (zX9_isSide (by first | assumption | omega | rfl)) dX9_brings_1 rfl rfl (Nat.le_of_ble_eq_true rfl) (by omega) (fun h1 => ?_) (fun h1 => ?_)
  · refine q_if_ne (tgt := 9) hA (by decide) dX9_brings_4 (by decide) (fun h4 => ?_) (fun h4 => absurd h4 (by decide))
    refine q_aload_n (j := 0) hA rfl dX9_brings_9 ?_
    refine q_getR hA f_X9_26 dX9_brings_10 sx_0 (by decide) fx_0_2 ?_
    refine q_callVB (b := 11) (As := []) (st := []) hA l_X9_139 kX7_isMissing (zX7_isMissing isS11 ho) dX9_brings_13 rfl rfl (strS isS11) (by decide) rfl (Nat.le_of_ble_eq_true rfl) (by omega) (fun h13 => ?_) (fun h13 => ?_)
    · refine q_if_eq (tgt := 22) hA (by decide) dX9_brings_16 (by decide) (fun h16 => absurd h16 (by decide)) (fun h16 => ?_)
      refine q_bipush hA (by decide) dX9_brings_19 ?_
      exact hR 21 _ _ _ dX9_brings_21 ⟨(by rw [if_pos (by omega), if_neg (by omega)]), rfl⟩
    · refine q_if_eq (tgt := 22) hA (by decide) dX9_brings_16 (by decide) (fun h16 => ?_) (fun h16 => absurd h16 (by decide))
      refine q_aload_n (j := 0) hA rfl dX9_brings_22 ?_
      refine q_getR hA f_X9_26 dX9_brings_23 sx_0 (by decide) fx_0_2 ?_
      refine q_aload_n (j := 0) hA rfl dX9_brings_26 ?_
      refine q_getR hA f_X9_26 dX9_brings_27 sx_0 (by decide) fx_0_2 ?_
      refine q_getI (x := D 11 7) hA f_X9_143 dX9_brings_30 (strS isS11) (by decide) rfl ?_
      refine q_aload_n (j := 0) hA rfl dX9_brings_33 ?_
      refine q_getR hA f_X9_26 dX9_brings_34 sx_0 (by decide) fx_0_2 ?_
      refine q_getI (x := D 11 8) hA f_X9_146 dX9_brings_37 (strS isS11) (by decide) rfl ?_
      refine q_iload_n (j := 1) hA rfl dX9_brings_40 ?_
      refine q_callVP (b := 11) (As := [vI (D 11 7), vI (D 11 8), vI s]) (st := []) hA l_X9_149 kX7_third (zX7_third isS11 ho (by omega) (by omega) (by omega)) dX9_brings_41 rfl rfl (strS isS11) (by decide) rfl (Nat.le_of_ble_eq_true rfl) (by omega) ?_
      refine q_nmI (fun v41 ev41 => ?_)
      exact hR 44 _ _ _ dX9_brings_44 ⟨(by rw [if_pos (by omega), if_pos (by omega)]; exact ev41), rfl⟩
  · refine q_if_ne (tgt := 9) hA (by decide) dX9_brings_4 (by decide) (fun h4 => absurd h4 (by decide)) (fun h4 => ?_)
    refine q_iconst hA dX9_brings_7 ?_
    exact hR 8 _ _ _ dX9_brings_8 ⟨(by rw [if_neg (by omega)]), rfl⟩
set_option maxHeartbeats 4000000 in
set_option maxRecDepth 100000 in
theorem zX9_doMove {g : Gm} {l : Launch} {D : Dat} (ho : sOk D 11) (hfb : D 11 6 ≠ 0 → (0 ≤ D 11 7 ∧ D 11 7 < D 11 6) ∧ (0 ≤ D 11 8 ∧ D 11 8 < D 11 6)) (hh : hOk D) {m : Int} (hm : 0 ≤ m ∧ m ≤ 2) : CrI g l 5 mX9_doMove [vR 0, vI m] D (fun v D1 => (¬ (0 < D 11 6 ∧ 0 ≤ comesR (rowX D 11) m) ∧ v = -2 ∧ D1 = D) ∨ ((0 < D 11 6 ∧ 0 ≤ comesR (rowX D 11) m) ∧ ∃ K, kepX D K ∧ rowX D1 11 = goR (rowX D 11) m ∧ frm 11 7 K D1 ∧ v = rF (goR (rowX D 11) m))) := by
  refine Cr.ofI (lo0 := [vR 0, vI m]) (by decide) (Nat.le_of_ble_eq_true rfl) rfl (fun J hA hR => ?_)
  have hn := ho.n
  have hf := ho.f
  have hb := ho.b
  refine q_aload_n (j := 0) hA rfl dX9_doMove_0 ?_
  refine q_getR hA f_X9_26 dX9_doMove_1 sx_0 (by decide) fx_0_2 ?_
  refine q_callVB (b := 11) (As := []) (st := []) hA l_X9_139 kX7_isMissing (zX7_isMissing isS11 ho) dX9_doMove_4 rfl rfl (strS isS11) (by decide) rfl (Nat.le_of_ble_eq_true rfl) (by omega) (fun h4 => ?_) (fun h4 => ?_)
  · refine q_if_ne (tgt := 21) hA (by decide) dX9_doMove_7 (by decide) (fun h7 => ?_) (fun h7 => absurd h7 (by decide))
    refine q_bipush hA (by decide) dX9_doMove_21 ?_
    exact hR 23 _ _ _ dX9_doMove_23 (by first | exact Or.inl ⟨fun z => absurd z.1 (by omega), rfl, rfl⟩ | exact Or.inl ⟨fun z => absurd z.2 (by rw [← ec]; omega), rfl, rfl⟩)
  · refine q_if_ne (tgt := 21) hA (by decide) dX9_doMove_7 (by decide) (fun h7 => absurd h7 (by decide)) (fun h7 => ?_)
    refine q_aload_n (j := 0) hA rfl dX9_doMove_10 ?_
    refine q_getR hA f_X9_26 dX9_doMove_11 sx_0 (by decide) fx_0_2 ?_
    refine q_iload_n (j := 1) hA rfl dX9_doMove_14 ?_
    refine q_callVP (b := 11) (As := [vI m]) (st := []) hA l_X9_156 kX7_comesBy (zX7_comesBy isS11 ho hm (by omega) (by omega)) dX9_doMove_15 rfl rfl (strS isS11) (by decide) rfl (Nat.le_of_ble_eq_true rfl) (by omega) ?_
    refine q_nmI (fun c ec => ?_)
    have hci := comesR_in (r := rowX D 11) (m := m) (by rw [xN]; omega) (by rw [xN, xB]; omega)
    rw [← ec, xN] at hci
    refine q_if_ge (tgt := 24) hA (by omega) dX9_doMove_18 (by decide) (fun h18 => ?_) (fun h18 => ?_)
    · refine q_aload_n (j := 0) hA rfl dX9_doMove_24 ?_
      refine q_getR hA f_X9_33 dX9_doMove_25 sx_0 (by decide) fx_0_3 ?_
      refine q_aload_n (j := 0) hA rfl dX9_doMove_28 ?_
      refine q_getR hA f_X9_26 dX9_doMove_29 sx_0 (by decide) fx_0_2 ?_
      refine q_callVV (b := 18) (As := [vR 11]) (st := []) hA l_X9_159 kX2_keep (zX2_keep hh) dX9_doMove_32 rfl rfl sx_18 (by decide) rfl (Nat.le_of_ble_eq_true rfl) (by omega) (fun D32 q32 => ?_)
      have k32 : kepX D D32 := q32
      have r32 := k32.r
      have o32 : sOk D32 11 := by unfold sOk; rw [r32]; exact ho
      have e32 : D32 11 = D 11 := k32.2.2.2 11 (by omega) (by unfold stHist; omega)
      refine q_aload_n (j := 0) hA rfl dX9_doMove_35 ?_
      refine q_getR hA f_X9_26 dX9_doMove_36 sx_0 (by decide) fx_0_2 ?_
      refine q_iload_n (j := 1) hA rfl dX9_doMove_39 ?_
      refine q_callVV (b := 11) (As := [vI m]) (st := []) hA l_X9_162 kX7_go (zX7_go isS11 o32 hm (by rw [e32]; omega) (by rw [e32]; omega)) dX9_doMove_40 rfl rfl (strS isS11) (by decide) rfl (Nat.le_of_ble_eq_true rfl) (by omega) (fun D40 q40 => ?_)
      refine q_aload_n (j := 0) hA rfl dX9_doMove_43 ?_
      refine q_getR hA f_X9_26 dX9_doMove_44 sx_0 (by decide) fx_0_2 ?_
      refine q_getI (x := D40 11 7) hA f_X9_143 dX9_doMove_47 (strS isS11) (by decide) rfl ?_
      exact hR 50 _ _ _ dX9_doMove_50 (by exact Or.inr ⟨⟨by omega, by rw [← ec]; omega⟩, D32, k32, by rw [q40.1, r32], q40.2, by rw [← r32, ← q40.1, xF]⟩)
    · refine q_bipush hA (by decide) dX9_doMove_21 ?_
      exact hR 23 _ _ _ dX9_doMove_23 (by first | exact Or.inl ⟨fun z => absurd z.1 (by omega), rfl, rfl⟩ | exact Or.inl ⟨fun z => absurd z.2 (by rw [← ec]; omega), rfl, rfl⟩)
set_option maxHeartbeats 4000000 in
set_option maxRecDepth 100000 in
theorem zX9_flex {g : Gm} {l : Launch} {D : Dat} (ho : sOk D 11) (hfb : D 11 6 ≠ 0 → (0 ≤ D 11 7 ∧ D 11 7 < D 11 6) ∧ (0 ≤ D 11 8 ∧ D 11 8 < D 11 6)) (hh : hOk D) {s : Int} (rs : -2147483648 ≤ s ∧ s ≤ 2147483647) : CrI g l 6 mX9_flex [vR 0, vI s] D (fun v D1 => (¬ (0 ≤ s ∧ s ≤ 1) ∧ v = -1 ∧ D1 = D) ∨ ((0 ≤ s ∧ s ≤ 1) ∧ ((¬ (0 < D 11 6 ∧ 0 ≤ comesR (rowX D 11) s) ∧ v = -2 ∧ D1 = D) ∨ ((0 < D 11 6 ∧ 0 ≤ comesR (rowX D 11) s) ∧ ∃ K, kepX D K ∧ rowX D1 11 = goR (rowX D 11) s ∧ frm 11 7 K D1 ∧ v = rF (goR (rowX D 11) s))))) := by
  refine Cr.ofI (lo0 := [vR 0, vI s]) (by decide) (Nat.le_of_ble_eq_true rfl) rfl (fun J hA hR => ?_)
  refine q_iload_n (j := 1) hA rfl dX9_flex_0 ?_
  refine q_callSB (As := [vI s]) (st := []) hA l_X9_136 kX9_isSide (zX9_isSide (by first | assumption | omega | rfl)) dX9_flex_1 rfl rfl (Nat.le_of_ble_eq_true rfl) (by omega) (fun h1 => ?_) (fun h1 => ?_)
  · refine q_if_eq (tgt := 15) hA (by decide) dX9_flex_4 (by decide) (fun h4 => absurd h4 (by decide)) (fun h4 => ?_)
    refine q_aload_n (j := 0) hA rfl dX9_flex_7 ?_
    refine q_iload_n (j := 1) hA rfl dX9_flex_8 ?_
    refine q_callVI (b := 0) (As := [vI s]) (st := []) hA l_X9_153 kX9_doMove (zX9_doMove ho hfb hh (by omega)) dX9_flex_9 rfl rfl sx_0 (by decide) rfl (Nat.le_of_ble_eq_true rfl) (by omega) (fun v9 D9 q9 => ?_)
    refine q_goto (tgt := 16) hA dX9_flex_12 (by decide) ?_
    exact hR 16 _ _ _ dX9_flex_16 (by first | exact Or.inl ⟨by omega, rfl, rfl⟩ | exact Or.inr ⟨by omega, q9⟩)
  · refine q_if_eq (tgt := 15) hA (by decide) dX9_flex_4 (by decide) (fun h4 => ?_) (fun h4 => absurd h4 (by decide))
    refine q_iconst hA dX9_flex_15 ?_
    exact hR 16 _ _ _ dX9_flex_16 (by first | exact Or.inl ⟨by omega, rfl, rfl⟩ | exact Or.inr ⟨by omega, q9⟩)
set_option maxHeartbeats 4000000 in
set_option maxRecDepth 100000 in
theorem zX9_turn {g : Gm} {l : Launch} {D : Dat} (ho : sOk D 11) (hfb : D 11 6 ≠ 0 → (0 ≤ D 11 7 ∧ D 11 7 < D 11 6) ∧ (0 ≤ D 11 8 ∧ D 11 8 < D 11 6)) (hh : hOk D) : CrI g l 6 mX9_turn [vR 0] D (fun v D1 => (¬ (0 < D 11 6 ∧ 0 ≤ comesR (rowX D 11) 2) ∧ v = -2 ∧ D1 = D) ∨ ((0 < D 11 6 ∧ 0 ≤ comesR (rowX D 11) 2) ∧ ∃ K, kepX D K ∧ rowX D1 11 = goR (rowX D 11) 2 ∧ frm 11 7 K D1 ∧ v = rF (goR (rowX D 11) 2))) := by
  refine Cr.ofI (lo0 := [vR 0]) (by decide) (Nat.le_of_ble_eq_true rfl) rfl (fun J hA hR => ?_)
  refine q_aload_n (j := 0) hA rfl dX9_turn_0 ?_
  refine q_iconst hA dX9_turn_1 ?_
  refine q_callVI (b := 0) (As := [vI 2]) (st := []) hA l_X9_153 kX9_doMove (zX9_doMove ho hfb hh (by omega)) dX9_turn_2 rfl rfl sx_0 (by decide) rfl (Nat.le_of_ble_eq_true rfl) (by omega) (fun v2 D2 q2 => ?_)
  exact hR 5 _ _ _ dX9_turn_5 (by exact q2)
set_option maxHeartbeats 4000000 in
set_option maxRecDepth 100000 in
theorem zX9_refold {g : Gm} {l : Launch} {D : Dat} (ho : sOk D 11) (hh : hOk D) {p : Int} {q : Int} (rp : -2147483648 ≤ p ∧ p ≤ 2147483647) (rq : -2147483648 ≤ q ∧ q ≤ 2147483647) : CrI g l 4 mX9_refold [vR 0, vI p, vI q] D (fun v D1 => (¬ ((0 ≤ p ∧ p < D 11 6) ∧ (0 ≤ q ∧ q < D 11 6) ∧ p ≠ q) ∧ v = -1 ∧ D1 = D) ∨ (((0 ≤ p ∧ p < D 11 6) ∧ (0 ≤ q ∧ q < D 11 6) ∧ p ≠ q) ∧ ¬ (((tb (D 17 p) q = true ∧ ¬ (p - q = 1 ∨ q - p = 1 ∨ p - q = D 11 6 - 1 ∨ q - p = D 11 6 - 1)) ∧ ¬ ((D 11 7 = p ∧ D 11 8 = q) ∨ (D 11 7 = q ∧ D 11 8 = p))) ∧ 0 ≤ thX (rowX D 11) p q 0 ∧ 0 ≤ thX (rowX D 11) p q 1) ∧ v = -2 ∧ D1 = D) ∨ (((0 ≤ p ∧ p < D 11 6) ∧ (0 ≤ q ∧ q < D 11 6) ∧ p ≠ q) ∧ (((tb (D 17 p) q = true ∧ ¬ (p - q = 1 ∨ q - p = 1 ∨ p - q = D 11 6 - 1 ∨ q - p = D 11 6 - 1)) ∧ ¬ ((D 11 7 = p ∧ D 11 8 = q) ∨ (D 11 7 = q ∧ D 11 8 = p))) ∧ 0 ≤ thX (rowX D 11) p q 0 ∧ 0 ≤ thX (rowX D 11) p q 1) ∧ (∃ K, kepX D K ∧ rowX D1 11 = joinR (partR (rowX D 11) p q) (thX (rowX D 11) p q 0) (thX (rowX D 11) p q 1) ∧ frm 11 7 K D1) ∧ v = (if thX (rowX D 11) p q 1 < thX (rowX D 11) p q 0 then thX (rowX D 11) p q 1 else thX (rowX D 11) p q 0) * 10 + (if thX (rowX D 11) p q 0 < thX (rowX D 11) p q 1 then thX (rowX D 11) p q 1 else thX (rowX D 11) p q 0))) := by
  refine Cr.ofI (lo0 := [vR 0, vI p, vI q, vN, vN]) (by decide) (Nat.le_of_ble_eq_true rfl) rfl (fun J hA hR => ?_)
  have hn := ho.n
  have hf := ho.f
  have hb := ho.b
  refine q_aload_n (j := 0) hA rfl dX9_refold_0 ?_
  refine q_getR hA f_X9_26 dX9_refold_1 sx_0 (by decide) fx_0_2 ?_
  refine q_iload_n (j := 1) hA rfl dX9_refold_4 ?_
  refine q_callVB (b := 11) (As := [vI p]) (st := []) hA l_X9_101 kX7_has (zX7_has isS11 ho (by omega)) dX9_refold_5 rfl rfl (strS isS11) (by decide) rfl (Nat.le_of_ble_eq_true rfl) (by omega) (fun h5 => ?_) (fun h5 => ?_)
  · refine q_if_eq (tgt := 27) hA (by decide) dX9_refold_8 (by decide) (fun h8 => absurd h8 (by decide)) (fun h8 => ?_)
    refine q_aload_n (j := 0) hA rfl dX9_refold_11 ?_
    refine q_getR hA f_X9_26 dX9_refold_12 sx_0 (by decide) fx_0_2 ?_
    refine q_iload_n (j := 2) hA rfl dX9_refold_15 ?_
    refine q_callVB (b := 11) (As := [vI q]) (st := []) hA l_X9_101 kX7_has (zX7_has isS11 ho (by omega)) dX9_refold_16 rfl rfl (strS isS11) (by decide) rfl (Nat.le_of_ble_eq_true rfl) (by omega) (fun h16 => ?_) (fun h16 => ?_)
    · refine q_if_eq (tgt := 27) hA (by decide) dX9_refold_19 (by decide) (fun h19 => absurd h19 (by decide)) (fun h19 => ?_)
      refine q_iload_n (j := 1) hA rfl dX9_refold_22 ?_
      refine q_iload_n (j := 2) hA rfl dX9_refold_23 ?_
      refine q_icmp_ne (tgt := 29) hA (by omega) (by omega) dX9_refold_24 (by decide) (fun h24 => ?_) (fun h24 => ?_)
      · have hH : ((0 ≤ p ∧ p < D 11 6) ∧ (0 ≤ q ∧ q < D 11 6) ∧ p ≠ q) := ⟨h5, h16, h24⟩
        refine q_aload_n (j := 0) hA rfl dX9_refold_29 ?_
        refine q_getR hA f_X9_26 dX9_refold_30 sx_0 (by decide) fx_0_2 ?_
        refine q_iload_n (j := 1) hA rfl dX9_refold_33 ?_
        refine q_iload_n (j := 2) hA rfl dX9_refold_34 ?_
        refine q_callVB (b := 11) (As := [vI p, vI q]) (st := []) hA l_X9_166 kX7_isFold (zX7_isFold isS11 ho (by omega) (by omega)) dX9_refold_35 rfl rfl (strS isS11) (by decide) rfl (Nat.le_of_ble_eq_true rfl) (by omega) (fun h35 => ?_) (fun h35 => ?_)
        · refine q_if_eq (tgt := 53) hA (by decide) dX9_refold_38 (by decide) (fun h38 => absurd h38 (by decide)) (fun h38 => ?_)
          refine q_aload_n (j := 0) hA rfl dX9_refold_41 ?_
          refine q_getR hA f_X9_26 dX9_refold_42 sx_0 (by decide) fx_0_2 ?_
          refine q_iload_n (j := 1) hA rfl dX9_refold_45 ?_
          refine q_iload_n (j := 2) hA rfl dX9_refold_46 ?_
          refine q_callVB (b := 11) (As := [vI p, vI q]) (st := []) hA l_X9_169 kX7_isShowing (zX7_isShowing isS11 ho (by omega) (by omega)) dX9_refold_47 rfl rfl (strS isS11) (by decide) rfl (Nat.le_of_ble_eq_true rfl) (by omega) (fun h47 => ?_) (fun h47 => ?_)
          · refine q_if_eq (tgt := 56) hA (by decide) dX9_refold_50 (by decide) (fun h50 => absurd h50 (by decide)) (fun h50 => ?_)
            refine q_bipush hA (by decide) dX9_refold_53 ?_
            exact hR 55 _ _ _ dX9_refold_55 (by first | exact Or.inr (Or.inl ⟨hH, fun z => h35 z.1.1, rfl, rfl⟩) | exact Or.inr (Or.inl ⟨hH, fun z => z.1.2 h47, rfl, rfl⟩))
          · refine q_if_eq (tgt := 56) hA (by decide) dX9_refold_50 (by decide) (fun h50 => ?_) (fun h50 => absurd h50 (by decide))
            refine q_aload_n (j := 0) hA rfl dX9_refold_56 ?_
            refine q_getR hA f_X9_26 dX9_refold_57 sx_0 (by decide) fx_0_2 ?_
            refine q_iload_n (j := 1) hA rfl dX9_refold_60 ?_
            refine q_iload_n (j := 2) hA rfl dX9_refold_61 ?_
            refine q_iconst hA dX9_refold_62 ?_
            refine q_callVP (b := 11) (As := [vI p, vI q, vI 0]) (st := []) hA l_X9_149 kX7_third (zX7_third isS11 ho (by omega) (by omega) (by omega)) dX9_refold_63 rfl rfl (strS isS11) (by decide) rfl (Nat.le_of_ble_eq_true rfl) (by omega) ?_
            refine q_nmI (fun a ea => ?_)
            have hai := thX_in (r := rowX D 11) (a := p) (b := q) (s := 0) (by rw [xN]; omega)
            rw [← ea, xN] at hai
            refine q_istore_n (j := 3) (lo2 := [vR 0, vI p, vI q, vI a, vN]) hA dX9_refold_66 (by decide) rfl rfl ?_
            refine q_aload_n (j := 0) hA rfl dX9_refold_67 ?_
            refine q_getR hA f_X9_26 dX9_refold_68 sx_0 (by decide) fx_0_2 ?_
            refine q_iload_n (j := 1) hA rfl dX9_refold_71 ?_
            refine q_iload_n (j := 2) hA rfl dX9_refold_72 ?_
            refine q_iconst hA dX9_refold_73 ?_
            refine q_callVP (b := 11) (As := [vI p, vI q, vI 1]) (st := []) hA l_X9_149 kX7_third (zX7_third isS11 ho (by omega) (by omega) (by omega)) dX9_refold_74 rfl rfl (strS isS11) (by decide) rfl (Nat.le_of_ble_eq_true rfl) (by omega) ?_
            refine q_nmI (fun b eb => ?_)
            have hbi := thX_in (r := rowX D 11) (a := p) (b := q) (s := 1) (by rw [xN]; omega)
            rw [← eb, xN] at hbi
            refine q_istore (j := 4) (lo2 := [vR 0, vI p, vI q, vI a, vI b]) hA dX9_refold_77 (by decide) rfl rfl ?_
            refine q_iload_n (j := 3) hA rfl dX9_refold_79 ?_
            refine q_if_lt (tgt := 88) hA (by omega) dX9_refold_80 (by decide) (fun h80 => ?_) (fun h80 => ?_)
            · refine q_bipush hA (by decide) dX9_refold_88 ?_
              exact hR 90 _ _ _ dX9_refold_90 (by exact Or.inr (Or.inl ⟨hH, fun z => by rw [← ea, ← eb] at z; omega, rfl, rfl⟩))
            · refine q_iload (j := 4) hA rfl dX9_refold_83 ?_
              refine q_if_ge (tgt := 91) hA (by omega) dX9_refold_85 (by decide) (fun h85 => ?_) (fun h85 => ?_)
              · refine q_aload_n (j := 0) hA rfl dX9_refold_91 ?_
                refine q_getR hA f_X9_33 dX9_refold_92 sx_0 (by decide) fx_0_3 ?_
                refine q_aload_n (j := 0) hA rfl dX9_refold_95 ?_
                refine q_getR hA f_X9_26 dX9_refold_96 sx_0 (by decide) fx_0_2 ?_
                refine q_callVV (b := 18) (As := [vR 11]) (st := []) hA l_X9_159 kX2_keep (zX2_keep hh) dX9_refold_99 rfl rfl sx_18 (by decide) rfl (Nat.le_of_ble_eq_true rfl) (by omega) (fun D99 q99 => ?_)
                have k99 : kepX D D99 := q99
                have r99 := k99.r
                have o99 : sOk D99 11 := by unfold sOk; rw [r99]; exact ho
                have e99 : D99 11 = D 11 := k99.2.2.2 11 (by omega) (by unfold stHist; omega)
                refine q_aload_n (j := 0) hA rfl dX9_refold_102 ?_
                refine q_getR hA f_X9_26 dX9_refold_103 sx_0 (by decide) fx_0_2 ?_
                refine q_iload_n (j := 1) hA rfl dX9_refold_106 ?_
                refine q_iload_n (j := 2) hA rfl dX9_refold_107 ?_
                refine q_callVV (b := 11) (As := [vI p, vI q]) (st := []) hA l_X9_172 kX7_part (zX7_part isS11 o99 (by rw [e99]; omega) (by rw [e99]; omega)) dX9_refold_108 rfl rfl (strS isS11) (by decide) rfl (Nat.le_of_ble_eq_true rfl) (by omega) (fun D108 q108 => ?_)
                have o108 : sOk D108 11 := by unfold sOk; rw [q108.1]; exact o99.part (rowX_len _ _) (by omega) (by omega)
                have e108 : D108 11 6 = D 11 6 := by rw [← xN D108 11, q108.1, show rN (partR (rowX D99 11) p q) = rN (rowX D99 11) from partR_lo (rowX_len _ _) (by decide), xN, e99]
                refine q_aload_n (j := 0) hA rfl dX9_refold_111 ?_
                refine q_getR hA f_X9_26 dX9_refold_112 sx_0 (by decide) fx_0_2 ?_
                refine q_iload_n (j := 3) hA rfl dX9_refold_115 ?_
                refine q_iload (j := 4) hA rfl dX9_refold_116 ?_
                refine q_callVV (b := 11) (As := [vI a, vI b]) (st := []) hA l_X9_176 kX7_join (zX7_join isS11 o108 (by omega) (by omega)) dX9_refold_118 rfl rfl (strS isS11) (by decide) rfl (Nat.le_of_ble_eq_true rfl) (by omega) (fun D118 q118 => ?_)
                refine q_iload_n (j := 3) hA rfl dX9_refold_121 ?_
                refine q_iload (j := 4) hA rfl dX9_refold_122 ?_
                refine q_min hA mw_X9_179 (by omega) (by omega) (Nat.le_of_ble_eq_true rfl) (by omega) dX9_refold_124 ?_
                refine q_bipush hA (by decide) dX9_refold_127 ?_
                refine q_imul hA dX9_refold_129 ?_
                refine q_iload_n (j := 3) hA rfl dX9_refold_130 ?_
                refine q_iload (j := 4) hA rfl dX9_refold_131 ?_
                refine q_max hA mw_X9_185 (by omega) (by omega) (Nat.le_of_ble_eq_true rfl) (by omega) dX9_refold_133 ?_
                refine q_iadd hA dX9_refold_136 ?_
                exact hR 137 _ _ _ dX9_refold_137 (by exact Or.inr (Or.inr ⟨hH, ⟨⟨h35, h47⟩, by rw [← ea]; omega, by rw [← eb]; omega⟩, ⟨D99, k99, by rw [q118.1, q108.1, r99, ← ea, ← eb], q108.2.tr q118.2⟩, by rw [← ea, ← eb]⟩))
              · refine q_bipush hA (by decide) dX9_refold_88 ?_
                exact hR 90 _ _ _ dX9_refold_90 (by exact Or.inr (Or.inl ⟨hH, fun z => by rw [← ea, ← eb] at z; omega, rfl, rfl⟩))
        · refine q_if_eq (tgt := 53) hA (by decide) dX9_refold_38 (by decide) (fun h38 => ?_) (fun h38 => absurd h38 (by decide))
          refine q_bipush hA (by decide) dX9_refold_53 ?_
          exact hR 55 _ _ _ dX9_refold_55 (by first | exact Or.inr (Or.inl ⟨hH, fun z => h35 z.1.1, rfl, rfl⟩) | exact Or.inr (Or.inl ⟨hH, fun z => z.1.2 h47, rfl, rfl⟩))
      · refine q_iconst hA dX9_refold_27 ?_
        exact hR 28 _ _ _ dX9_refold_28 (by first | exact Or.inl ⟨fun z => h5 z.1, rfl, rfl⟩ | exact Or.inl ⟨fun z => h16 z.2.1, rfl, rfl⟩ | exact Or.inl ⟨fun z => z.2.2 h24, rfl, rfl⟩)
    · refine q_if_eq (tgt := 27) hA (by decide) dX9_refold_19 (by decide) (fun h19 => ?_) (fun h19 => absurd h19 (by decide))
      refine q_iconst hA dX9_refold_27 ?_
      exact hR 28 _ _ _ dX9_refold_28 (by first | exact Or.inl ⟨fun z => h5 z.1, rfl, rfl⟩ | exact Or.inl ⟨fun z => h16 z.2.1, rfl, rfl⟩ | exact Or.inl ⟨fun z => z.2.2 h24, rfl, rfl⟩)
  · refine q_if_eq (tgt := 27) hA (by decide) dX9_refold_8 (by decide) (fun h8 => ?_) (fun h8 => absurd h8 (by decide))
    refine q_iconst hA dX9_refold_27 ?_
    exact hR 28 _ _ _ dX9_refold_28 (by first | exact Or.inl ⟨fun z => h5 z.1, rfl, rfl⟩ | exact Or.inl ⟨fun z => h16 z.2.1, rfl, rfl⟩ | exact Or.inl ⟨fun z => z.2.2 h24, rfl, rfl⟩)
set_option maxHeartbeats 4000000 in
set_option maxRecDepth 100000 in
theorem zX9_mend {g : Gm} {l : Launch} {D : Dat} (ho : sOk D 11) (hh : hOk D) {p : Int} (rp : -2147483648 ≤ p ∧ p ≤ 2147483647) : CrI g l 3 mX9_mend [vR 0, vI p] D (fun v D1 => (¬ (0 ≤ p ∧ p < D 11 6) ∧ v = -1 ∧ D1 = D) ∨ ((0 ≤ p ∧ p < D 11 6) ∧ D 15 p = 0 ∧ v = -2 ∧ D1 = D) ∨ ((0 ≤ p ∧ p < D 11 6) ∧ ¬ D 15 p = 0 ∧ v = (if 0 < D 15 p - 2 then D 15 p - 2 else 0) ∧ ∃ K, kepX D K ∧ rowX D1 11 = (rowX D 11).set (28 + p.toNat) v ∧ frm 11 7 K D1)) := by
  refine Cr.ofI (lo0 := [vR 0, vI p]) (by decide) (Nat.le_of_ble_eq_true rfl) rfl (fun J hA hR => ?_)
  have hn := ho.n
  have hf := ho.f
  have hb := ho.b
  refine q_aload_n (j := 0) hA rfl dX9_mend_0 ?_
  refine q_getR hA f_X9_26 dX9_mend_1 sx_0 (by decide) fx_0_2 ?_
  refine q_iload_n (j := 1) hA rfl dX9_mend_4 ?_
  refine q_callVB (b := 11) (As := [vI p]) (st := []) hA l_X9_101 kX7_has (zX7_has isS11 ho (by omega)) dX9_mend_5 rfl rfl (strS isS11) (by decide) rfl (Nat.le_of_ble_eq_true rfl) (by omega) (fun h5 => ?_) (fun h5 => ?_)
  · refine q_if_ne (tgt := 13) hA (by decide) dX9_mend_8 (by decide) (fun h8 => ?_) (fun h8 => absurd h8 (by decide))
    have hat := ho.at (p := p) (by omega)
    have hw15 : 0 ≤ D 15 p ∧ D 15 p ≤ 20 := hat.2.2.2.1
    refine q_aload_n (j := 0) hA rfl dX9_mend_13 ?_
    refine q_getR hA f_X9_26 dX9_mend_14 sx_0 (by decide) fx_0_2 ?_
    refine q_getR hA f_X9_115 dX9_mend_17 (strS isS11) (by decide) (strF3 isS11) ?_
    refine q_iload_n (j := 1) hA rfl dX9_mend_20 ?_
    refine q_iald (x := D 15 p) hA dX9_mend_21 (strS4 isS11) (by omega) (by decide) rfl ?_
    refine q_if_ne (tgt := 28) hA (by omega) dX9_mend_22 (by decide) (fun h22 => ?_) (fun h22 => ?_)
    · refine q_aload_n (j := 0) hA rfl dX9_mend_28 ?_
      refine q_getR hA f_X9_33 dX9_mend_29 sx_0 (by decide) fx_0_3 ?_
      refine q_aload_n (j := 0) hA rfl dX9_mend_32 ?_
      refine q_getR hA f_X9_26 dX9_mend_33 sx_0 (by decide) fx_0_2 ?_
      refine q_callVV (b := 18) (As := [vR 11]) (st := []) hA l_X9_159 kX2_keep (zX2_keep hh) dX9_mend_36 rfl rfl sx_18 (by decide) rfl (Nat.le_of_ble_eq_true rfl) (by omega) (fun D36 q36 => ?_)
      have k36 : kepX D D36 := q36
      have r36 := k36.r
      have e36 : D36 15 = D 15 := k36.2.2.2 15 (by omega) (by unfold stHist; omega)
      refine q_aload_n (j := 0) hA rfl dX9_mend_39 ?_
      refine q_getR hA f_X9_26 dX9_mend_40 sx_0 (by decide) fx_0_2 ?_
      refine q_getR hA f_X9_115 dX9_mend_43 (strS isS11) (by decide) (strF3 isS11) ?_
      refine q_iload_n (j := 1) hA rfl dX9_mend_46 ?_
      refine q_iconst hA dX9_mend_47 ?_
      refine q_aload_n (j := 0) hA rfl dX9_mend_48 ?_
      refine q_getR hA f_X9_26 dX9_mend_49 sx_0 (by decide) fx_0_2 ?_
      refine q_getR hA f_X9_115 dX9_mend_52 (strS isS11) (by decide) (strF3 isS11) ?_
      refine q_iload_n (j := 1) hA rfl dX9_mend_55 ?_
      refine q_iald (x := D 15 p) hA dX9_mend_56 (strS4 isS11) (by omega) (by decide) (by rw [e36]) ?_
      refine q_iconst hA dX9_mend_57 ?_
      refine q_isub hA dX9_mend_58 ?_
      refine q_max hA mw_X9_185 (by omega) (by omega) (Nat.le_of_ble_eq_true rfl) (by omega) dX9_mend_59 ?_
      refine q_iast hA dX9_mend_62 (strS4 isS11) (by omega) (by decide) ?_
      refine q_aload_n (j := 0) hA rfl dX9_mend_63 ?_
      refine q_getR hA f_X9_26 dX9_mend_64 sx_0 (by decide) fx_0_2 ?_
      refine q_getR hA f_X9_115 dX9_mend_67 (strS isS11) (by decide) (strF3 isS11) ?_
      refine q_iload_n (j := 1) hA rfl dX9_mend_70 ?_
      refine q_iald (x := (if 0 < D 15 p - 2 then D 15 p - 2 else 0)) hA dX9_mend_71 (strS4 isS11) (by omega) (by decide) upD_s ?_
      exact hR 72 _ _ _ dX9_mend_72 (by exact Or.inr (Or.inr ⟨h5, h22, rfl, D36, k36, by rw [← r36]; exact rx_We (a := 11) (by omega), frm.rf.up (by omega)⟩))
    · refine q_bipush hA (by decide) dX9_mend_25 ?_
      exact hR 27 _ _ _ dX9_mend_27 (by exact Or.inr (Or.inl ⟨h5, h22, rfl, rfl⟩))
  · refine q_if_ne (tgt := 13) hA (by decide) dX9_mend_8 (by decide) (fun h8 => absurd h8 (by decide)) (fun h8 => ?_)
    refine q_iconst hA dX9_mend_11 ?_
    exact hR 12 _ _ _ dX9_mend_12 (by exact Or.inl ⟨h5, rfl, rfl⟩)
set_option maxHeartbeats 4000000 in
set_option maxRecDepth 100000 in
theorem zX9_undo {g : Gm} {l : Launch} {D : Dat} (hh : hOk D) : CrI g l 3 mX9_undo [vR 0] D (fun v D1 => (D 18 2 = 0 ∧ v = -4 ∧ D1 = D) ∨ (D 18 2 ≠ 0 ∧ v = D 18 2 - 1 ∧ D1 18 1 = (D 18 1 + 24 - 1) % 24 ∧ D1 18 2 = D 18 2 - 1 ∧ rowX D1 11 = rowX D (stHist ((D 18 1 + 24 - 1) % 24).toNat) ∧ ∀ c, c ≠ 18 → (c < 11 ∨ 18 ≤ c) → D1 c = D c)) := by
  refine Cr.ofI (lo0 := [vR 0]) (by decide) (Nat.le_of_ble_eq_true rfl) rfl (fun J hA hR => ?_)
  refine q_aload_n (j := 0) hA rfl dX9_undo_0 ?_
  refine q_getR hA f_X9_33 dX9_undo_1 sx_0 (by decide) fx_0_3 ?_
  refine q_aload_n (j := 0) hA rfl dX9_undo_4 ?_
  refine q_getR hA f_X9_26 dX9_undo_5 sx_0 (by decide) fx_0_2 ?_
  refine q_callVI (b := 18) (As := [vR 11]) (st := []) hA l_X9_188 kX2_giveBack (zX2_giveBack hh) dX9_undo_8 rfl rfl sx_18 (by decide) rfl (Nat.le_of_ble_eq_true rfl) (by omega) (fun v8 D8 q8 => ?_)
  rcases q8 with ⟨hg, rfl, e8⟩ | ⟨hg, rfl, e8⟩
  · skip
    refine q_if_eq (tgt := 24) hA (by decide) dX9_undo_11 (by decide) (fun h11 => ?_) (fun h11 => absurd h11 (by decide))
    refine q_bipush hA (by decide) dX9_undo_24 ?_
    exact hR 26 _ _ _ dX9_undo_26 (by first | exact Or.inl ⟨hg, rfl, e8⟩ | exact Or.inr ⟨hg, e8.2.1, e8⟩)
  · skip
    refine q_if_eq (tgt := 24) hA (by decide) dX9_undo_11 (by decide) (fun h11 => absurd h11 (by decide)) (fun h11 => ?_)
    refine q_aload_n (j := 0) hA rfl dX9_undo_14 ?_
    refine q_getR hA f_X9_33 dX9_undo_15 sx_0 (by decide) fx_0_3 ?_
    refine q_getI (x := D8 18 2) hA f_X9_192 dX9_undo_18 sx_18 (by decide) rfl ?_
    refine q_goto (tgt := 26) hA dX9_undo_21 (by decide) ?_
    exact hR 26 _ _ _ dX9_undo_26 (by first | exact Or.inl ⟨hg, rfl, e8⟩ | exact Or.inr ⟨hg, e8.2.1, e8⟩)
set_option maxHeartbeats 4000000 in
set_option maxRecDepth 100000 in
theorem zX9_image {g : Gm} {l : Launch} {D : Dat} (ho : sOk D 11) {k : Int} (rk : -2147483648 ≤ k ∧ k ≤ 2147483647) : CrI g l 2 mX9_image [vR 0, vI k] D (fun v D1 => (¬ (0 ≤ k ∧ k ≤ 1) ∧ v = -1 ∧ D1 = D) ∨ ((0 ≤ k ∧ k ≤ 1) ∧ D 11 6 = 0 ∧ v = -2 ∧ D1 = D) ∨ ((0 ≤ k ∧ k ≤ 1) ∧ D 11 6 ≠ 0 ∧ v = D 11 7 ∧ rowX D1 (stImg k.toNat) = rowX D 11 ∧ frm (stImg k.toNat) 7 D D1)) := by
  refine Cr.ofI (lo0 := [vR 0, vI k]) (by decide) (Nat.le_of_ble_eq_true rfl) rfl (fun J hA hR => ?_)
  have hn := ho.n
  have hf := ho.f
  have hb := ho.b
  refine q_iload_n (j := 1) hA rfl dX9_image_0 ?_
  refine q_iconst hA dX9_image_1 ?_
  refine q_iconst hA dX9_image_2 ?_
  refine q_callSB (As := [vI k, vI 0, vI 1]) (st := []) hA l_X9_69 kX9_isWithin (zX9_isWithin (by first | assumption | omega | rfl) (by first | assumption | omega | rfl) (by first | assumption | omega | rfl)) dX9_image_3 rfl rfl (Nat.le_of_ble_eq_true rfl) (by omega) (fun h3 => ?_) (fun h3 => ?_)
  · refine q_if_ne (tgt := 11) hA (by decide) dX9_image_6 (by decide) (fun h6 => ?_) (fun h6 => absurd h6 (by decide))
    refine q_aload_n (j := 0) hA rfl dX9_image_11 ?_
    refine q_getR hA f_X9_26 dX9_image_12 sx_0 (by decide) fx_0_2 ?_
    refine q_callVB (b := 11) (As := []) (st := []) hA l_X9_139 kX7_isMissing (zX7_isMissing isS11 ho) dX9_image_15 rfl rfl (strS isS11) (by decide) rfl (Nat.le_of_ble_eq_true rfl) (by omega) (fun h15 => ?_) (fun h15 => ?_)
    · refine q_if_eq (tgt := 24) hA (by decide) dX9_image_18 (by decide) (fun h18 => absurd h18 (by decide)) (fun h18 => ?_)
      refine q_bipush hA (by decide) dX9_image_21 ?_
      exact hR 23 _ _ _ dX9_image_23 (by exact Or.inr (Or.inl ⟨h3, h15, rfl, rfl⟩))
    · refine q_if_eq (tgt := 24) hA (by decide) dX9_image_18 (by decide) (fun h18 => ?_) (fun h18 => absurd h18 (by decide))
      have hz := hImg h3
      refine q_aload_n (j := 0) hA rfl dX9_image_24 ?_
      refine q_getR hA f_X9_37 dX9_image_25 sx_0 (by decide) fx_0_4 ?_
      refine q_iload_n (j := 1) hA rfl dX9_image_28 ?_
      refine q_aald (b := stImg k.toNat) hA (Or.inl rfl) dX9_image_29 sx_188 (by omega) (by decide) hz.1 ?_
      refine q_aload_n (j := 0) hA rfl dX9_image_30 ?_
      refine q_getR hA f_X9_26 dX9_image_31 sx_0 (by decide) fx_0_2 ?_
      refine q_callVV (b := stImg k.toNat) (As := [vR 11]) (st := []) hA l_X9_91 kX7_takeFrom (zX7_takeFrom hz.2 isS11 (by unfold stImg; omega)) dX9_image_34 rfl rfl (strS hz.2) (by decide) rfl (Nat.le_of_ble_eq_true rfl) (by omega) (fun D34 q34 => ?_)
      have e34 : D34 11 = D 11 := q34.2 11 (by unfold stImg; omega)
      refine q_aload_n (j := 0) hA rfl dX9_image_37 ?_
      refine q_getR hA f_X9_26 dX9_image_38 sx_0 (by decide) fx_0_2 ?_
      refine q_getI (x := D 11 7) hA f_X9_143 dX9_image_41 (strS isS11) (by decide) (by rw [e34]; rfl) ?_
      exact hR 44 _ _ _ dX9_image_44 (by exact Or.inr (Or.inr ⟨h3, h15, rfl, q34⟩))
  · refine q_if_ne (tgt := 11) hA (by decide) dX9_image_6 (by decide) (fun h6 => absurd h6 (by decide)) (fun h6 => ?_)
    refine q_iconst hA dX9_image_9 ?_
    exact hR 10 _ _ _ dX9_image_10 (by exact Or.inl ⟨h3, rfl, rfl⟩)
set_option maxHeartbeats 4000000 in
set_option maxRecDepth 100000 in
theorem zX9_restore {g : Gm} {l : Launch} {D : Dat} {k : Int} (rk : -2147483648 ≤ k ∧ k ≤ 2147483647) (hoi : ∀ k : Int, 0 ≤ k ∧ k ≤ 1 → sOk D (stImg k.toNat)) : CrI g l 2 mX9_restore [vR 0, vI k] D (fun v D1 => (¬ (0 ≤ k ∧ k ≤ 1) ∧ v = -1 ∧ D1 = D) ∨ ((0 ≤ k ∧ k ≤ 1) ∧ D (stImg k.toNat) 6 = 0 ∧ v = -2 ∧ D1 = D) ∨ ((0 ≤ k ∧ k ≤ 1) ∧ D (stImg k.toNat) 6 ≠ 0 ∧ v = rF (rowX D (stImg k.toNat)) ∧ rowX D1 11 = rowX D (stImg k.toNat) ∧ D1 18 1 = 0 ∧ D1 18 2 = 0 ∧ ∀ c, c ≠ 18 → (c < 11 ∨ 18 ≤ c) → D1 c = D c)) := by
  refine Cr.ofI (lo0 := [vR 0, vI k]) (by decide) (Nat.le_of_ble_eq_true rfl) rfl (fun J hA hR => ?_)
  refine q_iload_n (j := 1) hA rfl dX9_restore_0 ?_
  refine q_iconst hA dX9_restore_1 ?_
  refine q_iconst hA dX9_restore_2 ?_
  refine q_callSB (As := [vI k, vI 0, vI 1]) (st := []) hA l_X9_69 kX9_isWithin (zX9_isWithin (by first | assumption | omega | rfl) (by first | assumption | omega | rfl) (by first | assumption | omega | rfl)) dX9_restore_3 rfl rfl (Nat.le_of_ble_eq_true rfl) (by omega) (fun h3 => ?_) (fun h3 => ?_)
  · refine q_if_ne (tgt := 11) hA (by decide) dX9_restore_6 (by decide) (fun h6 => ?_) (fun h6 => absurd h6 (by decide))
    have hz := hImg h3
    refine q_aload_n (j := 0) hA rfl dX9_restore_11 ?_
    refine q_getR hA f_X9_37 dX9_restore_12 sx_0 (by decide) fx_0_4 ?_
    refine q_iload_n (j := 1) hA rfl dX9_restore_15 ?_
    refine q_aald (b := stImg k.toNat) hA (Or.inl rfl) dX9_restore_16 sx_188 (by omega) (by decide) hz.1 ?_
    refine q_callVB (b := stImg k.toNat) (As := []) (st := []) hA l_X9_139 kX7_isMissing (zX7_isMissing hz.2 (hoi k h3)) dX9_restore_17 rfl rfl (strS hz.2) (by decide) rfl (Nat.le_of_ble_eq_true rfl) (by omega) (fun h17 => ?_) (fun h17 => ?_)
    · refine q_if_eq (tgt := 26) hA (by decide) dX9_restore_20 (by decide) (fun h20 => absurd h20 (by decide)) (fun h20 => ?_)
      refine q_bipush hA (by decide) dX9_restore_23 ?_
      exact hR 25 _ _ _ dX9_restore_25 (by exact Or.inr (Or.inl ⟨h3, h17, rfl, rfl⟩))
    · refine q_if_eq (tgt := 26) hA (by decide) dX9_restore_20 (by decide) (fun h20 => ?_) (fun h20 => absurd h20 (by decide))
      refine q_aload_n (j := 0) hA rfl dX9_restore_26 ?_
      refine q_getR hA f_X9_26 dX9_restore_27 sx_0 (by decide) fx_0_2 ?_
      refine q_aload_n (j := 0) hA rfl dX9_restore_30 ?_
      refine q_getR hA f_X9_37 dX9_restore_31 sx_0 (by decide) fx_0_4 ?_
      refine q_iload_n (j := 1) hA rfl dX9_restore_34 ?_
      refine q_aald (b := stImg k.toNat) hA (Or.inl rfl) dX9_restore_35 sx_188 (by omega) (by decide) hz.1 ?_
      refine q_callVV (b := 11) (As := [vR (stImg k.toNat)]) (st := []) hA l_X9_91 kX7_takeFrom (zX7_takeFrom isS11 hz.2 (by unfold stImg; omega)) dX9_restore_36 rfl rfl (strS isS11) (by decide) rfl (Nat.le_of_ble_eq_true rfl) (by omega) (fun D36 q36 => ?_)
      refine q_aload_n (j := 0) hA rfl dX9_restore_39 ?_
      refine q_getR hA f_X9_33 dX9_restore_40 sx_0 (by decide) fx_0_3 ?_
      refine q_callVV (b := 18) (As := []) (st := []) hA l_X9_95 kX2_forget (zX2_forget) dX9_restore_43 rfl rfl sx_18 (by decide) rfl (Nat.le_of_ble_eq_true rfl) (by omega) (fun D43 q43 => ?_)
      have e43 : ∀ c, c ≠ 18 → D43 c = D36 c := fun c hc => by rw [q43, upD_other hc, upD_other hc]
      have r43 : rowX D43 11 = rowX D36 11 := by unfold rowX; rw [e43 11 (by omega), e43 (11 + 1) (by omega), e43 (11 + 2) (by omega), e43 (11 + 3) (by omega), e43 (11 + 4) (by omega), e43 (11 + 5) (by omega), e43 (11 + 6) (by omega)]
      refine q_aload_n (j := 0) hA rfl dX9_restore_46 ?_
      refine q_getR hA f_X9_26 dX9_restore_47 sx_0 (by decide) fx_0_2 ?_
      refine q_getI (x := D43 11 7) hA f_X9_143 dX9_restore_50 (strS isS11) (by decide) rfl ?_
      exact hR 53 _ _ _ dX9_restore_53 (by exact Or.inr (Or.inr ⟨h3, h17, by rw [← q36.1, ← r43, xF], by rw [r43, q36.1], by rw [q43, upD_n (Or.inr (by decide)), upD_s], by rw [q43, upD_s], fun c c1 c2 => (e43 c c1).trans (q36.2 c (by omega))⟩))
  · refine q_if_ne (tgt := 11) hA (by decide) dX9_restore_6 (by decide) (fun h6 => absurd h6 (by decide)) (fun h6 => ?_)
    refine q_iconst hA dX9_restore_9 ?_
    exact hR 10 _ _ _ dX9_restore_10 (by exact Or.inl ⟨h3, rfl, rfl⟩)
