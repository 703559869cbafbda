set_option maxHeartbeats 4000000 in
set_option maxRecDepth 100000 in
theorem zX9_sheet {g : Gm} {l : Launch} {D : Dat} {s : Int} {n : Int} {k : Int} (rs : -2147483648 ≤ s ∧ s ≤ 2147483647) (rn : -2147483648 ≤ n ∧ n ≤ 2147483647) (rk : -2147483648 ≤ k ∧ k ≤ 2147483647) : CrI g l 3 mX9_sheet [vR 0, vI s, vI n, vI k] D (fun v D1 => (¬ (((0 ≤ s ∧ s ≤ 3) ∧ (0 ≤ n ∧ n ≤ 3)) ∧ k ≤ 24) ∧ v = -1 ∧ D1 = D) ∨ ((((0 ≤ s ∧ s ≤ 3) ∧ (0 ≤ n ∧ n ≤ 3)) ∧ k ≤ 24) ∧ k < 0 ∧ v = -14 ∧ D1 = D) ∨ ((((0 ≤ s ∧ s ≤ 3) ∧ (0 ≤ n ∧ n ≤ 3)) ∧ k ≤ 24) ∧ 0 ≤ k ∧ v = k ∧ D1 (shAt s.toNat) 1 = n ∧ D1 (shAt s.toNat) 2 = k ∧ (∀ i : Int, 0 ≤ i → i < 24 → D1 (shAt s.toNat + 1) i = 0) ∧ frm (shAt s.toNat) 2 D D1)) := by
  refine Cr.ofI (lo0 := [vR 0, vI s, vI n, vI k]) (by decide) (Nat.le_of_ble_eq_true rfl) rfl (fun J hA hR => ?_)
  refine q_iload_n (j := 1) hA rfl dX9_sheet_0 ?_
  refine q_callSB (As := [vI s]) (st := []) hA l_X9_246 kX9_isSheet (zX9_isSheet (by first | assumption | omega | rfl)) dX9_sheet_1 rfl rfl (Nat.le_of_ble_eq_true rfl) (by omega) (fun h1 => ?_) (fun h1 => ?_)
  · refine q_if_eq (tgt := 20) hA (by decide) dX9_sheet_4 (by decide) (fun h4 => absurd h4 (by decide)) (fun h4 => ?_)
    refine q_iload_n (j := 2) hA rfl dX9_sheet_7 ?_
    refine q_callSB (As := [vI n]) (st := []) hA l_X9_249 kX9_isLane (zX9_isLane (by first | assumption | omega | rfl)) dX9_sheet_8 rfl rfl (Nat.le_of_ble_eq_true rfl) (by omega) (fun h8 => ?_) (fun h8 => ?_)
    · refine q_if_eq (tgt := 20) hA (by decide) dX9_sheet_11 (by decide) (fun h11 => absurd h11 (by decide)) (fun h11 => ?_)
      refine q_iload_n (j := 3) hA rfl dX9_sheet_14 ?_
      refine q_bipush hA (by decide) dX9_sheet_15 ?_
      refine q_icmp_le (tgt := 22) hA (by omega) (by omega) dX9_sheet_17 (by decide) (fun h17 => ?_) (fun h17 => ?_)
      · refine q_iload_n (j := 3) hA rfl dX9_sheet_22 ?_
        refine q_if_ge (tgt := 29) hA (by omega) dX9_sheet_23 (by decide) (fun h23 => ?_) (fun h23 => ?_)
        · have hz := hSh h1
          refine q_aload_n (j := 0) hA rfl dX9_sheet_29 ?_
          refine q_getR hA f_X9_43 dX9_sheet_30 sx_0 (by decide) fx_0_5 ?_
          refine q_iload_n (j := 1) hA rfl dX9_sheet_33 ?_
          refine q_aald (b := shAt s.toNat) hA (Or.inr rfl) dX9_sheet_34 sx_189 (by omega) (by decide) hz.1 ?_
          refine q_iload_n (j := 2) hA rfl dX9_sheet_35 ?_
          refine q_iload_n (j := 3) hA rfl dX9_sheet_36 ?_
          refine q_callVV (b := shAt s.toNat) (As := [vI n, vI k]) (st := []) hA l_X9_252 kX6_lay (zX6_lay hz.2) dX9_sheet_37 rfl rfl (shS hz.2) (by decide) rfl (Nat.le_of_ble_eq_true rfl) (by omega) (fun D37 q37 => ?_)
          refine q_iload_n (j := 3) hA rfl dX9_sheet_40 ?_
          exact hR 41 _ _ _ dX9_sheet_41 (by exact Or.inr (Or.inr ⟨by omega, by omega, rfl, q37⟩))
        · refine q_bipush hA (by decide) dX9_sheet_26 ?_
          exact hR 28 _ _ _ dX9_sheet_28 (by exact Or.inr (Or.inl ⟨by omega, by omega, rfl, rfl⟩))
      · refine q_iconst hA dX9_sheet_20 ?_
        exact hR 21 _ _ _ dX9_sheet_21 (by exact Or.inl ⟨by omega, rfl, rfl⟩)
    · refine q_if_eq (tgt := 20) hA (by decide) dX9_sheet_11 (by decide) (fun h11 => ?_) (fun h11 => absurd h11 (by decide))
      refine q_iconst hA dX9_sheet_20 ?_
      exact hR 21 _ _ _ dX9_sheet_21 (by exact Or.inl ⟨by omega, rfl, rfl⟩)
  · refine q_if_eq (tgt := 20) hA (by decide) dX9_sheet_4 (by decide) (fun h4 => ?_) (fun h4 => absurd h4 (by decide))
    refine q_iconst hA dX9_sheet_20 ?_
    exact hR 21 _ _ _ dX9_sheet_21 (by exact Or.inl ⟨by omega, rfl, rfl⟩)
set_option maxHeartbeats 4000000 in
set_option maxRecDepth 100000 in
theorem zX9_drop {g : Gm} {l : Launch} {D : Dat} (hos : ∀ k : Int, 0 ≤ k ∧ k ≤ 3 → shOk D (shAt k.toNat)) {s : Int} (rs : -2147483648 ≤ s ∧ s ≤ 2147483647) : CrI g l 3 mX9_drop [vR 0, vI s] D (fun v D1 => (¬ (0 ≤ s ∧ s ≤ 3) ∧ v = -1 ∧ D1 = D) ∨ ((0 ≤ s ∧ s ≤ 3) ∧ D (shAt s.toNat) 1 = -1 ∧ v = -11 ∧ D1 = D) ∨ ((0 ≤ s ∧ s ≤ 3) ∧ D (shAt s.toNat) 1 ≠ -1 ∧ v = D (shAt s.toNat) 2 ∧ D1 = upD (upD D (shAt s.toNat) 1 (-1)) (shAt s.toNat) 2 0)) := by
  refine Cr.ofI (lo0 := [vR 0, vI s, vN]) (by decide) (Nat.le_of_ble_eq_true rfl) rfl (fun J hA hR => ?_)
  refine q_iload_n (j := 1) hA rfl dX9_drop_0 ?_
  refine q_callSB (As := [vI s]) (st := []) hA l_X9_246 kX9_isSheet (zX9_isSheet (by first | assumption | omega | rfl)) dX9_drop_1 rfl rfl (Nat.le_of_ble_eq_true rfl) (by omega) (fun h1 => ?_) (fun h1 => ?_)
  · refine q_if_ne (tgt := 9) hA (by decide) dX9_drop_4 (by decide) (fun h4 => ?_) (fun h4 => absurd h4 (by decide))
    have hz := hSh h1
    have hso := shOut hz.2
    have hok := hos s h1
    have hsz := hok.2.1
    have hln := hok.1
    refine q_aload_n (j := 0) hA rfl dX9_drop_9 ?_
    refine q_getR hA f_X9_43 dX9_drop_10 sx_0 (by decide) fx_0_5 ?_
    refine q_iload_n (j := 1) hA rfl dX9_drop_13 ?_
    refine q_aald (b := shAt s.toNat) hA (Or.inr rfl) dX9_drop_14 sx_189 (by omega) (by decide) hz.1 ?_
    refine q_callVB (b := shAt s.toNat) (As := []) (st := []) hA l_X9_254 kX6_isNothing (zX6_isNothing hz.2 hok) dX9_drop_15 rfl rfl (shS hz.2) (by decide) rfl (Nat.le_of_ble_eq_true rfl) (by omega) (fun h15 => ?_) (fun h15 => ?_)
    · refine q_if_eq (tgt := 24) hA (by decide) dX9_drop_18 (by decide) (fun h18 => absurd h18 (by decide)) (fun h18 => ?_)
      refine q_bipush hA (by decide) dX9_drop_21 ?_
      exact hR 23 _ _ _ dX9_drop_23 (by exact Or.inr (Or.inl ⟨h1, h15, rfl, rfl⟩))
    · refine q_if_eq (tgt := 24) hA (by decide) dX9_drop_18 (by decide) (fun h18 => ?_) (fun h18 => absurd h18 (by decide))
      refine q_aload_n (j := 0) hA rfl dX9_drop_24 ?_
      refine q_getR hA f_X9_43 dX9_drop_25 sx_0 (by decide) fx_0_5 ?_
      refine q_iload_n (j := 1) hA rfl dX9_drop_28 ?_
      refine q_aald (b := shAt s.toNat) hA (Or.inr rfl) dX9_drop_29 sx_189 (by omega) (by decide) hz.1 ?_
      refine q_getI (x := D (shAt s.toNat) 2) hA f_X9_257 dX9_drop_30 (shS hz.2) (by decide) rfl ?_
      refine q_istore_n (j := 2) (lo2 := [vR 0, vI s, vI (D (shAt s.toNat) 2)]) hA dX9_drop_33 (by decide) rfl rfl ?_
      refine q_aload_n (j := 0) hA rfl dX9_drop_34 ?_
      refine q_getR hA f_X9_43 dX9_drop_35 sx_0 (by decide) fx_0_5 ?_
      refine q_iload_n (j := 1) hA rfl dX9_drop_38 ?_
      refine q_aald (b := shAt s.toNat) hA (Or.inr rfl) dX9_drop_39 sx_189 (by omega) (by decide) hz.1 ?_
      refine q_callVV (b := shAt s.toNat) (As := []) (st := []) hA l_X9_260 kX6_clear (zX6_clear hz.2) dX9_drop_40 rfl rfl (shS hz.2) (by decide) rfl (Nat.le_of_ble_eq_true rfl) (by omega) (fun D40 q40 => ?_)
      refine q_iload_n (j := 2) hA rfl dX9_drop_43 ?_
      exact hR 44 _ _ _ dX9_drop_44 (by exact Or.inr (Or.inr ⟨h1, h15, rfl, q40⟩))
  · refine q_if_ne (tgt := 9) hA (by decide) dX9_drop_4 (by decide) (fun h4 => absurd h4 (by decide)) (fun h4 => ?_)
    refine q_iconst hA dX9_drop_7 ?_
    exact hR 8 _ _ _ dX9_drop_8 (by exact Or.inl ⟨h1, rfl, rfl⟩)
set_option maxHeartbeats 4000000 in
set_option maxRecDepth 100000 in
theorem zX9_item {g : Gm} {l : Launch} {D : Dat} (hos : ∀ k : Int, 0 ≤ k ∧ k ≤ 3 → shOk D (shAt k.toNat)) {s : Int} {n : Int} {i : Int} {x : Int} (rs : -2147483648 ≤ s ∧ s ≤ 2147483647) (rn : -2147483648 ≤ n ∧ n ≤ 2147483647) (ri : -2147483648 ≤ i ∧ i ≤ 2147483647) (hx : -9223372036854775808 ≤ x ∧ x ≤ 9223372036854775807) : CrL g l 3 mX9_item [vR 0, vI s, vI n, vI i, vL x] D (fun v D1 => (¬ ((0 ≤ s ∧ s ≤ 3) ∧ (0 ≤ n ∧ n ≤ 3)) ∧ v = -1 ∧ D1 = D) ∨ (((0 ≤ s ∧ s ≤ 3) ∧ (0 ≤ n ∧ n ≤ 3)) ∧ refS (D (shAt s.toNat) 1) (D (shAt s.toNat) 2) n i 1 < 0 ∧ v = refS (D (shAt s.toNat) 1) (D (shAt s.toNat) 2) n i 1 ∧ D1 = D) ∨ (((0 ≤ s ∧ s ≤ 3) ∧ (0 ≤ n ∧ n ≤ 3)) ∧ refS (D (shAt s.toNat) 1) (D (shAt s.toNat) 2) n i 1 = 0 ∧ v = cutL n x ∧ D1 = upD D (shAt s.toNat + 1) i (cutL n x))) := by
  refine Cr.ofL (lo0 := [vR 0, vI s, vI n, vI i, vL x, vN, vN]) (by decide) (Nat.le_of_ble_eq_true rfl) rfl (fun J hA hR => ?_)
  refine q_iload_n (j := 1) hA rfl dX9_item_0 ?_
  refine q_callSB (As := [vI s]) (st := []) hA l_X9_246 kX9_isSheet (zX9_isSheet (by first | assumption | omega | rfl)) dX9_item_1 rfl rfl (Nat.le_of_ble_eq_true rfl) (by omega) (fun h1 => ?_) (fun h1 => ?_)
  · refine q_if_eq (tgt := 14) hA (by decide) dX9_item_4 (by decide) (fun h4 => absurd h4 (by decide)) (fun h4 => ?_)
    refine q_iload_n (j := 2) hA rfl dX9_item_7 ?_
    refine q_callSB (As := [vI n]) (st := []) hA l_X9_249 kX9_isLane (zX9_isLane (by first | assumption | omega | rfl)) dX9_item_8 rfl rfl (Nat.le_of_ble_eq_true rfl) (by omega) (fun h8 => ?_) (fun h8 => ?_)
    · refine q_if_ne (tgt := 18) hA (by decide) dX9_item_11 (by decide) (fun h11 => ?_) (fun h11 => absurd h11 (by decide))
      have hz := hSh h1
      have hso := shOut hz.2
      have hok := hos s h1
      have hsz := hok.2.1
      have hln := hok.1
      refine q_aload_n (j := 0) hA rfl dX9_item_18 ?_
      refine q_getR hA f_X9_43 dX9_item_19 sx_0 (by decide) fx_0_5 ?_
      refine q_iload_n (j := 1) hA rfl dX9_item_22 ?_
      refine q_aald (b := shAt s.toNat) hA (Or.inr rfl) dX9_item_23 sx_189 (by omega) (by decide) hz.1 ?_
      refine q_iload_n (j := 2) hA rfl dX9_item_24 ?_
      refine q_iload_n (j := 3) hA rfl dX9_item_25 ?_
      refine q_iconst hA dX9_item_26 ?_
      refine q_callVP (b := shAt s.toNat) (As := [vI n, vI i, vI 1]) (st := []) hA l_X9_265 kX6_refusal (zX6_refusal hz.2 hok (by omega) (by omega) (by omega)) dX9_item_27 rfl rfl (shS hz.2) (by decide) rfl (Nat.le_of_ble_eq_true rfl) (by omega) ?_
      refine q_nmI (fun rf erf => ?_)
      have hw := refS_in (D (shAt s.toNat) 1) (D (shAt s.toNat) 2) n i 1
      rw [← erf] at hw
      refine q_istore (j := 6) (lo2 := [vR 0, vI s, vI n, vI i, vL x, vN, vI rf]) hA dX9_item_30 (by decide) rfl rfl ?_
      refine q_iload (j := 6) hA rfl dX9_item_32 ?_
      refine q_if_eq (tgt := 43) hA (by omega) dX9_item_34 (by decide) (fun h34 => ?_) (fun h34 => ?_)
      · have hr0 := refS_0 (lane := D (shAt s.toNat) 1) (size := D (shAt s.toNat) 2) (want := n) (i := i) (n := 1) (by rw [← erf]; omega)
        refine q_aload_n (j := 0) hA rfl dX9_item_43 ?_
        refine q_getR hA f_X9_43 dX9_item_44 sx_0 (by decide) fx_0_5 ?_
        refine q_iload_n (j := 1) hA rfl dX9_item_47 ?_
        refine q_aald (b := shAt s.toNat) hA (Or.inr rfl) dX9_item_48 sx_189 (by omega) (by decide) hz.1 ?_
        refine q_iload_n (j := 3) hA rfl dX9_item_49 ?_
        refine q_lload (j := 4) hA rfl dX9_item_50 ?_
        refine q_callVL (b := shAt s.toNat) (As := [vI i, vL x]) (st := []) hA l_X9_268 kX6_put (zX6_put hz.2 hok (by omega)) dX9_item_52 rfl rfl (shS hz.2) (by decide) rfl (Nat.le_of_ble_eq_true rfl) (by omega) (fun v52 D52 q52 => ?_)
        exact hR 55 _ _ _ dX9_item_55 (by first | exact Or.inr (Or.inl ⟨by omega, by omega, erf, rfl⟩) | (rcases q52 with z | z; exact absurd (by omega) z.1; exact Or.inr (Or.inr ⟨by omega, by omega, by rw [z.2.1, hr0.2.1], by rw [z.2.2, hr0.2.1]⟩)))
      · refine q_iload (j := 6) hA rfl dX9_item_37 ?_
        refine q_i2l hA (by omega) dX9_item_39 ?_
        refine q_goto (tgt := 55) hA dX9_item_40 (by decide) ?_
        exact hR 55 _ _ _ dX9_item_55 (by first | exact Or.inr (Or.inl ⟨by omega, by omega, erf, rfl⟩) | (rcases q52 with z | z; exact absurd (by omega) z.1; exact Or.inr (Or.inr ⟨by omega, by omega, by rw [z.2.1, hr0.2.1], by rw [z.2.2, hr0.2.1]⟩)))
    · refine q_if_ne (tgt := 18) hA (by decide) dX9_item_11 (by decide) (fun h11 => absurd h11 (by decide)) (fun h11 => ?_)
      refine q_ldc2 hA c_X9_263 dX9_item_14 ?_
      exact hR 17 _ _ _ dX9_item_17 (by exact Or.inl ⟨by omega, rfl, rfl⟩)
  · refine q_if_eq (tgt := 14) hA (by decide) dX9_item_4 (by decide) (fun h4 => ?_) (fun h4 => absurd h4 (by decide))
    refine q_ldc2 hA c_X9_263 dX9_item_14 ?_
    exact hR 17 _ _ _ dX9_item_17 (by exact Or.inl ⟨by omega, rfl, rfl⟩)
set_option maxHeartbeats 4000000 in
set_option maxRecDepth 100000 in
theorem zX9_copy {g : Gm} {l : Launch} {D : Dat} (hos : ∀ k : Int, 0 ≤ k ∧ k ≤ 3 → shOk D (shAt k.toNat)) {f : Int} {i : Int} {t : Int} {j : Int} {n : Int} (rf : -2147483648 ≤ f ∧ f ≤ 2147483647) (ri : -2147483648 ≤ i ∧ i ≤ 2147483647) (rt : -2147483648 ≤ t ∧ t ≤ 2147483647) (rj : -2147483648 ≤ j ∧ j ≤ 2147483647) (rn : -2147483648 ≤ n ∧ n ≤ 2147483647) : CrI g l 3 mX9_copy [vR 0, vI f, vI i, vI t, vI j, vI n] D (fun v D1 => (¬ ((0 ≤ f ∧ f ≤ 3) ∧ (0 ≤ t ∧ t ≤ 3)) ∧ v = -1 ∧ D1 = D) ∨ (((0 ≤ f ∧ f ≤ 3) ∧ (0 ≤ t ∧ t ≤ 3)) ∧ (D (shAt f.toNat) 1 = -1 ∨ D (shAt t.toNat) 1 = -1) ∧ v = -11 ∧ D1 = D) ∨ (((0 ≤ f ∧ f ≤ 3) ∧ (0 ≤ t ∧ t ≤ 3)) ∧ (D (shAt f.toNat) 1 ≠ -1 ∧ D (shAt t.toNat) 1 ≠ -1) ∧ D (shAt f.toNat) 1 ≠ D (shAt t.toNat) 1 ∧ v = -12 ∧ D1 = D) ∨ (((0 ≤ f ∧ f ≤ 3) ∧ (0 ≤ t ∧ t ≤ 3)) ∧ (D (shAt f.toNat) 1 ≠ -1 ∧ D (shAt f.toNat) 1 = D (shAt t.toNat) 1) ∧ ¬ ((0 ≤ n ∧ n ≤ D (shAt f.toNat) 2 ∧ 0 ≤ i ∧ i ≤ D (shAt f.toNat) 2 - n) ∧ (0 ≤ n ∧ n ≤ D (shAt t.toNat) 2 ∧ 0 ≤ j ∧ j ≤ D (shAt t.toNat) 2 - n)) ∧ v = -13 ∧ D1 = D) ∨ (((0 ≤ f ∧ f ≤ 3) ∧ (0 ≤ t ∧ t ≤ 3)) ∧ (D (shAt f.toNat) 1 ≠ -1 ∧ D (shAt f.toNat) 1 = D (shAt t.toNat) 1) ∧ ((0 ≤ n ∧ n ≤ D (shAt f.toNat) 2 ∧ 0 ≤ i ∧ i ≤ D (shAt f.toNat) 2 - n) ∧ (0 ≤ n ∧ n ≤ D (shAt t.toNat) 2 ∧ 0 ≤ j ∧ j ≤ D (shAt t.toNat) 2 - n)) ∧ v = n ∧ D1 = cpD D (shAt f.toNat + 1) i (shAt t.toNat + 1) j n)) := by
  refine Cr.ofI (lo0 := [vR 0, vI f, vI i, vI t, vI j, vI n, vN, vN]) (by decide) (Nat.le_of_ble_eq_true rfl) rfl (fun J hA hR => ?_)
  refine q_iload_n (j := 1) hA rfl dX9_copy_0 ?_
  refine q_callSB (As := [vI f]) (st := []) hA l_X9_246 kX9_isSheet (zX9_isSheet (by first | assumption | omega | rfl)) dX9_copy_1 rfl rfl (Nat.le_of_ble_eq_true rfl) (by omega) (fun h1 => ?_) (fun h1 => ?_)
  · refine q_if_eq (tgt := 14) hA (by decide) dX9_copy_4 (by decide) (fun h4 => absurd h4 (by decide)) (fun h4 => ?_)
    refine q_iload_n (j := 3) hA rfl dX9_copy_7 ?_
    refine q_callSB (As := [vI t]) (st := []) hA l_X9_246 kX9_isSheet (zX9_isSheet (by first | assumption | omega | rfl)) dX9_copy_8 rfl rfl (Nat.le_of_ble_eq_true rfl) (by omega) (fun h8 => ?_) (fun h8 => ?_)
    · refine q_if_ne (tgt := 16) hA (by decide) dX9_copy_11 (by decide) (fun h11 => ?_) (fun h11 => absurd h11 (by decide))
      have hz1 := hSh h1
      have hz2 := hSh h8
      have ok1 := hos f h1
      have ok2 := hos t h8
      have sz1 := ok1.2.1
      have sz2 := ok2.2.1
      have ln1 := ok1.1
      have ln2 := ok2.1
      refine q_aload_n (j := 0) hA rfl dX9_copy_16 ?_
      refine q_getR hA f_X9_43 dX9_copy_17 sx_0 (by decide) fx_0_5 ?_
      refine q_iload_n (j := 1) hA rfl dX9_copy_20 ?_
      refine q_aald (b := shAt f.toNat) hA (Or.inr rfl) dX9_copy_21 sx_189 (by omega) (by decide) hz1.1 ?_
      refine q_astore (j := 6) (lo2 := [vR 0, vI f, vI i, vI t, vI j, vI n, vR (shAt f.toNat), vN]) hA dX9_copy_22 (by decide) rfl rfl ?_
      refine q_aload_n (j := 0) hA rfl dX9_copy_24 ?_
      refine q_getR hA f_X9_43 dX9_copy_25 sx_0 (by decide) fx_0_5 ?_
      refine q_iload_n (j := 3) hA rfl dX9_copy_28 ?_
      refine q_aald (b := shAt t.toNat) hA (Or.inr rfl) dX9_copy_29 sx_189 (by omega) (by decide) hz2.1 ?_
      refine q_astore (j := 7) (lo2 := [vR 0, vI f, vI i, vI t, vI j, vI n, vR (shAt f.toNat), vR (shAt t.toNat)]) hA dX9_copy_30 (by decide) rfl rfl ?_
      refine q_aload (j := 6) hA rfl dX9_copy_32 ?_
      refine q_callVB (b := shAt f.toNat) (As := []) (st := []) hA l_X9_254 kX6_isNothing (zX6_isNothing hz1.2 ok1) dX9_copy_34 rfl rfl (shS hz1.2) (by decide) rfl (Nat.le_of_ble_eq_true rfl) (by omega) (fun h34 => ?_) (fun h34 => ?_)
      · refine q_if_ne (tgt := 48) hA (by decide) dX9_copy_37 (by decide) (fun h37 => ?_) (fun h37 => absurd h37 (by decide))
        refine q_bipush hA (by decide) dX9_copy_48 ?_
        exact hR 50 _ _ _ dX9_copy_50 (by exact Or.inr (Or.inl ⟨by omega, by omega, rfl, rfl⟩))
      · refine q_if_ne (tgt := 48) hA (by decide) dX9_copy_37 (by decide) (fun h37 => absurd h37 (by decide)) (fun h37 => ?_)
        refine q_aload (j := 7) hA rfl dX9_copy_40 ?_
        refine q_callVB (b := shAt t.toNat) (As := []) (st := []) hA l_X9_254 kX6_isNothing (zX6_isNothing hz2.2 ok2) dX9_copy_42 rfl rfl (shS hz2.2) (by decide) rfl (Nat.le_of_ble_eq_true rfl) (by omega) (fun h42 => ?_) (fun h42 => ?_)
        · refine q_if_eq (tgt := 51) hA (by decide) dX9_copy_45 (by decide) (fun h45 => absurd h45 (by decide)) (fun h45 => ?_)
          refine q_bipush hA (by decide) dX9_copy_48 ?_
          exact hR 50 _ _ _ dX9_copy_50 (by exact Or.inr (Or.inl ⟨by omega, by omega, rfl, rfl⟩))
        · refine q_if_eq (tgt := 51) hA (by decide) dX9_copy_45 (by decide) (fun h45 => ?_) (fun h45 => absurd h45 (by decide))
          refine q_aload (j := 6) hA rfl dX9_copy_51 ?_
          refine q_getI (x := D (shAt f.toNat) 1) hA f_X9_272 dX9_copy_53 (shS hz1.2) (by decide) rfl ?_
          refine q_aload (j := 7) hA rfl dX9_copy_56 ?_
          refine q_getI (x := D (shAt t.toNat) 1) hA f_X9_272 dX9_copy_58 (shS hz2.2) (by decide) rfl ?_
          refine q_icmp_eq (tgt := 67) hA (by omega) (by omega) dX9_copy_61 (by decide) (fun h61 => ?_) (fun h61 => ?_)
          · refine q_aload (j := 6) hA rfl dX9_copy_67 ?_
            refine q_iload_n (j := 2) hA rfl dX9_copy_69 ?_
            refine q_iload (j := 5) hA rfl dX9_copy_70 ?_
            refine q_callVB (b := shAt f.toNat) (As := [vI i, vI n]) (st := []) hA l_X9_275 kX6_spans (zX6_spans hz1.2 ok1 (by omega) (by omega)) dX9_copy_72 rfl rfl (shS hz1.2) (by decide) rfl (Nat.le_of_ble_eq_true rfl) (by omega) (fun h72 => ?_) (fun h72 => ?_)
            · refine q_if_eq (tgt := 90) hA (by decide) dX9_copy_75 (by decide) (fun h75 => absurd h75 (by decide)) (fun h75 => ?_)
              refine q_aload (j := 7) hA rfl dX9_copy_78 ?_
              refine q_iload (j := 4) hA rfl dX9_copy_80 ?_
              refine q_iload (j := 5) hA rfl dX9_copy_82 ?_
              refine q_callVB (b := shAt t.toNat) (As := [vI j, vI n]) (st := []) hA l_X9_275 kX6_spans (zX6_spans hz2.2 ok2 (by omega) (by omega)) dX9_copy_84 rfl rfl (shS hz2.2) (by decide) rfl (Nat.le_of_ble_eq_true rfl) (by omega) (fun h84 => ?_) (fun h84 => ?_)
              · refine q_if_ne (tgt := 93) hA (by decide) dX9_copy_87 (by decide) (fun h87 => ?_) (fun h87 => absurd h87 (by decide))
                refine q_aload (j := 6) hA rfl dX9_copy_93 ?_
                refine q_getR hA f_X9_278 dX9_copy_95 (shS hz1.2) (by decide) (shF hz1.2) ?_
                refine q_iload_n (j := 2) hA rfl dX9_copy_98 ?_
                refine q_aload (j := 7) hA rfl dX9_copy_99 ?_
                refine q_getR hA f_X9_278 dX9_copy_101 (shS hz2.2) (by decide) (shF hz2.2) ?_
                refine q_iload (j := 4) hA rfl dX9_copy_104 ?_
                refine q_iload (j := 5) hA rfl dX9_copy_106 ?_
                refine q_copyl hA cw_X9_282 (shS1 hz1.2) (shS1 hz2.2) (by omega) (by omega) (by decide) (Nat.le_of_ble_eq_true rfl) (by omega) dX9_copy_108 ?_
                refine q_iload (j := 5) hA rfl dX9_copy_111 ?_
                exact hR 113 _ _ _ dX9_copy_113 (by exact Or.inr (Or.inr (Or.inr (Or.inr ⟨by omega, by omega, ⟨h72, h84⟩, rfl, rfl⟩))))
              · refine q_if_ne (tgt := 93) hA (by decide) dX9_copy_87 (by decide) (fun h87 => absurd h87 (by decide)) (fun h87 => ?_)
                refine q_bipush hA (by decide) dX9_copy_90 ?_
                exact hR 92 _ _ _ dX9_copy_92 (by exact Or.inr (Or.inr (Or.inr (Or.inl ⟨by omega, by omega, by omega, rfl, rfl⟩))))
            · refine q_if_eq (tgt := 90) hA (by decide) dX9_copy_75 (by decide) (fun h75 => ?_) (fun h75 => absurd h75 (by decide))
              refine q_bipush hA (by decide) dX9_copy_90 ?_
              exact hR 92 _ _ _ dX9_copy_92 (by exact Or.inr (Or.inr (Or.inr (Or.inl ⟨by omega, by omega, by omega, rfl, rfl⟩))))
          · refine q_bipush hA (by decide) dX9_copy_64 ?_
            exact hR 66 _ _ _ dX9_copy_66 (by exact Or.inr (Or.inr (Or.inl ⟨by omega, by omega, by omega, rfl, rfl⟩)))
    · refine q_if_ne (tgt := 16) hA (by decide) dX9_copy_11 (by decide) (fun h11 => absurd h11 (by decide)) (fun h11 => ?_)
      refine q_iconst hA dX9_copy_14 ?_
      exact hR 15 _ _ _ dX9_copy_15 (by exact Or.inl ⟨by omega, rfl, rfl⟩)
  · refine q_if_eq (tgt := 14) hA (by decide) dX9_copy_4 (by decide) (fun h4 => ?_) (fun h4 => absurd h4 (by decide))
    refine q_iconst hA dX9_copy_14 ?_
    exact hR 15 _ _ _ dX9_copy_15 (by exact Or.inl ⟨by omega, rfl, rfl⟩)
set_option maxHeartbeats 4000000 in
set_option maxRecDepth 100000 in
theorem zX9_log {g : Gm} {l : Launch} {D : Dat} (ho : sOk D 11) (hg0 : D 11 6 ≠ 0 → gdX (rowX D 11)) (hos : ∀ k : Int, 0 ≤ k ∧ k ≤ 3 → shOk D (shAt k.toNat)) {s : Int} {n : Int} {i : Int} {k : Int} (rs : -2147483648 ≤ s ∧ s ≤ 2147483647) (rn : -2147483648 ≤ n ∧ n ≤ 2147483647) (ri : -2147483648 ≤ i ∧ i ≤ 2147483647) (rk : -2147483648 ≤ k ∧ k ≤ 2147483647) : CrI g l 6 mX9_log [vR 0, vI s, vI n, vI i, vI k] D (fun v D1 => (¬ ((((0 ≤ s ∧ s ≤ 3) ∧ (0 ≤ n ∧ n ≤ 3)) ∧ (1 ≤ k ∧ k ≤ 24))) ∧ v = -1 ∧ D1 = D) ∨ (((((0 ≤ s ∧ s ≤ 3) ∧ (0 ≤ n ∧ n ≤ 3)) ∧ (1 ≤ k ∧ k ≤ 24))) ∧ refS (D (shAt s.toNat) 1) (D (shAt s.toNat) 2) n i k < 0 ∧ v = refS (D (shAt s.toNat) 1) (D (shAt s.toNat) 2) n i k ∧ D1 = D) ∨ (((((0 ≤ s ∧ s ≤ 3) ∧ (0 ≤ n ∧ n ≤ 3)) ∧ (1 ≤ k ∧ k ≤ 24))) ∧ refS (D (shAt s.toNat) 1) (D (shAt s.toNat) 2) n i k = 0 ∧ D 11 6 = 0 ∧ v = -2 ∧ D1 = D) ∨ (((((0 ≤ s ∧ s ≤ 3) ∧ (0 ≤ n ∧ n ≤ 3)) ∧ (1 ≤ k ∧ k ≤ 24))) ∧ refS (D (shAt s.toNat) 1) (D (shAt s.toNat) 2) n i k = 0 ∧ D 11 6 ≠ 0 ∧ v = k ∧ (∀ j : Nat, (j : Int) < k → D1 (shAt s.toNat + 1) (i + j) = cSeq (rowX D 11) (D 11 7 * 8 + D 11 8) (j + 1) / 8) ∧ (∀ y : Int, (y < i ∨ i + k ≤ y) → D1 (shAt s.toNat + 1) y = D (shAt s.toNat + 1) y) ∧ ∀ c, c ≠ shAt s.toNat + 1 → (c < 190 ∨ 196 ≤ c) → D1 c = D c)) := by
  refine Cr.ofI (lo0 := [vR 0, vI s, vI n, vI i, vI k, vN]) (by decide) (Nat.le_of_ble_eq_true rfl) rfl (fun J hA hR => ?_)
  have hn := ho.n
  have hf := ho.f
  have hb := ho.b
  refine q_iload_n (j := 1) hA rfl dX9_log_0 ?_
  refine q_callSB (As := [vI s]) (st := []) hA l_X9_246 kX9_isSheet (zX9_isSheet (by first | assumption | omega | rfl)) dX9_log_1 rfl rfl (Nat.le_of_ble_eq_true rfl) (by omega) (fun h1 => ?_) (fun h1 => ?_)
  · refine q_if_eq (tgt := 25) hA (by decide) dX9_log_4 (by decide) (fun h4 => absurd h4 (by decide)) (fun h4 => ?_)
    refine q_iload_n (j := 2) hA rfl dX9_log_7 ?_
    refine q_callSB (As := [vI n]) (st := []) hA l_X9_249 kX9_isLane (zX9_isLane (by first | assumption | omega | rfl)) dX9_log_8 rfl rfl (Nat.le_of_ble_eq_true rfl) (by omega) (fun h8 => ?_) (fun h8 => ?_)
    · refine q_if_eq (tgt := 25) hA (by decide) dX9_log_11 (by decide) (fun h11 => absurd h11 (by decide)) (fun h11 => ?_)
      refine q_iload (j := 4) hA rfl dX9_log_14 ?_
      refine q_iconst hA dX9_log_16 ?_
      refine q_bipush hA (by decide) dX9_log_17 ?_
      refine q_callSB (As := [vI k, vI 1, vI 24]) (st := []) hA l_X9_69 kX9_isWithin (zX9_isWithin (by first | assumption | omega | rfl) (by first | assumption | omega | rfl) (by first | assumption | omega | rfl)) dX9_log_19 rfl rfl (Nat.le_of_ble_eq_true rfl) (by omega) (fun h19 => ?_) (fun h19 => ?_)
      · refine q_if_ne (tgt := 27) hA (by decide) dX9_log_22 (by decide) (fun h22 => ?_) (fun h22 => absurd h22 (by decide))
        have hz := hSh h1
        have hso := shOut hz.2
        have hok := hos s h1
        have hsz := hok.2.1
        have hln := hok.1
        refine q_aload_n (j := 0) hA rfl dX9_log_27 ?_
        refine q_getR hA f_X9_43 dX9_log_28 sx_0 (by decide) fx_0_5 ?_
        refine q_iload_n (j := 1) hA rfl dX9_log_31 ?_
        refine q_aald (b := shAt s.toNat) hA (Or.inr rfl) dX9_log_32 sx_189 (by omega) (by decide) hz.1 ?_
        refine q_iload_n (j := 2) hA rfl dX9_log_33 ?_
        refine q_iload_n (j := 3) hA rfl dX9_log_34 ?_
        refine q_iload (j := 4) hA rfl dX9_log_35 ?_
        refine q_callVP (b := shAt s.toNat) (As := [vI n, vI i, vI k]) (st := []) hA l_X9_265 kX6_refusal (zX6_refusal hz.2 hok (by omega) (by omega) (by omega)) dX9_log_37 rfl rfl (shS hz.2) (by decide) rfl (Nat.le_of_ble_eq_true rfl) (by omega) ?_
        refine q_nmI (fun rf erf => ?_)
        have hw := refS_in (D (shAt s.toNat) 1) (D (shAt s.toNat) 2) n i k
        rw [← erf] at hw
        refine q_istore (j := 5) (lo2 := [vR 0, vI s, vI n, vI i, vI k, vI rf]) hA dX9_log_40 (by decide) rfl rfl ?_
        refine q_iload (j := 5) hA rfl dX9_log_42 ?_
        refine q_if_eq (tgt := 50) hA (by omega) dX9_log_44 (by decide) (fun h44 => ?_) (fun h44 => ?_)
        · have hr0 := refS_0 (lane := D (shAt s.toNat) 1) (size := D (shAt s.toNat) 2) (want := n) (i := i) (n := k) (by rw [← erf]; omega)
          refine q_aload_n (j := 0) hA rfl dX9_log_50 ?_
          refine q_getR hA f_X9_26 dX9_log_51 sx_0 (by decide) fx_0_2 ?_
          refine q_callVB (b := 11) (As := []) (st := []) hA l_X9_139 kX7_isMissing (zX7_isMissing isS11 ho) dX9_log_54 rfl rfl (strS isS11) (by decide) rfl (Nat.le_of_ble_eq_true rfl) (by omega) (fun h54 => ?_) (fun h54 => ?_)
          · refine q_if_eq (tgt := 63) hA (by decide) dX9_log_57 (by decide) (fun h57 => absurd h57 (by decide)) (fun h57 => ?_)
            refine q_bipush hA (by decide) dX9_log_60 ?_
            exact hR 62 _ _ _ dX9_log_62 (by exact Or.inr (Or.inr (Or.inl ⟨by omega, by omega, h54, rfl, rfl⟩)))
          · refine q_if_eq (tgt := 63) hA (by decide) dX9_log_57 (by decide) (fun h57 => ?_) (fun h57 => absurd h57 (by decide))
            refine q_aload_n (j := 0) hA rfl dX9_log_63 ?_
            refine q_getR hA f_X9_50 dX9_log_64 sx_0 (by decide) fx_0_6 ?_
            refine q_aload_n (j := 0) hA rfl dX9_log_67 ?_
            refine q_getR hA f_X9_26 dX9_log_68 sx_0 (by decide) fx_0_2 ?_
            refine q_callVV (b := 190) (As := [vR 11]) (st := []) hA l_X9_195 kX4_lay (zX4_lay isS11 ho) dX9_log_71 rfl rfl sx_190 (by decide) rfl (Nat.le_of_ble_eq_true rfl) (by omega) (fun D71 q71 => ?_)
            obtain ⟨l1, l2, l3⟩ := q71
            have hgx := hg0 (by omega)
            have hgd := hgx.1
            have hsy := hgd.2.1
            have hn8 := hgd.1.2.1.2.1
            have hz0 : zOk (rowX D 11) (D71 190 5) := by rw [l1]; exact zR_x hgd
            have e71 : D71 (shAt s.toNat) = D (shAt s.toNat) ∧ D71 (shAt s.toNat + 1) = D (shAt s.toNat + 1) := ⟨l3 _ (by omega), l3 _ (by omega)⟩
            have ok71 : shOk D71 (shAt s.toNat) := by unfold shOk; rw [e71.1, e71.2]; exact hok
            refine q_aload_n (j := 0) hA rfl dX9_log_74 ?_
            refine q_getR hA f_X9_50 dX9_log_75 sx_0 (by decide) fx_0_6 ?_
            refine q_aload_n (j := 0) hA rfl dX9_log_78 ?_
            refine q_getR hA f_X9_43 dX9_log_79 sx_0 (by decide) fx_0_5 ?_
            refine q_iload_n (j := 1) hA rfl dX9_log_82 ?_
            refine q_aald (b := shAt s.toNat) hA (Or.inr rfl) dX9_log_83 sx_189 (by omega) (by decide) hz.1 ?_
            refine q_iload_n (j := 3) hA rfl dX9_log_84 ?_
            refine q_iload (j := 4) hA rfl dX9_log_85 ?_
            refine q_callVV (b := 190) (As := [vR (shAt s.toNat), vI i, vI k]) (st := []) hA l_X9_288 kX4_writeCircle (zX4_writeCircle l2 hsy hn8 hz0 hz.2 ok71 (by rw [e71.1]; omega)) dX9_log_87 rfl rfl sx_190 (by decide) rfl (Nat.le_of_ble_eq_true rfl) (by omega) (fun D87 q87 => ?_)
            obtain ⟨c1, c2, c3⟩ := q87
            rw [l1] at c1
            rw [e71.2] at c2
            refine q_iload (j := 4) hA rfl dX9_log_90 ?_
            exact hR 92 _ _ _ dX9_log_92 (by exact Or.inr (Or.inr (Or.inr ⟨by omega, by omega, h54, rfl, c1, c2, fun c d1 d2 => (c3 c (by omega)).trans (l3 c (by omega))⟩)))
        · refine q_iload (j := 5) hA rfl dX9_log_47 ?_
          exact hR 49 _ _ _ dX9_log_49 (by exact Or.inr (Or.inl ⟨by omega, by omega, erf, rfl⟩))
      · refine q_if_ne (tgt := 27) hA (by decide) dX9_log_22 (by decide) (fun h22 => absurd h22 (by decide)) (fun h22 => ?_)
        refine q_iconst hA dX9_log_25 ?_
        exact hR 26 _ _ _ dX9_log_26 (by exact Or.inl ⟨by omega, rfl, rfl⟩)
    · refine q_if_eq (tgt := 25) hA (by decide) dX9_log_11 (by decide) (fun h11 => ?_) (fun h11 => absurd h11 (by decide))
      refine q_iconst hA dX9_log_25 ?_
      exact hR 26 _ _ _ dX9_log_26 (by exact Or.inl ⟨by omega, rfl, rfl⟩)
  · refine q_if_eq (tgt := 25) hA (by decide) dX9_log_4 (by decide) (fun h4 => ?_) (fun h4 => absurd h4 (by decide))
    refine q_iconst hA dX9_log_25 ?_
    exact hR 26 _ _ _ dX9_log_26 (by exact Or.inl ⟨by omega, rfl, rfl⟩)
set_option maxHeartbeats 4000000 in
set_option maxRecDepth 100000 in
theorem zX9_foldings {g : Gm} {l : Launch} {D : Dat} (ho : sOk D 11) (hg0 : D 11 6 ≠ 0 → gdX (rowX D 11)) (hos : ∀ k : Int, 0 ≤ k ∧ k ≤ 3 → shOk D (shAt k.toNat)) (ho8 : sOk D 248) {s : Int} {n : Int} {i : Int} {m : Int} {w : Int} (rs : -2147483648 ≤ s ∧ s ≤ 2147483647) (rn : -2147483648 ≤ n ∧ n ≤ 2147483647) (ri : -2147483648 ≤ i ∧ i ≤ 2147483647) (rm : -2147483648 ≤ m ∧ m ≤ 2147483647) (rw : -2147483648 ≤ w ∧ w ≤ 2147483647) : CrI g l 12 mX9_foldings [vR 0, vI s, vI n, vI i, vI m, vI w] D (fun v D1 => ((¬ ((((D 11 6 ≠ 0 ∧ (0 ≤ s ∧ s ≤ 3)) ∧ (0 ≤ n ∧ n ≤ 3)) ∧ (0 ≤ m ∧ m ≤ 8)) ∧ (0 ≤ w ∧ w ≤ 2)) ∧ v = -1) ∨ (((((D 11 6 ≠ 0 ∧ (0 ≤ s ∧ s ≤ 3)) ∧ (0 ≤ n ∧ n ≤ 3)) ∧ (0 ≤ m ∧ m ≤ 8)) ∧ (0 ≤ w ∧ w ≤ 2)) ∧ refS (D (shAt s.toNat) 1) (D (shAt s.toNat) 2) n i (2 + 2 * m) < 0 ∧ v = refS (D (shAt s.toNat) 1) (D (shAt s.toNat) 2) n i (2 + 2 * m)) ∨ ((((((D 11 6 ≠ 0 ∧ (0 ≤ s ∧ s ≤ 3)) ∧ (0 ≤ n ∧ n ≤ 3)) ∧ (0 ≤ m ∧ m ≤ 8)) ∧ (0 ≤ w ∧ w ≤ 2)) ∧ refS (D (shAt s.toNat) 1) (D (shAt s.toNat) 2) n i (2 + 2 * m) = 0) ∧ whB (D (shAt s.toNat + 1)) (D 11 6) i m.toNat = false ∧ v = -2) ∨ ((((((D 11 6 ≠ 0 ∧ (0 ≤ s ∧ s ≤ 3)) ∧ (0 ≤ n ∧ n ≤ 3)) ∧ (0 ≤ m ∧ m ≤ 8)) ∧ (0 ≤ w ∧ w ≤ 2)) ∧ refS (D (shAt s.toNat) 1) (D (shAt s.toNat) 2) n i (2 + 2 * m) = 0) ∧ whB (D (shAt s.toNat + 1)) (D 11 6) i m.toNat = true ∧ w = 1 ∧ (v = if gsX (rL (rowX D 11)) (D 11 6) (D (shAt s.toNat + 1)) i m = -4 then 0 else 1)) ∨ ((((((D 11 6 ≠ 0 ∧ (0 ≤ s ∧ s ≤ 3)) ∧ (0 ≤ n ∧ n ≤ 3)) ∧ (0 ≤ m ∧ m ≤ 8)) ∧ (0 ≤ w ∧ w ≤ 2)) ∧ refS (D (shAt s.toNat) 1) (D (shAt s.toNat) 2) n i (2 + 2 * m) = 0) ∧ whB (D (shAt s.toNat + 1)) (D 11 6) i m.toNat = true ∧ w ≠ 1 ∧ v = fdX (triN (D 11 6).toNat) (D 11 6) (D (shAt s.toNat + 1)) i m w)) ∧ (∀ c, (c < 247 ∨ 261 ≤ c) → D1 c = D c) ∧ sOk D1 248) := by
  refine Cr.ofI (lo0 := [vR 0, vI s, vI n, vI i, vI m, vI w, vN]) (by decide) (Nat.le_of_ble_eq_true rfl) rfl (fun J hA hR => ?_)
  have hn := ho.n
  have hf := ho.f
  have hb := ho.b
  refine q_aload_n (j := 0) hA rfl dX9_foldings_0 ?_
  refine q_getR hA f_X9_26 dX9_foldings_1 sx_0 (by decide) fx_0_2 ?_
  refine q_callVB (b := 11) (As := []) (st := []) hA l_X9_139 kX7_isMissing (zX7_isMissing isS11 ho) dX9_foldings_4 rfl rfl (strS isS11) (by decide) rfl (Nat.le_of_ble_eq_true rfl) (by omega) (fun h4 => ?_) (fun h4 => ?_)
  · refine q_if_ne (tgt := 45) hA (by decide) dX9_foldings_7 (by decide) (fun h7 => ?_) (fun h7 => absurd h7 (by decide))
    refine q_iconst hA dX9_foldings_45 ?_
    exact hR 46 _ _ _ dX9_foldings_46 ⟨Or.inl ⟨by omega, rfl⟩, fun _ _ => rfl, ho8⟩
  · refine q_if_ne (tgt := 45) hA (by decide) dX9_foldings_7 (by decide) (fun h7 => absurd h7 (by decide)) (fun h7 => ?_)
    refine q_iload_n (j := 1) hA rfl dX9_foldings_10 ?_
    refine q_callSB (As := [vI s]) (st := []) hA l_X9_246 kX9_isSheet (zX9_isSheet (by first | assumption | omega | rfl)) dX9_foldings_11 rfl rfl (Nat.le_of_ble_eq_true rfl) (by omega) (fun h11 => ?_) (fun h11 => ?_)
    · refine q_if_eq (tgt := 45) hA (by decide) dX9_foldings_14 (by decide) (fun h14 => absurd h14 (by decide)) (fun h14 => ?_)
      refine q_iload_n (j := 2) hA rfl dX9_foldings_17 ?_
      refine q_callSB (As := [vI n]) (st := []) hA l_X9_249 kX9_isLane (zX9_isLane (by first | assumption | omega | rfl)) dX9_foldings_18 rfl rfl (Nat.le_of_ble_eq_true rfl) (by omega) (fun h18 => ?_) (fun h18 => ?_)
      · refine q_if_eq (tgt := 45) hA (by decide) dX9_foldings_21 (by decide) (fun h21 => absurd h21 (by decide)) (fun h21 => ?_)
        refine q_iload (j := 4) hA rfl dX9_foldings_24 ?_
        refine q_iconst hA dX9_foldings_26 ?_
        refine q_bipush hA (by decide) dX9_foldings_27 ?_
        refine q_callSB (As := [vI m, vI 0, vI 8]) (st := []) hA l_X9_69 kX9_isWithin (zX9_isWithin (by first | assumption | omega | rfl) (by first | assumption | omega | rfl) (by first | assumption | omega | rfl)) dX9_foldings_29 rfl rfl (Nat.le_of_ble_eq_true rfl) (by omega) (fun h29 => ?_) (fun h29 => ?_)
        · refine q_if_eq (tgt := 45) hA (by decide) dX9_foldings_32 (by decide) (fun h32 => absurd h32 (by decide)) (fun h32 => ?_)
          refine q_iload (j := 5) hA rfl dX9_foldings_35 ?_
          refine q_iconst hA dX9_foldings_37 ?_
          refine q_iconst hA dX9_foldings_38 ?_
          refine q_callSB (As := [vI w, vI 0, vI 2]) (st := []) hA l_X9_69 kX9_isWithin (zX9_isWithin (by first | assumption | omega | rfl) (by first | assumption | omega | rfl) (by first | assumption | omega | rfl)) dX9_foldings_39 rfl rfl (Nat.le_of_ble_eq_true rfl) (by omega) (fun h39 => ?_) (fun h39 => ?_)
          · refine q_if_ne (tgt := 47) hA (by decide) dX9_foldings_42 (by decide) (fun h42 => ?_) (fun h42 => absurd h42 (by decide))
            have hz := hSh h11
            have hso := shOut hz.2
            have hok := hos s h11
            have hsz := hok.2.1
            have hln := hok.1
            refine q_aload_n (j := 0) hA rfl dX9_foldings_47 ?_
            refine q_getR hA f_X9_43 dX9_foldings_48 sx_0 (by decide) fx_0_5 ?_
            refine q_iload_n (j := 1) hA rfl dX9_foldings_51 ?_
            refine q_aald (b := shAt s.toNat) hA (Or.inr rfl) dX9_foldings_52 sx_189 (by omega) (by decide) hz.1 ?_
            refine q_iload_n (j := 2) hA rfl dX9_foldings_53 ?_
            refine q_iload_n (j := 3) hA rfl dX9_foldings_54 ?_
            refine q_iconst hA dX9_foldings_55 ?_
            refine q_iconst hA dX9_foldings_56 ?_
            refine q_iload (j := 4) hA rfl dX9_foldings_57 ?_
            refine q_imul hA dX9_foldings_59 ?_
            refine q_iadd hA dX9_foldings_60 ?_
            refine q_callVP (b := shAt s.toNat) (As := [vI n, vI i, vI (2 + (2 * m))]) (st := []) hA l_X9_265 kX6_refusal (zX6_refusal hz.2 hok (by omega) (by omega) (by omega)) dX9_foldings_61 rfl rfl (shS hz.2) (by decide) rfl (Nat.le_of_ble_eq_true rfl) (by omega) ?_
            refine q_nmI (fun rf erf => ?_)
            refine q_nmI (fun wy ewy => ?_)
            refine q_istore (j := 6) (lo2 := [vR 0, vI s, vI n, vI i, vI m, vI w, vI wy]) hA dX9_foldings_64 (by decide) rfl rfl ?_
            have hw := refS_in (D (shAt s.toNat) 1) (D (shAt s.toNat) 2) n i (2 + 2 * m)
            rw [← erf, ← ewy] at hw
            refine q_iload (j := 6) hA rfl dX9_foldings_66 ?_
            refine q_if_eq (tgt := 74) hA (by omega) dX9_foldings_68 (by decide) (fun h68 => ?_) (fun h68 => ?_)
            · have hKX : (((((D 11 6 ≠ 0 ∧ (0 ≤ s ∧ s ≤ 3)) ∧ (0 ≤ n ∧ n ≤ 3)) ∧ (0 ≤ m ∧ m ≤ 8)) ∧ (0 ≤ w ∧ w ≤ 2)) ∧ refS (D (shAt s.toNat) 1) (D (shAt s.toNat) 2) n i (2 + 2 * m) = 0) := ⟨by omega, by rw [← erf, ← ewy]; omega⟩
              have hr0 := refS_0 hKX.2
              have hgx := hg0 (by omega)
              have h3 := hgx.2.2.2
              rw [xN] at h3
              refine q_aload_n (j := 0) hA rfl dX9_foldings_74 ?_
              refine q_getR hA f_X9_64 dX9_foldings_75 sx_0 (by decide) fx_0_8 ?_
              refine q_aload_n (j := 0) hA rfl dX9_foldings_78 ?_
              refine q_getR hA f_X9_43 dX9_foldings_79 sx_0 (by decide) fx_0_5 ?_
              refine q_iload_n (j := 1) hA rfl dX9_foldings_82 ?_
              refine q_aald (b := shAt s.toNat) hA (Or.inr rfl) dX9_foldings_83 sx_189 (by omega) (by decide) hz.1 ?_
              refine q_iload_n (j := 3) hA rfl dX9_foldings_84 ?_
              refine q_iload (j := 4) hA rfl dX9_foldings_85 ?_
              refine q_aload_n (j := 0) hA rfl dX9_foldings_87 ?_
              refine q_getR hA f_X9_26 dX9_foldings_88 sx_0 (by decide) fx_0_2 ?_
              refine q_getI (x := D 11 6) hA f_X9_98 dX9_foldings_91 (strS isS11) (by decide) rfl ?_
              refine q_callVI (b := 247) (As := [vR (shAt s.toNat), vI i, vI m, vI (D 11 6)]) (st := []) hA l_X9_292 kX0_hear (zX0_hear hz.2 hok (by omega) (by omega) (by omega)) dX9_foldings_94 rfl rfl sx_247 (by decide) rfl (Nat.le_of_ble_eq_true rfl) (by omega) (fun v94 D94 q94 => ?_)
              obtain ⟨hv94, hf94⟩ := q94
              have fr94 : ∀ c, (c < 247 ∨ 261 ≤ c) → D94 c = D c := fun c hc => hf94.1 c (by omega) (by omega) (by omega)
              have r94 : rowX D94 11 = rowX D 11 := by unfold rowX; rw [fr94 11 (by omega), fr94 (11 + 1) (by omega), fr94 (11 + 2) (by omega), fr94 (11 + 3) (by omega), fr94 (11 + 4) (by omega), fr94 (11 + 5) (by omega), fr94 (11 + 6) (by omega)]
              have o94 : sOk D94 11 := by unfold sOk; rw [r94]; exact ho
              have t94 : rowX D94 248 = rowX D 248 := by unfold rowX; rw [hf94.1 248 (by omega) (by omega) (by omega), hf94.1 (248 + 1) (by omega) (by omega) (by omega), hf94.1 (248 + 2) (by omega) (by omega) (by omega), hf94.1 (248 + 3) (by omega) (by omega) (by omega), hf94.1 (248 + 4) (by omega) (by omega) (by omega), hf94.1 (248 + 5) (by omega) (by omega) (by omega), hf94.1 (248 + 6) (by omega) (by omega) (by omega)]
              have o8b : sOk D94 248 := by unfold sOk; rw [t94]; exact ho8
              have e6 : D94 11 6 = D 11 6 := by rw [fr94 11 (by omega)]
              rcases hv94 with ⟨hw94, rfl, hd94⟩ | ⟨hw94, rfl⟩
              · skip
                refine q_if_ne (tgt := 103) hA (by decide) dX9_foldings_97 (by decide) (fun h97 => ?_) (fun h97 => absurd h97 (by decide))
                refine q_iload (j := 5) hA rfl dX9_foldings_103 ?_
                refine q_iconst hA dX9_foldings_105 ?_
                refine q_icmp_ne (tgt := 129) hA (by omega) (by omega) dX9_foldings_106 (by decide) (fun h106 => ?_) (fun h106 => ?_)
                · refine q_aload_n (j := 0) hA rfl dX9_foldings_129 ?_
                  refine q_getR hA f_X9_64 dX9_foldings_130 sx_0 (by decide) fx_0_8 ?_
                  refine q_aload_n (j := 0) hA rfl dX9_foldings_133 ?_
                  refine q_getR hA f_X9_26 dX9_foldings_134 sx_0 (by decide) fx_0_2 ?_
                  refine q_getI (x := D 11 6) hA f_X9_98 dX9_foldings_137 (strS isS11) (by decide) e6 ?_
                  refine q_callVV (b := 247) (As := [vI (D 11 6)]) (st := []) hA l_X9_299 kX0_goThroughAll (zX0_goThroughAll (n := (D 11 6).toNat) (by omega) o8b (by omega) hd94 (by rw [show (((D 11 6).toNat : Nat) : Int) = D 11 6 by omega]; exact hw94) (by omega)) dX9_foldings_140 rfl rfl sx_247 (by decide) rfl (Nat.le_of_ble_eq_true rfl) (by omega) (fun D140 q140 => ?_)
                  rw [show (((D 11 6).toNat : Nat) : Int) = D 11 6 by omega] at q140
                  obtain ⟨a1, a2, a3, a4, a5⟩ := q140
                  have htl := tri_le (n := (D 11 6).toNat) (by omega)
                  have fr140 : ∀ c, (c < 247 ∨ 261 ≤ c) → D140 c = D c := fun c hc => (a4 c (by omega) (by omega)).trans (fr94 c hc)
                  have hcn : ∀ p : LL → Bool, (triN (D 11 6).toNat).countP p ≤ 132 := fun p => Nat.le_trans List.countP_le_length htl
                  have h13r : 0 ≤ D140 247 13 ∧ D140 247 13 ≤ 1000 := by rw [a1]; have := hcn (fun L => decide (gsX (LI L) (D 11 6) (D (shAt s.toNat + 1)) i m ≠ -4)); omega
                  have hptr : ∀ s k : Int, 0 ≤ s → s ≤ 1 → 0 ≤ k → k ≤ 8 → 0 ≤ D140 260 (s * 9 + k) ∧ D140 260 (s * 9 + k) ≤ 1000 := fun s2 k s0 s1 k0 k1 => by rw [a2 s2 k s0 s1 k0 k1]; have := hcn (fun L => decide (ouX s2 (LI L) (D 11 6) (D (shAt s.toNat + 1)) i m = k)); omega
                  refine q_iload (j := 5) hA rfl dX9_foldings_143 ?_
                  refine q_if_ne (tgt := 158) hA (by omega) dX9_foldings_145 (by decide) (fun h145 => ?_) (fun h145 => ?_)
                  · refine q_aload_n (j := 0) hA rfl dX9_foldings_158 ?_
                    refine q_getR hA f_X9_64 dX9_foldings_159 sx_0 (by decide) fx_0_8 ?_
                    refine q_callVP (b := 247) (As := []) (st := []) hA l_X9_305 kX0_bestTry (zX0_bestTry hptr h13r) dX9_foldings_162 rfl rfl sx_247 (by decide) rfl (Nat.le_of_ble_eq_true rfl) (by omega) ?_
                    refine q_nmI (fun bt_ ebt_ => ?_)
                    exact hR 165 _ _ _ dX9_foldings_165 ⟨Or.inr (Or.inr (Or.inr (Or.inr ⟨hKX, hw94, by omega, by first | exact fd_0 (by omega) a1 | exact fd_2 (by omega) a1 a2 ebt_⟩))), fr140, a3⟩
                  · refine q_aload_n (j := 0) hA rfl dX9_foldings_148 ?_
                    refine q_getR hA f_X9_64 dX9_foldings_149 sx_0 (by decide) fx_0_8 ?_
                    refine q_getI (x := D140 247 13) hA f_X9_302 dX9_foldings_152 sx_247 (by decide) rfl ?_
                    refine q_goto (tgt := 165) hA dX9_foldings_155 (by decide) ?_
                    exact hR 165 _ _ _ dX9_foldings_165 ⟨Or.inr (Or.inr (Or.inr (Or.inr ⟨hKX, hw94, by omega, by first | exact fd_0 (by omega) a1 | exact fd_2 (by omega) a1 a2 ebt_⟩))), fr140, a3⟩
                · refine q_aload_n (j := 0) hA rfl dX9_foldings_109 ?_
                  refine q_getR hA f_X9_64 dX9_foldings_110 sx_0 (by decide) fx_0_8 ?_
                  refine q_aload_n (j := 0) hA rfl dX9_foldings_113 ?_
                  refine q_getR hA f_X9_26 dX9_foldings_114 sx_0 (by decide) fx_0_2 ?_
                  refine q_callVI (b := 247) (As := [vR 11]) (st := []) hA l_X9_296 kX0_wouldGo (zX0_wouldGo isS11 o94 (by omega) (by omega) hd94 (by rw [e6]; exact hw94)) dX9_foldings_117 rfl rfl sx_247 (by decide) rfl (Nat.le_of_ble_eq_true rfl) (by omega) (fun v117 D117 q117 => ?_)
                  rw [r94, xN] at q117
                  have fr117 : ∀ c, (c < 247 ∨ 261 ≤ c) → D117 c = D c := fun c hc => by rcases q117 with z | z; (rw [z.2.2]; exact fr94 c hc); (rw [z.2.2, upD_other (by omega), upD_other (by omega)]; exact fr94 c hc)
                  have o117 : sOk D117 248 := by unfold sOk; rw [show rowX D117 248 = rowX D94 248 from by (rcases q117 with z | z; (rw [z.2.2]); (rw [z.2.2]; unfold rowX; rw [upD_other (a := 247) (b := 248) (by omega), upD_other (a := 247) (b := 248) (by omega), upD_other (a := 247) (b := 248 + 1) (by omega), upD_other (a := 247) (b := 248 + 1) (by omega), upD_other (a := 247) (b := 248 + 2) (by omega), upD_other (a := 247) (b := 248 + 2) (by omega), upD_other (a := 247) (b := 248 + 3) (by omega), upD_other (a := 247) (b := 248 + 3) (by omega), upD_other (a := 247) (b := 248 + 4) (by omega), upD_other (a := 247) (b := 248 + 4) (by omega), upD_other (a := 247) (b := 248 + 5) (by omega), upD_other (a := 247) (b := 248 + 5) (by omega), upD_other (a := 247) (b := 248 + 6) (by omega), upD_other (a := 247) (b := 248 + 6) (by omega)]))]; exact o8b
                  rcases q117 with ⟨g117, rfl, x117⟩ | ⟨g117, rfl, x117⟩
                  · skip
                    refine q_if_eq (tgt := 127) hA (by decide) dX9_foldings_120 (by decide) (fun h120 => ?_) (fun h120 => absurd h120 (by decide))
                    refine q_iconst hA dX9_foldings_127 ?_
                    exact hR 128 _ _ _ dX9_foldings_128 ⟨Or.inr (Or.inr (Or.inr (Or.inl ⟨hKX, hw94, by omega, by first | rw [if_pos g117] | rw [if_neg g117]⟩))), fr117, o117⟩
                  · skip
                    refine q_if_eq (tgt := 127) hA (by decide) dX9_foldings_120 (by decide) (fun h120 => absurd h120 (by decide)) (fun h120 => ?_)
                    refine q_iconst hA dX9_foldings_123 ?_
                    refine q_goto (tgt := 128) hA dX9_foldings_124 (by decide) ?_
                    exact hR 128 _ _ _ dX9_foldings_128 ⟨Or.inr (Or.inr (Or.inr (Or.inl ⟨hKX, hw94, by omega, by first | rw [if_pos g117] | rw [if_neg g117]⟩))), fr117, o117⟩
              · skip
                refine q_if_ne (tgt := 103) hA (by decide) dX9_foldings_97 (by decide) (fun h97 => absurd h97 (by decide)) (fun h97 => ?_)
                refine q_bipush hA (by decide) dX9_foldings_100 ?_
                exact hR 102 _ _ _ dX9_foldings_102 ⟨Or.inr (Or.inr (Or.inl ⟨hKX, hw94, rfl⟩)), fr94, o8b⟩
            · refine q_iload (j := 6) hA rfl dX9_foldings_71 ?_
              exact hR 73 _ _ _ dX9_foldings_73 ⟨Or.inr (Or.inl ⟨by omega, by rw [← erf, ← ewy]; omega, by rw [ewy]; exact erf⟩), fun _ _ => rfl, ho8⟩
          · refine q_if_ne (tgt := 47) hA (by decide) dX9_foldings_42 (by decide) (fun h42 => absurd h42 (by decide)) (fun h42 => ?_)
            refine q_iconst hA dX9_foldings_45 ?_
            exact hR 46 _ _ _ dX9_foldings_46 ⟨Or.inl ⟨by omega, rfl⟩, fun _ _ => rfl, ho8⟩
        · refine q_if_eq (tgt := 45) hA (by decide) dX9_foldings_32 (by decide) (fun h32 => ?_) (fun h32 => absurd h32 (by decide))
          refine q_iconst hA dX9_foldings_45 ?_
          exact hR 46 _ _ _ dX9_foldings_46 ⟨Or.inl ⟨by omega, rfl⟩, fun _ _ => rfl, ho8⟩
      · refine q_if_eq (tgt := 45) hA (by decide) dX9_foldings_21 (by decide) (fun h21 => ?_) (fun h21 => absurd h21 (by decide))
        refine q_iconst hA dX9_foldings_45 ?_
        exact hR 46 _ _ _ dX9_foldings_46 ⟨Or.inl ⟨by omega, rfl⟩, fun _ _ => rfl, ho8⟩
    · refine q_if_eq (tgt := 45) hA (by decide) dX9_foldings_14 (by decide) (fun h14 => ?_) (fun h14 => absurd h14 (by decide))
      refine q_iconst hA dX9_foldings_45 ?_
      exact hR 46 _ _ _ dX9_foldings_46 ⟨Or.inl ⟨by omega, rfl⟩, fun _ _ => rfl, ho8⟩
set_option maxHeartbeats 4000000 in
set_option maxRecDepth 100000 in
theorem zX9_kinds {g : Gm} {l : Launch} {D : Dat} (hos : ∀ k : Int, 0 ≤ k ∧ k ≤ 3 → shOk D (shAt k.toNat)) {s : Int} {n : Int} {i : Int} {k : Int} {w : Int} (rs : -2147483648 ≤ s ∧ s ≤ 2147483647) (rn : -2147483648 ≤ n ∧ n ≤ 2147483647) (ri : -2147483648 ≤ i ∧ i ≤ 2147483647) (rk : -2147483648 ≤ k ∧ k ≤ 2147483647) (rw : -2147483648 ≤ w ∧ w ≤ 2147483647) : CrP g l 6 mX9_kinds [vR 0, vI s, vI n, vI i, vI k, vI w] D (if ((((0 ≤ s ∧ s ≤ 3) ∧ (0 ≤ n ∧ n ≤ 3)) ∧ (1 ≤ k ∧ k ≤ 10)) ∧ (0 ≤ w ∧ w ≤ 1)) then (if refS (D (shAt s.toNat) 1) (D (shAt s.toNat) 2) n i (2 * k) < 0 then refS (D (shAt s.toNat) 1) (D (shAt s.toNat) 2) n i (2 * k) else if w = 0 ∨ fitX (D (shAt s.toNat + 1)) k.toNat i 62 = -2 then fitX (D (shAt s.toNat + 1)) k.toNat i 62 else tryK (fitX (D (shAt s.toNat + 1)) k.toNat i 62)) else -1) := by
  unfold CrP
  refine Cr.ofI (lo0 := [vR 0, vI s, vI n, vI i, vI k, vI w, vN, vN]) (by decide) (Nat.le_of_ble_eq_true rfl) rfl (fun J hA hR => ?_)
  refine q_iload_n (j := 1) hA rfl dX9_kinds_0 ?_
  refine q_callSB (As := [vI s]) (st := []) hA l_X9_246 kX9_isSheet (zX9_isSheet (by first | assumption | omega | rfl)) dX9_kinds_1 rfl rfl (Nat.le_of_ble_eq_true rfl) (by omega) (fun h1 => ?_) (fun h1 => ?_)
  · refine q_if_eq (tgt := 35) hA (by decide) dX9_kinds_4 (by decide) (fun h4 => absurd h4 (by decide)) (fun h4 => ?_)
    refine q_iload_n (j := 2) hA rfl dX9_kinds_7 ?_
    refine q_callSB (As := [vI n]) (st := []) hA l_X9_249 kX9_isLane (zX9_isLane (by first | assumption | omega | rfl)) dX9_kinds_8 rfl rfl (Nat.le_of_ble_eq_true rfl) (by omega) (fun h8 => ?_) (fun h8 => ?_)
    · refine q_if_eq (tgt := 35) hA (by decide) dX9_kinds_11 (by decide) (fun h11 => absurd h11 (by decide)) (fun h11 => ?_)
      refine q_iload (j := 4) hA rfl dX9_kinds_14 ?_
      refine q_iconst hA dX9_kinds_16 ?_
      refine q_bipush hA (by decide) dX9_kinds_17 ?_
      refine q_callSB (As := [vI k, vI 1, vI 10]) (st := []) hA l_X9_69 kX9_isWithin (zX9_isWithin (by first | assumption | omega | rfl) (by first | assumption | omega | rfl) (by first | assumption | omega | rfl)) dX9_kinds_19 rfl rfl (Nat.le_of_ble_eq_true rfl) (by omega) (fun h19 => ?_) (fun h19 => ?_)
      · refine q_if_eq (tgt := 35) hA (by decide) dX9_kinds_22 (by decide) (fun h22 => absurd h22 (by decide)) (fun h22 => ?_)
        refine q_iload (j := 5) hA rfl dX9_kinds_25 ?_
        refine q_iconst hA dX9_kinds_27 ?_
        refine q_iconst hA dX9_kinds_28 ?_
        refine q_callSB (As := [vI w, vI 0, vI 1]) (st := []) hA l_X9_69 kX9_isWithin (zX9_isWithin (by first | assumption | omega | rfl) (by first | assumption | omega | rfl) (by first | assumption | omega | rfl)) dX9_kinds_29 rfl rfl (Nat.le_of_ble_eq_true rfl) (by omega) (fun h29 => ?_) (fun h29 => ?_)
        · refine q_if_ne (tgt := 37) hA (by decide) dX9_kinds_32 (by decide) (fun h32 => ?_) (fun h32 => absurd h32 (by decide))
          have hz := hSh h1
          have hso := shOut hz.2
          have hok := hos s h1
          have hsz := hok.2.1
          have hln := hok.1
          refine q_aload_n (j := 0) hA rfl dX9_kinds_37 ?_
          refine q_getR hA f_X9_43 dX9_kinds_38 sx_0 (by decide) fx_0_5 ?_
          refine q_iload_n (j := 1) hA rfl dX9_kinds_41 ?_
          refine q_aald (b := shAt s.toNat) hA (Or.inr rfl) dX9_kinds_42 sx_189 (by omega) (by decide) hz.1 ?_
          refine q_iload_n (j := 2) hA rfl dX9_kinds_43 ?_
          refine q_iload_n (j := 3) hA rfl dX9_kinds_44 ?_
          refine q_iconst hA dX9_kinds_45 ?_
          refine q_iload (j := 4) hA rfl dX9_kinds_46 ?_
          refine q_imul hA dX9_kinds_48 ?_
          refine q_callVP (b := shAt s.toNat) (As := [vI n, vI i, vI (2 * k)]) (st := []) hA l_X9_265 kX6_refusal (zX6_refusal hz.2 hok (by omega) (by omega) (by omega)) dX9_kinds_49 rfl rfl (shS hz.2) (by decide) rfl (Nat.le_of_ble_eq_true rfl) (by omega) ?_
          refine q_nmI (fun rf erf => ?_)
          have hw := refS_in (D (shAt s.toNat) 1) (D (shAt s.toNat) 2) n i (2 * k)
          rw [← erf] at hw
          refine q_istore (j := 6) (lo2 := [vR 0, vI s, vI n, vI i, vI k, vI w, vI rf, vN]) hA dX9_kinds_52 (by decide) rfl rfl ?_
          refine q_iload (j := 6) hA rfl dX9_kinds_54 ?_
          refine q_if_eq (tgt := 62) hA (by omega) dX9_kinds_56 (by decide) (fun h56 => ?_) (fun h56 => ?_)
          · have hr0 := refS_0 (lane := D (shAt s.toNat) 1) (size := D (shAt s.toNat) 2) (want := n) (i := i) (n := 2 * k) (by rw [← erf]; omega)
            refine q_aload_n (j := 0) hA rfl dX9_kinds_62 ?_
            refine q_getR hA f_X9_43 dX9_kinds_63 sx_0 (by decide) fx_0_5 ?_
            refine q_iload_n (j := 1) hA rfl dX9_kinds_66 ?_
            refine q_aald (b := shAt s.toNat) hA (Or.inr rfl) dX9_kinds_67 sx_189 (by omega) (by decide) hz.1 ?_
            refine q_iload_n (j := 3) hA rfl dX9_kinds_68 ?_
            refine q_iload (j := 4) hA rfl dX9_kinds_69 ?_
            refine q_callSP (As := [vR (shAt s.toNat), vI i, vI k]) (st := []) hA l_X9_308 kX3_fitting (zX3_fitting hz.2 hok (by omega)) dX9_kinds_71 rfl rfl (Nat.le_of_ble_eq_true rfl) (by omega) ?_
            refine q_nmI (fun ft eft => ?_)
            have hfi := fit_in (f := D (shAt s.toNat + 1)) k.toNat i 62 (by omega)
            rw [← eft] at hfi
            refine q_istore (j := 7) (lo2 := [vR 0, vI s, vI n, vI i, vI k, vI w, vI rf, vI ft]) hA dX9_kinds_74 (by decide) rfl rfl ?_
            refine q_iload (j := 5) hA rfl dX9_kinds_76 ?_
            refine q_if_eq (tgt := 88) hA (by omega) dX9_kinds_78 (by decide) (fun h78 => ?_) (fun h78 => ?_)
            · refine q_iload (j := 7) hA rfl dX9_kinds_88 ?_
              refine q_goto (tgt := 98) hA dX9_kinds_90 (by decide) ?_
              exact hR 98 _ _ _ dX9_kinds_98 ⟨(by rw [if_pos (by omega), if_neg (by omega), ← eft]; first | rw [if_pos (by omega)] | (rw [if_neg (by omega)]; exact ebt_)), rfl⟩
            · refine q_iload (j := 7) hA rfl dX9_kinds_81 ?_
              refine q_bipush hA (by decide) dX9_kinds_83 ?_
              refine q_icmp_ne (tgt := 93) hA (by omega) (by omega) dX9_kinds_85 (by decide) (fun h85 => ?_) (fun h85 => ?_)
              · refine q_iload (j := 7) hA rfl dX9_kinds_93 ?_
                refine q_callSP (As := [vI ft]) (st := []) hA l_X9_312 kX3_bestTry (zX3_bestTry (by omega)) dX9_kinds_95 rfl rfl (Nat.le_of_ble_eq_true rfl) (by omega) ?_
                refine q_nmI (fun bt_ ebt_ => ?_)
                exact hR 98 _ _ _ dX9_kinds_98 ⟨(by rw [if_pos (by omega), if_neg (by omega), ← eft]; first | rw [if_pos (by omega)] | (rw [if_neg (by omega)]; exact ebt_)), rfl⟩
              · refine q_iload (j := 7) hA rfl dX9_kinds_88 ?_
                refine q_goto (tgt := 98) hA dX9_kinds_90 (by decide) ?_
                exact hR 98 _ _ _ dX9_kinds_98 ⟨(by rw [if_pos (by omega), if_neg (by omega), ← eft]; first | rw [if_pos (by omega)] | (rw [if_neg (by omega)]; exact ebt_)), rfl⟩
          · refine q_iload (j := 6) hA rfl dX9_kinds_59 ?_
            exact hR 61 _ _ _ dX9_kinds_61 ⟨(by rw [if_pos (by omega), if_pos (by omega)]; exact erf), rfl⟩
        · refine q_if_ne (tgt := 37) hA (by decide) dX9_kinds_32 (by decide) (fun h32 => absurd h32 (by decide)) (fun h32 => ?_)
          refine q_iconst hA dX9_kinds_35 ?_
          exact hR 36 _ _ _ dX9_kinds_36 ⟨(by rw [if_neg (by omega)]), rfl⟩
      · refine q_if_eq (tgt := 35) hA (by decide) dX9_kinds_22 (by decide) (fun h22 => ?_) (fun h22 => absurd h22 (by decide))
        refine q_iconst hA dX9_kinds_35 ?_
        exact hR 36 _ _ _ dX9_kinds_36 ⟨(by rw [if_neg (by omega)]), rfl⟩
    · refine q_if_eq (tgt := 35) hA (by decide) dX9_kinds_11 (by decide) (fun h11 => ?_) (fun h11 => absurd h11 (by decide))
      refine q_iconst hA dX9_kinds_35 ?_
      exact hR 36 _ _ _ dX9_kinds_36 ⟨(by rw [if_neg (by omega)]), rfl⟩
  · refine q_if_eq (tgt := 35) hA (by decide) dX9_kinds_4 (by decide) (fun h4 => ?_) (fun h4 => absurd h4 (by decide))
    refine q_iconst hA dX9_kinds_35 ?_
    exact hR 36 _ _ _ dX9_kinds_36 ⟨(by rw [if_neg (by omega)]), rfl⟩
set_option maxHeartbeats 4000000 in
set_option maxRecDepth 100000 in
theorem zX9_count {g : Gm} {l : Launch} {D : Dat} (ho : sOk D 11) (hh : hOk D) (ht : tOk D) {w : Int} (rw : -2147483648 ≤ w ∧ w ≤ 2147483647) : CrP g l 4 mX9_count [vR 0, vI w] D (cntR (rowX D 11) (D 18 2) (D 1 1) w) := by
  unfold CrP
  refine Cr.ofI (lo0 := [vR 0, vI w]) (by decide) (Nat.le_of_ble_eq_true rfl) rfl (fun J hA hR => ?_)
  have hn := ho.n
  have hf := ho.f
  have hb := ho.b
  refine q_iload_n (j := 1) hA rfl dX9_count_0 ?_
  by_cases hsw : w < 0 ∨ 8 < w
  · refine q_tblOut (tgt := 154) hA (by omega) dX9_count_1 hsw (by decide) ?_
    refine q_iconst hA dX9_count_154 ?_
    exact hR 155 _ _ _ dX9_count_155 ⟨(by unfold cntR; rw [if_neg (by omega), if_neg (by omega), if_neg (by omega), if_neg (by omega), if_neg (by omega), if_neg (by omega), if_neg (by omega), if_neg (by omega), if_neg (by omega)]), rfl⟩
  · have hsw2 : w = 0 ∨ w = 1 ∨ w = 2 ∨ w = 3 ∨ w = 4 ∨ w = 5 ∨ w = 6 ∨ w = 7 ∨ w = 8 := by omega
    rcases hsw2 with hsw3 | hsw3 | hsw3 | hsw3 | hsw3 | hsw3 | hsw3 | hsw3 | hsw3
    · refine q_tblIn (tgt := 52) (off := 51) hA (by omega) dX9_count_1 (by omega) (by rw [hsw3]; rfl) (by decide) ?_
      refine q_aload_n (j := 0) hA rfl dX9_count_52 ?_
      refine q_getR hA f_X9_26 dX9_count_53 sx_0 (by decide) fx_0_2 ?_
      refine q_getI (x := D 11 6) hA f_X9_98 dX9_count_56 (strS isS11) (by decide) rfl ?_
      exact hR 59 _ _ _ dX9_count_59 ⟨(by unfold cntR; rw [xN, xF, xB, xE, hsw3]; rfl), rfl⟩
    · refine q_tblIn (tgt := 60) (off := 59) hA (by omega) dX9_count_1 (by omega) (by rw [hsw3]; rfl) (by decide) ?_
      refine q_aload_n (j := 0) hA rfl dX9_count_60 ?_
      refine q_getR hA f_X9_26 dX9_count_61 sx_0 (by decide) fx_0_2 ?_
      refine q_callVB (b := 11) (As := []) (st := []) hA l_X9_139 kX7_isMissing (zX7_isMissing isS11 ho) dX9_count_64 rfl rfl (strS isS11) (by decide) rfl (Nat.le_of_ble_eq_true rfl) (by omega) (fun h64 => ?_) (fun h64 => ?_)
      · refine q_if_eq (tgt := 75) hA (by decide) dX9_count_67 (by decide) (fun h67 => absurd h67 (by decide)) (fun h67 => ?_)
        refine q_bipush hA (by decide) dX9_count_70 ?_
        refine q_goto (tgt := 82) hA dX9_count_72 (by decide) ?_
        exact hR 82 _ _ _ dX9_count_82 ⟨(by unfold cntR; rw [xN, xF, xB, xE, hsw3]; first | exact (if_pos (show 0 < D 11 6 by omega)).symm | exact (if_neg (show ¬ 0 < D 11 6 by omega)).symm), rfl⟩
      · refine q_if_eq (tgt := 75) hA (by decide) dX9_count_67 (by decide) (fun h67 => ?_) (fun h67 => absurd h67 (by decide))
        refine q_aload_n (j := 0) hA rfl dX9_count_75 ?_
        refine q_getR hA f_X9_26 dX9_count_76 sx_0 (by decide) fx_0_2 ?_
        refine q_getI (x := D 11 7) hA f_X9_143 dX9_count_79 (strS isS11) (by decide) rfl ?_
        exact hR 82 _ _ _ dX9_count_82 ⟨(by unfold cntR; rw [xN, xF, xB, xE, hsw3]; first | exact (if_pos (show 0 < D 11 6 by omega)).symm | exact (if_neg (show ¬ 0 < D 11 6 by omega)).symm), rfl⟩
    · refine q_tblIn (tgt := 83) (off := 82) hA (by omega) dX9_count_1 (by omega) (by rw [hsw3]; rfl) (by decide) ?_
      refine q_aload_n (j := 0) hA rfl dX9_count_83 ?_
      refine q_getR hA f_X9_26 dX9_count_84 sx_0 (by decide) fx_0_2 ?_
      refine q_callVB (b := 11) (As := []) (st := []) hA l_X9_139 kX7_isMissing (zX7_isMissing isS11 ho) dX9_count_87 rfl rfl (strS isS11) (by decide) rfl (Nat.le_of_ble_eq_true rfl) (by omega) (fun h87 => ?_) (fun h87 => ?_)
      · refine q_if_eq (tgt := 98) hA (by decide) dX9_count_90 (by decide) (fun h90 => absurd h90 (by decide)) (fun h90 => ?_)
        refine q_bipush hA (by decide) dX9_count_93 ?_
        refine q_goto (tgt := 105) hA dX9_count_95 (by decide) ?_
        exact hR 105 _ _ _ dX9_count_105 ⟨(by unfold cntR; rw [xN, xF, xB, xE, hsw3]; first | exact (if_pos (show 0 < D 11 6 by omega)).symm | exact (if_neg (show ¬ 0 < D 11 6 by omega)).symm), rfl⟩
      · refine q_if_eq (tgt := 98) hA (by decide) dX9_count_90 (by decide) (fun h90 => ?_) (fun h90 => absurd h90 (by decide))
        refine q_aload_n (j := 0) hA rfl dX9_count_98 ?_
        refine q_getR hA f_X9_26 dX9_count_99 sx_0 (by decide) fx_0_2 ?_
        refine q_getI (x := D 11 8) hA f_X9_146 dX9_count_102 (strS isS11) (by decide) rfl ?_
        exact hR 105 _ _ _ dX9_count_105 ⟨(by unfold cntR; rw [xN, xF, xB, xE, hsw3]; first | exact (if_pos (show 0 < D 11 6 by omega)).symm | exact (if_neg (show ¬ 0 < D 11 6 by omega)).symm), rfl⟩
    · refine q_tblIn (tgt := 106) (off := 105) hA (by omega) dX9_count_1 (by omega) (by rw [hsw3]; rfl) (by decide) ?_
      refine q_aload_n (j := 0) hA rfl dX9_count_106 ?_
      refine q_getR hA f_X9_26 dX9_count_107 sx_0 (by decide) fx_0_2 ?_
      refine q_getI (x := D 11 9) hA f_X9_243 dX9_count_110 (strS isS11) (by decide) rfl ?_
      exact hR 113 _ _ _ dX9_count_113 ⟨(by unfold cntR; rw [xN, xF, xB, xE, hsw3]; rfl), rfl⟩
    · refine q_tblIn (tgt := 114) (off := 113) hA (by omega) dX9_count_1 (by omega) (by rw [hsw3]; rfl) (by decide) ?_
      refine q_aload_n (j := 0) hA rfl dX9_count_114 ?_
      refine q_getR hA f_X9_26 dX9_count_115 sx_0 (by decide) fx_0_2 ?_
      refine q_callVP (b := 11) (As := []) (st := []) hA l_X9_314 kX7_shownSet (zX7_shownSet isS11 ho) dX9_count_118 rfl rfl (strS isS11) (by decide) rfl (Nat.le_of_ble_eq_true rfl) (by omega) ?_
      refine q_nmI (fun v118 ev118 => ?_)
      exact hR 121 _ _ _ dX9_count_121 ⟨(by unfold cntR; rw [xN, xF, xB, xE, hsw3]; exact ev118), rfl⟩
    · refine q_tblIn (tgt := 122) (off := 121) hA (by omega) dX9_count_1 (by omega) (by rw [hsw3]; rfl) (by decide) ?_
      refine q_aload_n (j := 0) hA rfl dX9_count_122 ?_
      refine q_getR hA f_X9_26 dX9_count_123 sx_0 (by decide) fx_0_2 ?_
      refine q_callVP (b := 11) (As := []) (st := []) hA l_X9_317 kX7_tornSet (zX7_tornSet isS11 ho) dX9_count_126 rfl rfl (strS isS11) (by decide) rfl (Nat.le_of_ble_eq_true rfl) (by omega) ?_
      refine q_nmI (fun v126 ev126 => ?_)
      exact hR 129 _ _ _ dX9_count_129 ⟨(by unfold cntR; rw [xN, xF, xB, xE, hsw3]; exact ev126), rfl⟩
    · refine q_tblIn (tgt := 130) (off := 129) hA (by omega) dX9_count_1 (by omega) (by rw [hsw3]; rfl) (by decide) ?_
      refine q_aload_n (j := 0) hA rfl dX9_count_130 ?_
      refine q_getR hA f_X9_26 dX9_count_131 sx_0 (by decide) fx_0_2 ?_
      refine q_callVP (b := 11) (As := []) (st := []) hA l_X9_320 kX7_wearOfAll (zX7_wearOfAll isS11 ho) dX9_count_134 rfl rfl (strS isS11) (by decide) rfl (Nat.le_of_ble_eq_true rfl) (by omega) ?_
      refine q_nmI (fun v134 ev134 => ?_)
      exact hR 137 _ _ _ dX9_count_137 ⟨(by unfold cntR; rw [xN, xF, xB, xE, hsw3]; exact ev134), rfl⟩
    · refine q_tblIn (tgt := 138) (off := 137) hA (by omega) dX9_count_1 (by omega) (by rw [hsw3]; rfl) (by decide) ?_
      refine q_aload_n (j := 0) hA rfl dX9_count_138 ?_
      refine q_getR hA f_X9_33 dX9_count_139 sx_0 (by decide) fx_0_3 ?_
      refine q_getI (x := D 18 2) hA f_X9_192 dX9_count_142 sx_18 (by decide) rfl ?_
      exact hR 145 _ _ _ dX9_count_145 ⟨(by unfold cntR; rw [xN, xF, xB, xE, hsw3]; rfl), rfl⟩
    · refine q_tblIn (tgt := 146) (off := 145) hA (by omega) dX9_count_1 (by omega) (by rw [hsw3]; rfl) (by decide) ?_
      refine q_aload_n (j := 0) hA rfl dX9_count_146 ?_
      refine q_getR hA f_X9_10 dX9_count_147 sx_0 (by decide) fx_0_0 ?_
      refine q_getI (x := D 1 1) hA f_X9_323 dX9_count_150 sx_1 (by decide) rfl ?_
      exact hR 153 _ _ _ dX9_count_153 ⟨(by unfold cntR; rw [xN, xF, xB, xE, hsw3]; rfl), rfl⟩
