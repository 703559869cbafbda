set_option maxHeartbeats 4000000 in
set_option maxRecDepth 100000 in
theorem zX10_flex {g : Gm} {l : Launch} {D : Dat} (ho : mOk D 284) (hg : 0 < D 284 0 → D 284 1 < D 284 0 ∧ D 284 2 < D 284 0) (ha : 0 ≤ D 283 6 ∧ D 283 6 ≤ 24) {s : Int} (rs : -2147483648 ≤ s ∧ s ≤ 2147483647) : CrI g l 6 mX10_flex [vR 283, vI s] D (fun v D1 => (¬ (0 ≤ s ∧ s ≤ 1) ∧ v = -1 ∧ D1 = D) ∨ ((0 ≤ s ∧ s ≤ 1) ∧ ¬ (0 < D 284 0 ∧ (s = 2 ∨ (bnM D s ≠ -4 ∧ ¬ D 284 (20 + bnM D s) ≤ D 284 (28 + bnM D s)))) ∧ v = -2 ∧ D1 = D) ∨ ((0 ≤ s ∧ s ≤ 1) ∧ (0 < D 284 0 ∧ (s = 2 ∨ (bnM D s ≠ -4 ∧ ¬ D 284 (20 + bnM D s) ≤ D 284 (28 + bnM D s)))) ∧ ∃ N, notQ D N ∧ movQ N D1 v s)) := by
  refine Cr.ofI (lo0 := [vR 283, vI s]) (by decide) (Nat.le_of_ble_eq_true rfl) rfl (fun J hA hR => ?_)
  have hn := ho.n
  have hf := ho.f
  have hb := ho.b
  refine q_iload_n (j := 1) hA rfl dX10_flex_0 ?_
  refine q_i2l hA (by omega) dX10_flex_1 ?_
  refine q_lconst hA dX10_flex_2 ?_
  show J _ _ (vL 0 :: _) _
  refine q_lconst hA dX10_flex_3 ?_
  show J _ _ (vL 1 :: _) _
  refine q_callSB (As := [vL s, vL 0, vL 1]) (st := []) hA l_X10_77 kX10_in (zX10_in (by first | assumption | omega | rfl) (by first | assumption | omega | rfl) (by first | assumption | omega | rfl)) dX10_flex_4 rfl rfl (Nat.le_of_ble_eq_true rfl) (by omega) (fun h4 => ?_) (fun h4 => ?_)
  · refine q_if_ne (tgt := 12) hA (by decide) dX10_flex_7 (by decide) (fun h7 => ?_) (fun h7 => absurd h7 (by decide))
    refine q_aload_n (j := 0) hA rfl dX10_flex_12 ?_
    refine q_callVB (b := 283) (As := []) (st := []) hA l_X10_159 kX10_isThere (zX10_isThere (by first | assumption | omega | rfl)) dX10_flex_13 rfl rfl sx_283 (by decide) rfl (Nat.le_of_ble_eq_true rfl) (by omega) (fun h13 => ?_) (fun h13 => ?_)
    · refine q_if_eq (tgt := 27) hA (by decide) dX10_flex_16 (by decide) (fun h16 => absurd h16 (by decide)) (fun h16 => ?_)
      refine q_aload_n (j := 0) hA rfl dX10_flex_19 ?_
      refine q_iload_n (j := 1) hA rfl dX10_flex_20 ?_
      refine q_callVB (b := 283) (As := [vI s]) (st := []) hA l_X10_168 kX10_may (zX10_may ho (by omega) (by omega)) dX10_flex_21 rfl rfl sx_283 (by decide) rfl (Nat.le_of_ble_eq_true rfl) (by omega) (fun h21 => ?_) (fun h21 => ?_)
      · refine q_if_ne (tgt := 30) hA (by decide) dX10_flex_24 (by decide) (fun h24 => ?_) (fun h24 => absurd h24 (by decide))
        refine q_aload_n (j := 0) hA rfl dX10_flex_30 ?_
        refine q_callVV (b := 283) (As := []) (st := []) hA l_X10_171 kX10_notes (zX10_notes (by first | assumption | omega | rfl)) dX10_flex_31 rfl rfl sx_283 (by decide) rfl (Nat.le_of_ble_eq_true rfl) (by omega) (fun D31 q31 => ?_)
        have e31 : D31 284 = D 284 := q31.1 284 (by omega) (by omega)
        have o31 : mOk D31 284 := by unfold mOk; rw [rowM_c e31]; exact ho
        have b31 : ∀ s, bnM D31 s = bnM D s := fun s => by unfold bnM; rw [e31]
        have g31 : 0 < D31 284 0 ∧ D31 284 1 < D31 284 0 ∧ D31 284 2 < D31 284 0 := by rw [e31]; omega
        refine q_aload_n (j := 0) hA rfl dX10_flex_34 ?_
        refine q_iload_n (j := 1) hA rfl dX10_flex_35 ?_
        refine q_callVI (b := 283) (As := [vI s]) (st := []) hA l_X10_174 kX10_moves (zX10_moves o31 g31 (by omega) (by rw [b31]; omega)) dX10_flex_36 rfl rfl sx_283 (by decide) rfl (Nat.le_of_ble_eq_true rfl) (by omega) (fun v36 D36 q36 => ?_)
        exact hR 39 _ _ _ dX10_flex_39 (by exact Or.inr (Or.inr ⟨h4, ⟨h13, h21⟩, D31, q31, q36⟩))
      · refine q_if_ne (tgt := 30) hA (by decide) dX10_flex_24 (by decide) (fun h24 => absurd h24 (by decide)) (fun h24 => ?_)
        refine q_bipush hA (by decide) dX10_flex_27 ?_
        exact hR 29 _ _ _ dX10_flex_29 (by first | exact Or.inr (Or.inl ⟨h4, fun z => h13 z.1, rfl, rfl⟩) | exact Or.inr (Or.inl ⟨h4, fun z => h21 z.2, rfl, rfl⟩))
    · refine q_if_eq (tgt := 27) hA (by decide) dX10_flex_16 (by decide) (fun h16 => ?_) (fun h16 => absurd h16 (by decide))
      refine q_bipush hA (by decide) dX10_flex_27 ?_
      exact hR 29 _ _ _ dX10_flex_29 (by first | exact Or.inr (Or.inl ⟨h4, fun z => h13 z.1, rfl, rfl⟩) | exact Or.inr (Or.inl ⟨h4, fun z => h21 z.2, rfl, rfl⟩))
  · refine q_if_ne (tgt := 12) hA (by decide) dX10_flex_7 (by decide) (fun h7 => absurd h7 (by decide)) (fun h7 => ?_)
    refine q_iconst hA dX10_flex_10 ?_
    exact hR 11 _ _ _ dX10_flex_11 (by exact Or.inl ⟨h4, rfl, rfl⟩)
set_option maxHeartbeats 4000000 in
set_option maxRecDepth 100000 in
theorem zX10_turn {g : Gm} {l : Launch} {D : Dat} (ho : mOk D 284) (hg : 0 < D 284 0 → D 284 1 < D 284 0 ∧ D 284 2 < D 284 0) (ha : 0 ≤ D 283 6 ∧ D 283 6 ≤ 24) : CrI g l 6 mX10_turn [vR 283] D (fun v D1 => (¬ 0 < D 284 0 ∧ v = -2 ∧ D1 = D) ∨ (0 < D 284 0 ∧ v = D1 284 1 ∧ ∃ N w, notQ D N ∧ movQ N D1 w 2)) := by
  refine Cr.ofI (lo0 := [vR 283, vN]) (by decide) (Nat.le_of_ble_eq_true rfl) rfl (fun J hA hR => ?_)
  have hn := ho.n
  have hf := ho.f
  have hb := ho.b
  refine q_aload_n (j := 0) hA rfl dX10_turn_0 ?_
  refine q_callVB (b := 283) (As := []) (st := []) hA l_X10_159 kX10_isThere (zX10_isThere (by first | assumption | omega | rfl)) dX10_turn_1 rfl rfl sx_283 (by decide) rfl (Nat.le_of_ble_eq_true rfl) (by omega) (fun h1 => ?_) (fun h1 => ?_)
  · refine q_if_ne (tgt := 10) hA (by decide) dX10_turn_4 (by decide) (fun h4 => ?_) (fun h4 => absurd h4 (by decide))
    refine q_aload_n (j := 0) hA rfl dX10_turn_10 ?_
    refine q_callVV (b := 283) (As := []) (st := []) hA l_X10_171 kX10_notes (zX10_notes (by first | assumption | omega | rfl)) dX10_turn_11 rfl rfl sx_283 (by decide) rfl (Nat.le_of_ble_eq_true rfl) (by omega) (fun D11 q11 => ?_)
    have e11 : D11 284 = D 284 := q11.1 284 (by omega) (by omega)
    have o11 : mOk D11 284 := by unfold mOk; rw [rowM_c e11]; exact ho
    have b11 : ∀ s, bnM D11 s = bnM D s := fun s => by unfold bnM; rw [e11]
    have g11 : 0 < D11 284 0 ∧ D11 284 1 < D11 284 0 ∧ D11 284 2 < D11 284 0 := by rw [e11]; omega
    refine q_aload_n (j := 0) hA rfl dX10_turn_14 ?_
    refine q_iconst hA dX10_turn_15 ?_
    refine q_callVI (b := 283) (As := [vI 2]) (st := []) hA l_X10_174 kX10_moves (zX10_moves o11 g11 (by omega) (Or.inl rfl)) dX10_turn_16 rfl rfl sx_283 (by decide) rfl (Nat.le_of_ble_eq_true rfl) (by omega) (fun v16 D16 q16 => ?_)
    have w16 : v16 = -4 := q16.2.1
    refine q_istore_n (j := 1) (lo2 := [vR 283, vI v16]) hA dX10_turn_19 (by decide) rfl rfl ?_
    refine q_iload_n (j := 1) hA rfl dX10_turn_20 ?_
    refine q_bipush hA (by decide) dX10_turn_21 ?_
    refine q_icmp_ne (tgt := 35) hA (by omega) (by omega) dX10_turn_23 (by decide) (fun h23 => absurd h23 (by omega)) (fun h23 => ?_)
    refine q_aload_n (j := 0) hA rfl dX10_turn_26 ?_
    refine q_getR hA f_X10_7 dX10_turn_27 sx_283 (by decide) fx_283_0 ?_
    refine q_iconst hA dX10_turn_30 ?_
    refine q_iald (x := D16 284 1) hA dX10_turn_31 sx_284 (by omega) (by decide) rfl ?_
    refine q_goto (tgt := 36) hA dX10_turn_32 (by decide) ?_
    exact hR 36 _ _ _ dX10_turn_36 (by exact Or.inr ⟨h1, rfl, D11, v16, q11, q16⟩)
  · refine q_if_ne (tgt := 10) hA (by decide) dX10_turn_4 (by decide) (fun h4 => absurd h4 (by decide)) (fun h4 => ?_)
    refine q_bipush hA (by decide) dX10_turn_7 ?_
    exact hR 9 _ _ _ dX10_turn_9 (by exact Or.inl ⟨h1, rfl, rfl⟩)
set_option maxHeartbeats 4000000 in
set_option maxRecDepth 100000 in
theorem zX10_mend {g : Gm} {l : Launch} {D : Dat} (ho : mOk D 284) (hg : 0 < D 284 0 → D 284 1 < D 284 0 ∧ D 284 2 < D 284 0) (ha : 0 ≤ D 283 6 ∧ D 283 6 ≤ 24) {p : Int} (rp : -2147483648 ≤ p ∧ p ≤ 2147483647) : CrI g l 3 mX10_mend [vR 283, vI p] D (fun v D1 => (¬ (0 ≤ p ∧ p < D 284 0) ∧ v = -1 ∧ D1 = D) ∨ ((0 ≤ p ∧ p < D 284 0) ∧ D 284 (28 + p) = 0 ∧ v = -2 ∧ D1 = D) ∨ ((0 ≤ p ∧ p < D 284 0) ∧ ¬ D 284 (28 + p) = 0 ∧ v = D 284 (28 + p) - (if 1 < D 284 (28 + p) then 2 else 1) ∧ ∃ N, notQ D N ∧ D1 = upD N 284 (28 + p) v)) := by
  refine Cr.ofI (lo0 := [vR 283, vI p]) (by decide) (Nat.le_of_ble_eq_true rfl) rfl (fun J hA hR => ?_)
  have hn := ho.n
  have hf := ho.f
  have hb := ho.b
  refine q_aload_n (j := 0) hA rfl dX10_mend_0 ?_
  refine q_iload_n (j := 1) hA rfl dX10_mend_1 ?_
  refine q_callVB (b := 283) (As := [vI p]) (st := []) hA l_X10_136 kX10_isPicture (zX10_isPicture (by first | assumption | omega | rfl) (by first | assumption | omega | rfl)) dX10_mend_2 rfl rfl sx_283 (by decide) rfl (Nat.le_of_ble_eq_true rfl) (by omega) (fun h2 => ?_) (fun h2 => ?_)
  · refine q_if_ne (tgt := 10) hA (by decide) dX10_mend_5 (by decide) (fun h5 => ?_) (fun h5 => absurd h5 (by decide))
    have hat := ho.at (p := p) (by omega)
    refine q_aload_n (j := 0) hA rfl dX10_mend_10 ?_
    refine q_getR hA f_X10_7 dX10_mend_11 sx_283 (by decide) fx_283_0 ?_
    refine q_bipush hA (by decide) dX10_mend_14 ?_
    refine q_iload_n (j := 1) hA rfl dX10_mend_16 ?_
    refine q_iadd hA dX10_mend_17 ?_
    refine q_iald (x := D 284 (28 + p)) hA dX10_mend_18 sx_284 (by omega) (by decide) rfl ?_
    refine q_if_ne (tgt := 25) hA (by omega) dX10_mend_19 (by decide) (fun h19 => ?_) (fun h19 => ?_)
    · refine q_aload_n (j := 0) hA rfl dX10_mend_25 ?_
      refine q_callVV (b := 283) (As := []) (st := []) hA l_X10_171 kX10_notes (zX10_notes (by first | assumption | omega | rfl)) dX10_mend_26 rfl rfl sx_283 (by decide) rfl (Nat.le_of_ble_eq_true rfl) (by omega) (fun D26 q26 => ?_)
      have e26 : D26 284 = D 284 := q26.1 284 (by omega) (by omega)
      refine q_aload_n (j := 0) hA rfl dX10_mend_29 ?_
      refine q_getR hA f_X10_7 dX10_mend_30 sx_283 (by decide) fx_283_0 ?_
      refine q_bipush hA (by decide) dX10_mend_33 ?_
      refine q_iload_n (j := 1) hA rfl dX10_mend_35 ?_
      refine q_iadd hA dX10_mend_36 ?_
      refine q_dup2IR hA dX10_mend_37 ?_
      refine q_iald (x := D 284 (28 + p)) hA dX10_mend_38 sx_284 (by omega) (by decide) (by rw [e26]) ?_
      refine q_aload_n (j := 0) hA rfl dX10_mend_39 ?_
      refine q_getR hA f_X10_7 dX10_mend_40 sx_283 (by decide) fx_283_0 ?_
      refine q_bipush hA (by decide) dX10_mend_43 ?_
      refine q_iload_n (j := 1) hA rfl dX10_mend_45 ?_
      refine q_iadd hA dX10_mend_46 ?_
      refine q_iald (x := D 284 (28 + p)) hA dX10_mend_47 sx_284 (by omega) (by decide) (by rw [e26]) ?_
      refine q_iconst hA dX10_mend_48 ?_
      refine q_icmp_le (tgt := 56) hA (by omega) (by omega) dX10_mend_49 (by decide) (fun h49 => ?_) (fun h49 => ?_)
      · refine q_iconst hA dX10_mend_56 ?_
        refine q_isub hA dX10_mend_57 ?_
        refine q_iast hA dX10_mend_58 sx_284 (by omega) (by decide) ?_
        refine q_aload_n (j := 0) hA rfl dX10_mend_59 ?_
        refine q_getR hA f_X10_7 dX10_mend_60 sx_283 (by decide) fx_283_0 ?_
        refine q_bipush hA (by decide) dX10_mend_63 ?_
        refine q_iload_n (j := 1) hA rfl dX10_mend_65 ?_
        refine q_iadd hA dX10_mend_66 ?_
        refine q_iald (x := (D 284 (28 + p)) - 1) hA dX10_mend_67 sx_284 (by omega) (by decide) ((upD_s).trans (rfl)) ?_
        exact hR 68 _ _ _ dX10_mend_68 (by exact Or.inr (Or.inr ⟨h2, h19, by first | rw [if_pos (by omega)] | rw [if_neg (by omega)], D26, q26, rfl⟩))
      · refine q_iconst hA dX10_mend_52 ?_
        refine q_goto (tgt := 57) hA dX10_mend_53 (by decide) ?_
        refine q_isub hA dX10_mend_57 ?_
        refine q_iast hA dX10_mend_58 sx_284 (by omega) (by decide) ?_
        refine q_aload_n (j := 0) hA rfl dX10_mend_59 ?_
        refine q_getR hA f_X10_7 dX10_mend_60 sx_283 (by decide) fx_283_0 ?_
        refine q_bipush hA (by decide) dX10_mend_63 ?_
        refine q_iload_n (j := 1) hA rfl dX10_mend_65 ?_
        refine q_iadd hA dX10_mend_66 ?_
        refine q_iald (x := (D 284 (28 + p)) - 2) hA dX10_mend_67 sx_284 (by omega) (by decide) ((upD_s).trans (rfl)) ?_
        exact hR 68 _ _ _ dX10_mend_68 (by exact Or.inr (Or.inr ⟨h2, h19, by first | rw [if_pos (by omega)] | rw [if_neg (by omega)], D26, q26, rfl⟩))
    · refine q_bipush hA (by decide) dX10_mend_22 ?_
      exact hR 24 _ _ _ dX10_mend_24 (by exact Or.inr (Or.inl ⟨h2, h19, rfl, rfl⟩))
  · refine q_if_ne (tgt := 10) hA (by decide) dX10_mend_5 (by decide) (fun h5 => absurd h5 (by decide)) (fun h5 => ?_)
    refine q_iconst hA dX10_mend_8 ?_
    exact hR 9 _ _ _ dX10_mend_9 (by exact Or.inl ⟨h2, rfl, rfl⟩)
