set_option maxHeartbeats 4000000 in
set_option maxRecDepth 100000 in
theorem zX1_partsOf {g : Gm} {l : Launch} {D : Dat} {k : Int} {p : Int} {q : Int} (hk : 0 ≤ k ∧ k ≤ 6) (hpp : 0 ≤ p ∧ p < 8) (hq : 0 ≤ q ∧ q ≤ 10) (hp : pOk (rowX D 11)) : CrI g l 15 mX1_partsOf [vR 196, vR 11, vI k, vI p, vI q] D (fun v D1 => v = partsR p q k.toNat (rowX D 11) ∧ frm 198 49 D D1) := by
  refine Cr.ofI (lo0 := [vR 196, vR 11, vI k, vI p, vI q]) (by decide) (Nat.le_of_ble_eq_true rfl) rfl (fun J hA hR => ?_)
  have hza := hGo (k := k) (by omega)
  refine q_iload_n (j := 2) hA rfl dX1_partsOf_0 ?_
  refine q_if_lt (tgt := 13) hA (by omega) dX1_partsOf_1 (by decide) (fun h1 => absurd h1 (by omega)) (fun h1 => ?_)
  refine q_iload_n (j := 2) hA rfl dX1_partsOf_4 ?_
  refine q_aload_n (j := 0) hA rfl dX1_partsOf_5 ?_
  refine q_getR hA f_X1_11 dX1_partsOf_6 sx_196 (by decide) fx_196_0 ?_
  refine q_alen hA (Or.inr (Or.inr rfl)) dX1_partsOf_9 sx_197 ?_
  show J _ _ (vI 7 :: _) _
  refine q_icmp_lt (tgt := 15) hA (by omega) (by omega) dX1_partsOf_10 (by decide) (fun h10 => ?_) (fun h10 => absurd h10 (by omega))
  refine q_aload_n (j := 0) hA rfl dX1_partsOf_15 ?_
  refine q_getR hA f_X1_11 dX1_partsOf_16 sx_196 (by decide) fx_196_0 ?_
  refine q_iload_n (j := 2) hA rfl dX1_partsOf_19 ?_
  refine q_aald (b := stGo k.toNat) hA (Or.inl rfl) dX1_partsOf_20 sx_197 (by omega) (by decide) hza.1 ?_
  refine q_aload_n (j := 1) hA rfl dX1_partsOf_21 ?_
  refine q_callVV (b := stGo k.toNat) (As := [vR 11]) (st := []) hA l_X1_18 kX7_takeFrom (zX7_takeFrom hza.2 isS11 (by unfold stGo; omega)) dX1_partsOf_22 rfl rfl (strS hza.2) (by decide) rfl (Nat.le_of_ble_eq_true rfl) (by omega) (fun D22 q22 => ?_)
  refine q_aload_n (j := 0) hA rfl dX1_partsOf_25 ?_
  refine q_iload_n (j := 2) hA rfl dX1_partsOf_26 ?_
  refine q_iload_n (j := 3) hA rfl dX1_partsOf_27 ?_
  refine q_iload (j := 4) hA rfl dX1_partsOf_28 ?_
  refine q_callVI (b := 196) (As := [vI k, vI p, vI q]) (st := []) hA l_X1_22 kX1_parts (zX1_parts hk hpp hq (by rw [q22.1]; exact hp)) dX1_partsOf_30 rfl rfl sx_196 (by decide) rfl (Nat.le_of_ble_eq_true rfl) (by omega) (fun v30 D30 q30 => ?_)
  exact hR 33 _ _ _ dX1_partsOf_33 ⟨(by rw [q30.1, q22.1]), fun c c1 => (q30.2 c (by omega)).trans (q22.2 c (by unfold stGo; omega))⟩
set_option maxHeartbeats 4000000 in
set_option maxRecDepth 100000 in
theorem zX1_gainOf {g : Gm} {l : Launch} {D : Dat} {k : Int} (hk : 0 ≤ k ∧ k ≤ 6) (hp : pOk (rowX D 11)) : CrI g l 15 mX1_gainOf [vR 196, vR 11, vI k] D (fun v D1 => v = gainR k.toNat (rowX D 11) ∧ frm 198 49 D D1) := by
  refine Cr.ofI (lo0 := [vR 196, vR 11, vI k]) (by decide) (Nat.le_of_ble_eq_true rfl) rfl (fun J hA hR => ?_)
  have hza := hGo (k := k) (by omega)
  refine q_iload_n (j := 2) hA rfl dX1_gainOf_0 ?_
  refine q_if_lt (tgt := 13) hA (by omega) dX1_gainOf_1 (by decide) (fun h1 => absurd h1 (by omega)) (fun h1 => ?_)
  refine q_iload_n (j := 2) hA rfl dX1_gainOf_4 ?_
  refine q_aload_n (j := 0) hA rfl dX1_gainOf_5 ?_
  refine q_getR hA f_X1_11 dX1_gainOf_6 sx_196 (by decide) fx_196_0 ?_
  refine q_alen hA (Or.inr (Or.inr rfl)) dX1_gainOf_9 sx_197 ?_
  show J _ _ (vI 7 :: _) _
  refine q_icmp_lt (tgt := 15) hA (by omega) (by omega) dX1_gainOf_10 (by decide) (fun h10 => ?_) (fun h10 => absurd h10 (by omega))
  refine q_aload_n (j := 0) hA rfl dX1_gainOf_15 ?_
  refine q_getR hA f_X1_11 dX1_gainOf_16 sx_196 (by decide) fx_196_0 ?_
  refine q_iload_n (j := 2) hA rfl dX1_gainOf_19 ?_
  refine q_aald (b := stGo k.toNat) hA (Or.inl rfl) dX1_gainOf_20 sx_197 (by omega) (by decide) hza.1 ?_
  refine q_aload_n (j := 1) hA rfl dX1_gainOf_21 ?_
  refine q_callVV (b := stGo k.toNat) (As := [vR 11]) (st := []) hA l_X1_18 kX7_takeFrom (zX7_takeFrom hza.2 isS11 (by unfold stGo; omega)) dX1_gainOf_22 rfl rfl (strS hza.2) (by decide) rfl (Nat.le_of_ble_eq_true rfl) (by omega) (fun D22 q22 => ?_)
  refine q_aload_n (j := 0) hA rfl dX1_gainOf_25 ?_
  refine q_iload_n (j := 2) hA rfl dX1_gainOf_26 ?_
  refine q_callVI (b := 196) (As := [vI k]) (st := []) hA l_X1_38 kX1_gain (zX1_gain hk (by rw [q22.1]; exact hp)) dX1_gainOf_27 rfl rfl sx_196 (by decide) rfl (Nat.le_of_ble_eq_true rfl) (by omega) (fun v27 D27 q27 => ?_)
  exact hR 30 _ _ _ dX1_gainOf_30 ⟨(by rw [q27.1, q22.1]), fun c c1 => (q27.2 c (by omega)).trans (q22.2 c (by unfold stGo; omega))⟩
set_option maxHeartbeats 4000000 in
set_option maxRecDepth 100000 in
theorem zX4_spotOf {g : Gm} {l : Launch} {D : Dat} {p : Int} {q : Int} : CrP g l 1 mX4_spotOf [vI p, vI q] D (p * 8 + q) := by
  unfold CrP
  refine Cr.ofI (lo0 := [vI p, vI q]) (by decide) (Nat.le_of_ble_eq_true rfl) rfl (fun J hA hR => ?_)
  refine q_iload_n (j := 0) hA rfl dX4_spotOf_0 ?_
  refine q_bipush hA (by decide) dX4_spotOf_1 ?_
  refine q_imul hA dX4_spotOf_3 ?_
  refine q_iload_n (j := 1) hA rfl dX4_spotOf_4 ?_
  refine q_iadd hA dX4_spotOf_5 ?_
  exact hR 6 _ _ _ dX4_spotOf_6 ⟨(by first | rfl | omega), rfl⟩
set_option maxHeartbeats 4000000 in
set_option maxRecDepth 100000 in
theorem zX4_frontOf {g : Gm} {l : Launch} {D : Dat} {z : Int} (hz : 0 ≤ z ∧ z < 64) : CrP g l 1 mX4_frontOf [vI z] D (z / 8) := by
  unfold CrP
  refine Cr.ofI (lo0 := [vI z]) (by decide) (Nat.le_of_ble_eq_true rfl) rfl (fun J hA hR => ?_)
  refine q_iload_n (j := 0) hA rfl dX4_frontOf_0 ?_
  refine q_bipush hA (by decide) dX4_frontOf_1 ?_
  refine q_idiv hA (by omega) (by omega) dX4_frontOf_3 ?_
  exact hR 4 _ _ _ dX4_frontOf_4 ⟨(by first | rfl | omega), rfl⟩
set_option maxHeartbeats 4000000 in
set_option maxRecDepth 100000 in
theorem zX4_spotBehind {g : Gm} {l : Launch} {D : Dat} {a : Nat} (hs : isStrip a) (ho : sOk D a) {z : Int} {m : Int} (hz : 0 ≤ z ∧ z < 64) (hm : 0 ≤ m ∧ m ≤ 2) : CrP g l 3 mX4_spotBehind [vR a, vI z, vI m] D (nxR (rowX D a) z m) := by
  unfold CrP
  refine Cr.ofI (lo0 := [vR a, vI z, vI m, vN, vN, vN]) (by decide) (Nat.le_of_ble_eq_true rfl) rfl (fun J hA hR => ?_)
  have hn := ho.n
  refine q_iload_n (j := 1) hA rfl dX4_spotBehind_0 ?_
  refine q_callSP (As := [vI z]) (st := []) hA l_X4_47 kX4_frontOf (zX4_frontOf (by first | assumption | omega | rfl)) dX4_spotBehind_1 rfl rfl (Nat.le_of_ble_eq_true rfl) (by omega) ?_
  refine q_nmI (fun f ef => ?_)
  refine q_istore_n (j := 3) (lo2 := [vR a, vI z, vI m, vI f, vN, vN]) hA dX4_spotBehind_4 (by decide) rfl rfl ?_
  have hf8 : 0 ≤ f ∧ f < 8 := by omega
  refine q_iload_n (j := 1) hA rfl dX4_spotBehind_5 ?_
  refine q_bipush hA (by decide) dX4_spotBehind_6 ?_
  refine q_irem hA (by omega) (by omega) dX4_spotBehind_8 ?_
  refine q_nmI (fun b eb => ?_)
  refine q_istore (j := 4) (lo2 := [vR a, vI z, vI m, vI f, vI b, vN]) hA dX4_spotBehind_9 (by decide) rfl rfl ?_
  have hb8 : 0 ≤ b ∧ b < 8 := by omega
  refine q_aload_n (j := 0) hA rfl dX4_spotBehind_11 ?_
  refine q_iload_n (j := 3) hA rfl dX4_spotBehind_12 ?_
  refine q_iload (j := 4) hA rfl dX4_spotBehind_13 ?_
  refine q_callVB (b := a) (As := [vI f, vI b]) (st := []) hA l_X4_51 kX7_areLinked (zX7_areLinked (by first | assumption | omega | rfl) (by first | assumption | omega | rfl) (by first | assumption | omega | rfl) (by first | assumption | omega | rfl)) dX4_spotBehind_15 rfl rfl (strS hs) (by decide) rfl (Nat.le_of_ble_eq_true rfl) (by omega) (fun h15 => ?_) (fun h15 => ?_)
  · refine q_if_ne (tgt := 24) hA (by decide) dX4_spotBehind_18 (by decide) (fun h18 => ?_) (fun h18 => absurd h18 (by decide))
    refine q_iload_n (j := 2) hA rfl dX4_spotBehind_24 ?_
    refine q_iconst hA dX4_spotBehind_25 ?_
    refine q_icmp_ne (tgt := 36) hA (by omega) (by omega) dX4_spotBehind_26 (by decide) (fun h26 => ?_) (fun h26 => ?_)
    · refine q_aload_n (j := 0) hA rfl dX4_spotBehind_36 ?_
      refine q_iload_n (j := 3) hA rfl dX4_spotBehind_37 ?_
      refine q_iload (j := 4) hA rfl dX4_spotBehind_38 ?_
      refine q_iload_n (j := 2) hA rfl dX4_spotBehind_40 ?_
      refine q_callVP (b := a) (As := [vI f, vI b, vI m]) (st := []) hA l_X4_55 kX7_third (zX7_third (by first | assumption | omega | rfl) (by first | assumption | omega | rfl) (by first | assumption | omega | rfl) (by first | assumption | omega | rfl) (by first | assumption | omega | rfl)) dX4_spotBehind_41 rfl rfl (strS hs) (by decide) rfl (Nat.le_of_ble_eq_true rfl) (by omega) ?_
      refine q_nmI (fun t et => ?_)
      refine q_istore (j := 5) (lo2 := [vR a, vI z, vI m, vI f, vI b, vI t]) hA dX4_spotBehind_44 (by decide) rfl rfl ?_
      have hti := thX_in (r := rowX D a) (a := f) (b := b) (s := m) (by rw [xN]; omega)
      rw [← et, xN] at hti
      refine q_iload (j := 5) hA rfl dX4_spotBehind_46 ?_
      refine q_if_lt (tgt := 60) hA (by omega) dX4_spotBehind_48 (by decide) (fun h48 => ?_) (fun h48 => ?_)
      · refine q_bipush hA (by decide) dX4_spotBehind_60 ?_
        refine q_goto (tgt := 71) hA dX4_spotBehind_62 (by decide) ?_
        exact hR 71 _ _ _ dX4_spotBehind_71 ⟨(by have hl := (show (0 ≤ f ∧ f < rN (rowX D a)) ∧ (0 ≤ b ∧ b < rN (rowX D a)) ∧ tb (rL (rowX D a) f) b = true by rw [xN, xL (by omega)]; exact h15); by_cases hq : t < 0 ∨ ((0 ≤ t ∧ t < rN (rowX D a)) ∧ rBe (rowX D a) t ≤ rWe (rowX D a) t); (first | exact nx_n ef eb hl h26 et hq | (exfalso; rw [xN] at hq; rcases hq with hq | hq; omega; exact h54 ⟨hq.1, (by rw [xBe (by omega), xWe (by omega)] at hq; exact hq.2)⟩)); (first | (rw [esq]; exact nx_s ef eb hl h26 et hq) | (exfalso; apply hq; rw [xN]; first | (left; omega) | (right; rw [xBe (by omega), xWe (by omega)]; exact h54)))), rfl⟩
      · refine q_aload_n (j := 0) hA rfl dX4_spotBehind_51 ?_
        refine q_iload (j := 5) hA rfl dX4_spotBehind_52 ?_
        refine q_callVB (b := a) (As := [vI t]) (st := []) hA l_X4_59 kX7_isTorn (zX7_isTorn (by first | assumption | omega | rfl) (by first | assumption | omega | rfl) (by first | assumption | omega | rfl)) dX4_spotBehind_54 rfl rfl (strS hs) (by decide) rfl (Nat.le_of_ble_eq_true rfl) (by omega) (fun h54 => ?_) (fun h54 => ?_)
        · refine q_if_eq (tgt := 65) hA (by decide) dX4_spotBehind_57 (by decide) (fun h57 => absurd h57 (by decide)) (fun h57 => ?_)
          refine q_bipush hA (by decide) dX4_spotBehind_60 ?_
          refine q_goto (tgt := 71) hA dX4_spotBehind_62 (by decide) ?_
          exact hR 71 _ _ _ dX4_spotBehind_71 ⟨(by have hl := (show (0 ≤ f ∧ f < rN (rowX D a)) ∧ (0 ≤ b ∧ b < rN (rowX D a)) ∧ tb (rL (rowX D a) f) b = true by rw [xN, xL (by omega)]; exact h15); by_cases hq : t < 0 ∨ ((0 ≤ t ∧ t < rN (rowX D a)) ∧ rBe (rowX D a) t ≤ rWe (rowX D a) t); (first | exact nx_n ef eb hl h26 et hq | (exfalso; rw [xN] at hq; rcases hq with hq | hq; omega; exact h54 ⟨hq.1, (by rw [xBe (by omega), xWe (by omega)] at hq; exact hq.2)⟩)); (first | (rw [esq]; exact nx_s ef eb hl h26 et hq) | (exfalso; apply hq; rw [xN]; first | (left; omega) | (right; rw [xBe (by omega), xWe (by omega)]; exact h54)))), rfl⟩
        · refine q_if_eq (tgt := 65) hA (by decide) dX4_spotBehind_57 (by decide) (fun h57 => ?_) (fun h57 => absurd h57 (by decide))
          refine q_iload (j := 5) hA rfl dX4_spotBehind_65 ?_
          refine q_iload_n (j := 3) hA rfl dX4_spotBehind_67 ?_
          refine q_callSP (As := [vI t, vI f]) (st := []) hA l_X4_36 kX4_spotOf (zX4_spotOf) dX4_spotBehind_68 rfl rfl (Nat.le_of_ble_eq_true rfl) (by omega) ?_
          refine q_nmI (fun sq esq => ?_)
          exact hR 71 _ _ _ dX4_spotBehind_71 ⟨(by have hl := (show (0 ≤ f ∧ f < rN (rowX D a)) ∧ (0 ≤ b ∧ b < rN (rowX D a)) ∧ tb (rL (rowX D a) f) b = true by rw [xN, xL (by omega)]; exact h15); by_cases hq : t < 0 ∨ ((0 ≤ t ∧ t < rN (rowX D a)) ∧ rBe (rowX D a) t ≤ rWe (rowX D a) t); (first | exact nx_n ef eb hl h26 et hq | (exfalso; rw [xN] at hq; rcases hq with hq | hq; omega; exact h54 ⟨hq.1, (by rw [xBe (by omega), xWe (by omega)] at hq; exact hq.2)⟩)); (first | (rw [esq]; exact nx_s ef eb hl h26 et hq) | (exfalso; apply hq; rw [xN]; first | (left; omega) | (right; rw [xBe (by omega), xWe (by omega)]; exact h54)))), rfl⟩
    · refine q_iload (j := 4) hA rfl dX4_spotBehind_29 ?_
      refine q_iload_n (j := 3) hA rfl dX4_spotBehind_31 ?_
      refine q_callSP (As := [vI b, vI f]) (st := []) hA l_X4_36 kX4_spotOf (zX4_spotOf) dX4_spotBehind_32 rfl rfl (Nat.le_of_ble_eq_true rfl) (by omega) ?_
      refine q_nmI (fun sp esp => ?_)
      exact hR 35 _ _ _ dX4_spotBehind_35 ⟨(by rw [esp]; exact nx_t ef eb (by rw [xN, xL (by omega)]; exact h15) (by omega)), rfl⟩
  · refine q_if_ne (tgt := 24) hA (by decide) dX4_spotBehind_18 (by decide) (fun h18 => absurd h18 (by decide)) (fun h18 => ?_)
    refine q_bipush hA (by decide) dX4_spotBehind_21 ?_
    exact hR 23 _ _ _ dX4_spotBehind_23 ⟨(by exact nx_a ef eb (by rw [xN, xL (by omega)]; exact h15)), rfl⟩
set_option maxHeartbeats 4000000 in
set_option maxRecDepth 100000 in
theorem zX4_lay_L25 {g : Gm} {l : Launch} {D : Dat} {a : Nat} (hs : isStrip a) (ho : sOk D a) {z : Int} (hz : 0 ≤ z ∧ z < 64) {J : JT} (hA : AX g l RX4 cX4_lay 4 5 J) (hR : ReV cX4_lay (fun D1 => D1 190 5 = D a 7 * 8 + D a 8 ∧ (∀ z m : Int, 0 ≤ z → z < 64 → 0 ≤ m → m ≤ 2 → D1 191 (z * 3 + m) = nxR (rowX D a) z m) ∧ frm 190 2 D D1) J) (hx : ∀ (m : Int) (E : Dat), (0 ≤ m ∧ m ≤ 3) → (E 190 5 = D a 7 * 8 + D a 8) → (∀ y m : Int, 0 ≤ y → y < z → 0 ≤ m → m ≤ 2 → E 191 (y * 3 + m) = nxR (rowX D a) y m) → (∀ n : Int, 0 ≤ n → n < m → E 191 (z * 3 + n) = nxR (rowX D a) z n) → (frm 190 2 D E) → (m = 3) → J 52 [vR 190, vR a, vI z, vI m] [] E) : ∀ (fuel : Nat) (m : Int) (E : Dat), (0 ≤ m ∧ m ≤ 3) → (E 190 5 = D a 7 * 8 + D a 8) → (∀ y m : Int, 0 ≤ y → y < z → 0 ≤ m → m ≤ 2 → E 191 (y * 3 + m) = nxR (rowX D a) y m) → (∀ n : Int, 0 ≤ n → n < m → E 191 (z * 3 + n) = nxR (rowX D a) z n) → (frm 190 2 D E) → 3 - m < (fuel : Int) → J 25 [vR 190, vR a, vI z, vI m] [] E := by
  intro fuel
  induction fuel with
  | zero => intro m E hm hst hv hw hf hMs; exact absurd hMs (by omega)
  | succ fuel ih =>
    intro m E hm hst hv hw hf hMs
    have hso := strOut hs
    have hrow : rowX E a = rowX D a := frm.row hf (by omega)
    have hoF : sOk E a := by unfold sOk; rw [hrow]; exact ho
    refine q_iload_n (j := 3) hA rfl dX4_lay_25 ?_
    refine q_iconst hA dX4_lay_26 ?_
    refine q_icmp_ge (tgt := 52) hA (by omega) (by omega) dX4_lay_27 (by decide) (fun h27 => ?_) (fun h27 => ?_)
    · exact hx _ _ hm hst hv hw hf (by omega)
    · refine q_aload_n (j := 0) hA rfl dX4_lay_30 ?_
      refine q_getR hA f_X4_11 dX4_lay_31 sx_190 (by decide) fx_190_0 ?_
      refine q_iload_n (j := 2) hA rfl dX4_lay_34 ?_
      refine q_iconst hA dX4_lay_35 ?_
      refine q_imul hA dX4_lay_36 ?_
      refine q_iload_n (j := 3) hA rfl dX4_lay_37 ?_
      refine q_iadd hA dX4_lay_38 ?_
      refine q_aload_n (j := 1) hA rfl dX4_lay_39 ?_
      refine q_iload_n (j := 2) hA rfl dX4_lay_40 ?_
      refine q_iload_n (j := 3) hA rfl dX4_lay_41 ?_
      refine q_callSP (As := [vR a, vI z, vI m]) (st := [vI ((z * 3) + m), vR 191]) hA l_X4_43 kX4_spotBehind (zX4_spotBehind hs hoF (by omega) (by omega)) dX4_lay_42 rfl rfl (Nat.le_of_ble_eq_true rfl) (by omega) ?_
      refine q_nmI (fun nx enx => ?_)
      refine q_iast hA dX4_lay_45 sx_191 (by omega) (by decide) ?_
      refine q_iinc (j := 3) (lo2 := [vR 190, vR a, vI z, vI (m + 1)]) hA dX4_lay_46 rfl (by decide) rfl rfl ?_
      refine q_goto (tgt := 25) hA dX4_lay_49 (by decide) ?_
      exact ih _ _ (by omega) (by exact (upD_n (Or.inl (by omega))).trans hst) (by intro y n y1 y2 n1 n2; rw [upD_n (Or.inr (by omega))]; exact hv y n y1 y2 n1 n2) (by intro n n1 n2; by_cases hn : n = m; (subst hn; rw [upD_s, enx, hrow]); (rw [upD_n (Or.inr (by omega))]; exact hw n n1 (by omega))) (by exact hf.up (by omega)) (by omega)
set_option maxHeartbeats 4000000 in
set_option maxRecDepth 100000 in
theorem zX4_lay_L17 {g : Gm} {l : Launch} {D : Dat} {a : Nat} (hs : isStrip a) (ho : sOk D a)   {J : JT} (hA : AX g l RX4 cX4_lay 4 5 J) (hR : ReV cX4_lay (fun D1 => D1 190 5 = D a 7 * 8 + D a 8 ∧ (∀ z m : Int, 0 ≤ z → z < 64 → 0 ≤ m → m ≤ 2 → D1 191 (z * 3 + m) = nxR (rowX D a) z m) ∧ frm 190 2 D D1) J) : ∀ (fuel : Nat) (z : Int) (E : Dat), (0 ≤ z ∧ z ≤ 64) → (E 190 5 = D a 7 * 8 + D a 8) → (∀ y m : Int, 0 ≤ y → y < z → 0 ≤ m → m ≤ 2 → E 191 (y * 3 + m) = nxR (rowX D a) y m) → (frm 190 2 D E) → 64 - z < (fuel : Int) → J 17 [vR 190, vR a, vI z, vN] [] E := by
  intro fuel
  induction fuel with
  | zero => intro z E hz hst hv hf hMs; exact absurd hMs (by omega)
  | succ fuel ih =>
    intro z E hz hst hv hf hMs
    refine q_iload_n (j := 2) hA rfl dX4_lay_17 ?_
    refine q_bipush hA (by decide) dX4_lay_18 ?_
    refine q_icmp_ge (tgt := 58) hA (by omega) (by omega) dX4_lay_20 (by decide) (fun h20 => ?_) (fun h20 => ?_)
    · exact hR 58 _ _ dX4_lay_58 ⟨hst, fun y m y1 y2 => hv y m y1 (by omega), hf⟩
    · refine q_iconst hA dX4_lay_23 ?_
      refine q_istore_n (j := 3) (lo2 := [vR 190, vR a, vI z, vI 0]) hA dX4_lay_24 (by decide) rfl rfl ?_
      refine zX4_lay_L25 (D := D) (a := a) hs ho ((by first | assumption | omega | rfl)) hA hR (fun m E hm hst hv hw hf hx => ?_) 1000 _ _ (by omega) (by exact hst) (by exact hv) (by intro n n1 n2; omega) (by exact hf) (by omega)
      refine q_iinc (j := 2) (lo2 := [vR 190, vR a, vI (z + 1), vI m]) hA dX4_lay_52 rfl (by decide) rfl rfl ?_
      refine q_goto (tgt := 17) hA dX4_lay_55 (by decide) ?_
      refine q_fgt (lo2 := [vR 190, vR a, vI (z + 1), vN]) hA ⟨Or.inr rfl, Or.inr rfl, Or.inr rfl, Or.inl rfl, trivial⟩ ?_
      exact ih _ _ (by omega) (by exact hst) (by intro y m y1 y2 m1 m2; by_cases hy : y = z; exact hy ▸ hw m m1 (by omega); exact hv y m y1 (by omega) m1 m2) (by exact hf) (by omega)
set_option maxHeartbeats 4000000 in
set_option maxRecDepth 100000 in
theorem zX4_lay {g : Gm} {l : Launch} {D : Dat} {a : Nat} (hs : isStrip a) (ho : sOk D a) : CrV g l 5 mX4_lay [vR 190, vR a] D (fun D1 => D1 190 5 = D a 7 * 8 + D a 8 ∧ (∀ z m : Int, 0 ≤ z → z < 64 → 0 ≤ m → m ≤ 2 → D1 191 (z * 3 + m) = nxR (rowX D a) z m) ∧ frm 190 2 D D1) := by
  refine Cr.ofV (lo0 := [vR 190, vR a, vN, vN]) (by decide) (Nat.le_of_ble_eq_true rfl) rfl (fun J hA hR => ?_)
  have hn := ho.n
  have hso := strOut hs
  refine q_aload_n (j := 0) hA rfl dX4_lay_0 ?_
  refine q_aload_n (j := 1) hA rfl dX4_lay_1 ?_
  refine q_getI (x := D a 7) hA f_X4_27 dX4_lay_2 (strS hs) (by decide) rfl ?_
  refine q_aload_n (j := 1) hA rfl dX4_lay_5 ?_
  refine q_getI (x := D a 8) hA f_X4_33 dX4_lay_6 (strS hs) (by decide) rfl ?_
  refine q_callSP (As := [vI (D a 7), vI (D a 8)]) (st := [vR 190]) hA l_X4_36 kX4_spotOf (zX4_spotOf) dX4_lay_9 rfl rfl (Nat.le_of_ble_eq_true rfl) (by omega) ?_
  refine q_nmI (fun sp esp => ?_)
  refine q_putI hA f_X4_40 dX4_lay_12 sx_190 (by decide) ?_
  show J _ _ _ (upD D 190 5 sp)
  refine q_iconst hA dX4_lay_15 ?_
  refine q_istore_n (j := 2) (lo2 := [vR 190, vR a, vI 0, vN]) hA dX4_lay_16 (by decide) rfl rfl ?_
  refine zX4_lay_L17 (D := D) (a := a) hs ho  hA hR 1000 _ _ (by omega) (by rw [upD_s, esp]) (by intro y m y1 y2; omega) (by exact frm.rf.up (by omega)) (by omega)
set_option maxHeartbeats 4000000 in
set_option maxRecDepth 100000 in
theorem zX4_behind {g : Gm} {l : Launch} {D : Dat} {r : Row} (hnx : ∀ z m : Int, 0 ≤ z → z < 64 → 0 ≤ m → m ≤ 2 → D 191 (z * 3 + m) = nxR r z m) {z : Int} {m : Int} (rz : -2147483648 ≤ z ∧ z ≤ 2147483647) (rm : -2147483648 ≤ m ∧ m ≤ 2147483647) : CrP g l 1 mX4_behind [vR 190, vI z, vI m] D (bhR r z m) := by
  unfold CrP
  refine Cr.ofI (lo0 := [vR 190, vI z, vI m, vN]) (by decide) (Nat.le_of_ble_eq_true rfl) rfl (fun J hA hR => ?_)
  refine q_iload_n (j := 1) hA rfl dX4_behind_0 ?_
  refine q_if_lt (tgt := 23) hA (by omega) dX4_behind_1 (by decide) (fun h1 => ?_) (fun h1 => ?_)
  · refine q_iconst hA dX4_behind_23 ?_
    refine q_istore_n (j := 3) (lo2 := [vR 190, vI z, vI m, vI 0]) hA dX4_behind_24 (by decide) rfl rfl ?_
    refine q_iload_n (j := 3) hA rfl dX4_behind_25 ?_
    refine q_if_eq (tgt := 42) hA (by decide) dX4_behind_26 (by decide) (fun h26 => ?_) (fun h26 => absurd h26 (by decide))
    refine q_bipush hA (by decide) dX4_behind_42 ?_
    exact hR 44 _ _ _ dX4_behind_44 ⟨(by unfold bhR; first | omega | (rw [if_pos (by omega)]; done) | rw [if_neg (by omega)]), rfl⟩
  · refine q_iload_n (j := 1) hA rfl dX4_behind_4 ?_
    refine q_bipush hA (by decide) dX4_behind_5 ?_
    refine q_icmp_ge (tgt := 23) hA (by omega) (by omega) dX4_behind_7 (by decide) (fun h7 => ?_) (fun h7 => ?_)
    · refine q_iconst hA dX4_behind_23 ?_
      refine q_istore_n (j := 3) (lo2 := [vR 190, vI z, vI m, vI 0]) hA dX4_behind_24 (by decide) rfl rfl ?_
      refine q_iload_n (j := 3) hA rfl dX4_behind_25 ?_
      refine q_if_eq (tgt := 42) hA (by decide) dX4_behind_26 (by decide) (fun h26 => ?_) (fun h26 => absurd h26 (by decide))
      refine q_bipush hA (by decide) dX4_behind_42 ?_
      exact hR 44 _ _ _ dX4_behind_44 ⟨(by unfold bhR; first | omega | (rw [if_pos (by omega)]; done) | rw [if_neg (by omega)]), rfl⟩
    · refine q_iload_n (j := 2) hA rfl dX4_behind_10 ?_
      refine q_if_lt (tgt := 23) hA (by omega) dX4_behind_11 (by decide) (fun h11 => ?_) (fun h11 => ?_)
      · refine q_iconst hA dX4_behind_23 ?_
        refine q_istore_n (j := 3) (lo2 := [vR 190, vI z, vI m, vI 0]) hA dX4_behind_24 (by decide) rfl rfl ?_
        refine q_iload_n (j := 3) hA rfl dX4_behind_25 ?_
        refine q_if_eq (tgt := 42) hA (by decide) dX4_behind_26 (by decide) (fun h26 => ?_) (fun h26 => absurd h26 (by decide))
        refine q_bipush hA (by decide) dX4_behind_42 ?_
        exact hR 44 _ _ _ dX4_behind_44 ⟨(by unfold bhR; first | omega | (rw [if_pos (by omega)]; done) | rw [if_neg (by omega)]), rfl⟩
      · refine q_iload_n (j := 2) hA rfl dX4_behind_14 ?_
        refine q_iconst hA dX4_behind_15 ?_
        refine q_icmp_ge (tgt := 23) hA (by omega) (by omega) dX4_behind_16 (by decide) (fun h16 => ?_) (fun h16 => ?_)
        · refine q_iconst hA dX4_behind_23 ?_
          refine q_istore_n (j := 3) (lo2 := [vR 190, vI z, vI m, vI 0]) hA dX4_behind_24 (by decide) rfl rfl ?_
          refine q_iload_n (j := 3) hA rfl dX4_behind_25 ?_
          refine q_if_eq (tgt := 42) hA (by decide) dX4_behind_26 (by decide) (fun h26 => ?_) (fun h26 => absurd h26 (by decide))
          refine q_bipush hA (by decide) dX4_behind_42 ?_
          exact hR 44 _ _ _ dX4_behind_44 ⟨(by unfold bhR; first | omega | (rw [if_pos (by omega)]; done) | rw [if_neg (by omega)]), rfl⟩
        · refine q_iconst hA dX4_behind_19 ?_
          refine q_goto (tgt := 24) hA dX4_behind_20 (by decide) ?_
          refine q_istore_n (j := 3) (lo2 := [vR 190, vI z, vI m, vI 1]) hA dX4_behind_24 (by decide) rfl rfl ?_
          refine q_iload_n (j := 3) hA rfl dX4_behind_25 ?_
          refine q_if_eq (tgt := 42) hA (by decide) dX4_behind_26 (by decide) (fun h26 => absurd h26 (by decide)) (fun h26 => ?_)
          have hbz : 0 ≤ z ∧ z < 64 ∧ 0 ≤ m ∧ m ≤ 2 := by omega
          refine q_aload_n (j := 0) hA rfl dX4_behind_29 ?_
          refine q_getR hA f_X4_11 dX4_behind_30 sx_190 (by decide) fx_190_0 ?_
          refine q_iload_n (j := 1) hA rfl dX4_behind_33 ?_
          refine q_iconst hA dX4_behind_34 ?_
          refine q_imul hA dX4_behind_35 ?_
          refine q_iload_n (j := 2) hA rfl dX4_behind_36 ?_
          refine q_iadd hA dX4_behind_37 ?_
          refine q_iald (x := nxR r z m) hA dX4_behind_38 sx_191 (by omega) (by decide) (hnx z m (by omega) (by omega) (by omega) (by omega)) ?_
          refine q_goto (tgt := 44) hA dX4_behind_39 (by decide) ?_
          exact hR 44 _ _ _ dX4_behind_44 ⟨(by unfold bhR; first | omega | (rw [if_pos (by omega)]; done) | rw [if_neg (by omega)]), rfl⟩
