set_option maxHeartbeats 4000000 in
set_option maxRecDepth 100000 in
theorem zX10_in {g : Gm} {l : Launch} {D : Dat} {x : Int} {y : Int} {z : Int} (hx : -9223372036854775808 ≤ x ∧ x ≤ 9223372036854775807) (hy : -9223372036854775808 ≤ y ∧ y ≤ 9223372036854775807) (hz : -9223372036854775808 ≤ z ∧ z ≤ 9223372036854775807) : CrB g l 1 mX10_in [vL x, vL y, vL z] D (y ≤ x ∧ x ≤ z) := by
  unfold CrB
  refine Cr.ofZ (lo0 := [vL x, vN, vL y, vN, vL z, vN]) (by decide) (Nat.le_of_ble_eq_true rfl) rfl (fun J hA hR => ?_)
  refine q_lload_n (j := 0) hA rfl dX10_in_0 ?_
  refine q_lload_n (j := 2) hA rfl dX10_in_1 ?_
  refine q_lcmp hA (by omega) (by omega) dX10_in_2 ?_
  have hc2 := cmpL_spec x y
  refine q_if_lt (tgt := 17) hA (by omega) dX10_in_3 (by decide) (fun h3 => ?_) (fun h3 => ?_)
  · refine q_iconst hA dX10_in_17 ?_
    exact hR 18 _ _ _ dX10_in_18 (Or.inl rfl) ⟨rfl, Or.inr ⟨(by omega), rfl⟩⟩
  · refine q_lload_n (j := 0) hA rfl dX10_in_6 ?_
    refine q_lload (j := 4) hA rfl dX10_in_7 ?_
    refine q_lcmp hA (by omega) (by omega) dX10_in_9 ?_
    have hc9 := cmpL_spec x z
    refine q_if_gt (tgt := 17) hA (by omega) dX10_in_10 (by decide) (fun h10 => ?_) (fun h10 => ?_)
    · refine q_iconst hA dX10_in_17 ?_
      exact hR 18 _ _ _ dX10_in_18 (Or.inl rfl) ⟨rfl, Or.inr ⟨(by omega), rfl⟩⟩
    · refine q_iconst hA dX10_in_13 ?_
      refine q_goto (tgt := 18) hA dX10_in_14 (by decide) ?_
      exact hR 18 _ _ _ dX10_in_18 (Or.inr rfl) ⟨rfl, Or.inl ⟨(by omega), rfl⟩⟩
set_option maxHeartbeats 4000000 in
set_option maxRecDepth 100000 in
theorem zX10_kindBy {g : Gm} {l : Launch} {D : Dat} {x : Int} (rx : -2147483648 ≤ x ∧ x ≤ 2147483647) : CrP g l 1 mX10_kindBy [vI x] D (kindM x) := by
  unfold CrP
  refine Cr.ofI (lo0 := [vI x]) (by decide) (Nat.le_of_ble_eq_true rfl) rfl (fun J hA hR => ?_)
  refine q_iload_n (j := 0) hA rfl dX10_kindBy_0 ?_
  refine q_bipush hA (by decide) dX10_kindBy_1 ?_
  refine q_icmp_ne (tgt := 10) hA (by omega) (by omega) dX10_kindBy_3 (by decide) (fun h3 => ?_) (fun h3 => ?_)
  · refine q_iload_n (j := 0) hA rfl dX10_kindBy_10 ?_
    refine q_bipush hA (by decide) dX10_kindBy_11 ?_
    refine q_icmp_ne (tgt := 20) hA (by omega) (by omega) dX10_kindBy_13 (by decide) (fun h13 => ?_) (fun h13 => ?_)
    · refine q_iload_n (j := 0) hA rfl dX10_kindBy_20 ?_
      refine q_bipush hA (by decide) dX10_kindBy_21 ?_
      refine q_icmp_ne (tgt := 30) hA (by omega) (by omega) dX10_kindBy_23 (by decide) (fun h23 => ?_) (fun h23 => ?_)
      · refine q_iload_n (j := 0) hA rfl dX10_kindBy_30 ?_
        refine q_bipush hA (by decide) dX10_kindBy_31 ?_
        refine q_icmp_ne (tgt := 40) hA (by omega) (by omega) dX10_kindBy_33 (by decide) (fun h33 => ?_) (fun h33 => ?_)
        · refine q_iload_n (j := 0) hA rfl dX10_kindBy_40 ?_
          refine q_bipush hA (by decide) dX10_kindBy_41 ?_
          refine q_icmp_ne (tgt := 50) hA (by omega) (by omega) dX10_kindBy_43 (by decide) (fun h43 => ?_) (fun h43 => ?_)
          · refine q_iconst hA dX10_kindBy_50 ?_
            exact hR 51 _ _ _ dX10_kindBy_51 ⟨(by unfold kindM; first | rw [if_pos (by omega)] | rw [if_neg (by omega), if_pos (by omega)] | rw [if_neg (by omega), if_neg (by omega), if_pos (by omega)] | rw [if_neg (by omega), if_neg (by omega), if_neg (by omega), if_pos (by omega)] | rw [if_neg (by omega), if_neg (by omega), if_neg (by omega), if_neg (by omega), if_pos (by omega)] | rw [if_neg (by omega), if_neg (by omega), if_neg (by omega), if_neg (by omega), if_neg (by omega)]), rfl⟩
          · refine q_iconst hA dX10_kindBy_46 ?_
            refine q_goto (tgt := 51) hA dX10_kindBy_47 (by decide) ?_
            exact hR 51 _ _ _ dX10_kindBy_51 ⟨(by unfold kindM; first | rw [if_pos (by omega)] | rw [if_neg (by omega), if_pos (by omega)] | rw [if_neg (by omega), if_neg (by omega), if_pos (by omega)] | rw [if_neg (by omega), if_neg (by omega), if_neg (by omega), if_pos (by omega)] | rw [if_neg (by omega), if_neg (by omega), if_neg (by omega), if_neg (by omega), if_pos (by omega)] | rw [if_neg (by omega), if_neg (by omega), if_neg (by omega), if_neg (by omega), if_neg (by omega)]), rfl⟩
        · refine q_iconst hA dX10_kindBy_36 ?_
          refine q_goto (tgt := 51) hA dX10_kindBy_37 (by decide) ?_
          exact hR 51 _ _ _ dX10_kindBy_51 ⟨(by unfold kindM; first | rw [if_pos (by omega)] | rw [if_neg (by omega), if_pos (by omega)] | rw [if_neg (by omega), if_neg (by omega), if_pos (by omega)] | rw [if_neg (by omega), if_neg (by omega), if_neg (by omega), if_pos (by omega)] | rw [if_neg (by omega), if_neg (by omega), if_neg (by omega), if_neg (by omega), if_pos (by omega)] | rw [if_neg (by omega), if_neg (by omega), if_neg (by omega), if_neg (by omega), if_neg (by omega)]), rfl⟩
      · refine q_iconst hA dX10_kindBy_26 ?_
        refine q_goto (tgt := 51) hA dX10_kindBy_27 (by decide) ?_
        exact hR 51 _ _ _ dX10_kindBy_51 ⟨(by unfold kindM; first | rw [if_pos (by omega)] | rw [if_neg (by omega), if_pos (by omega)] | rw [if_neg (by omega), if_neg (by omega), if_pos (by omega)] | rw [if_neg (by omega), if_neg (by omega), if_neg (by omega), if_pos (by omega)] | rw [if_neg (by omega), if_neg (by omega), if_neg (by omega), if_neg (by omega), if_pos (by omega)] | rw [if_neg (by omega), if_neg (by omega), if_neg (by omega), if_neg (by omega), if_neg (by omega)]), rfl⟩
    · refine q_iconst hA dX10_kindBy_16 ?_
      refine q_goto (tgt := 51) hA dX10_kindBy_17 (by decide) ?_
      exact hR 51 _ _ _ dX10_kindBy_51 ⟨(by unfold kindM; first | rw [if_pos (by omega)] | rw [if_neg (by omega), if_pos (by omega)] | rw [if_neg (by omega), if_neg (by omega), if_pos (by omega)] | rw [if_neg (by omega), if_neg (by omega), if_neg (by omega), if_pos (by omega)] | rw [if_neg (by omega), if_neg (by omega), if_neg (by omega), if_neg (by omega), if_pos (by omega)] | rw [if_neg (by omega), if_neg (by omega), if_neg (by omega), if_neg (by omega), if_neg (by omega)]), rfl⟩
  · refine q_iconst hA dX10_kindBy_6 ?_
    refine q_goto (tgt := 51) hA dX10_kindBy_7 (by decide) ?_
    exact hR 51 _ _ _ dX10_kindBy_51 ⟨(by unfold kindM; first | rw [if_pos (by omega)] | rw [if_neg (by omega), if_pos (by omega)] | rw [if_neg (by omega), if_neg (by omega), if_pos (by omega)] | rw [if_neg (by omega), if_neg (by omega), if_neg (by omega), if_pos (by omega)] | rw [if_neg (by omega), if_neg (by omega), if_neg (by omega), if_neg (by omega), if_pos (by omega)] | rw [if_neg (by omega), if_neg (by omega), if_neg (by omega), if_neg (by omega), if_neg (by omega)]), rfl⟩
set_option maxHeartbeats 4000000 in
set_option maxRecDepth 100000 in
theorem zX10_isBetween {g : Gm} {l : Launch} {D : Dat} {c : Int} {a : Int} {b : Int} {n : Int} (hn : 0 < n ∧ n ≤ 8) (hc : 0 ≤ c ∧ c < n) (ha : 0 ≤ a ∧ a < n) (hb : 0 ≤ b ∧ b < n) : CrB g l 1 mX10_isBetween [vI c, vI a, vI b, vI n] D (btw n a b c) := by
  unfold CrB
  refine Cr.ofZ (lo0 := [vI c, vI a, vI b, vI n]) (by decide) (Nat.le_of_ble_eq_true rfl) rfl (fun J hA hR => ?_)
  refine q_iload_n (j := 0) hA rfl dX10_isBetween_0 ?_
  refine q_iload_n (j := 1) hA rfl dX10_isBetween_1 ?_
  refine q_icmp_eq (tgt := 26) hA (by omega) (by omega) dX10_isBetween_2 (by decide) (fun h2 => ?_) (fun h2 => ?_)
  · refine q_iconst hA dX10_isBetween_26 ?_
    exact hR 27 _ _ _ dX10_isBetween_27 (Or.inl rfl) ⟨rfl, Or.inr ⟨(by first | exact ⟨h2, h19⟩ | exact fun z => z.1 h2 | exact fun z => absurd z.2 (by omega)), rfl⟩⟩
  · refine q_iload_n (j := 0) hA rfl dX10_isBetween_5 ?_
    refine q_iload_n (j := 1) hA rfl dX10_isBetween_6 ?_
    refine q_isub hA dX10_isBetween_7 ?_
    refine q_iload_n (j := 3) hA rfl dX10_isBetween_8 ?_
    refine q_iadd hA dX10_isBetween_9 ?_
    refine q_iload_n (j := 3) hA rfl dX10_isBetween_10 ?_
    refine q_irem hA (by omega) (by omega) dX10_isBetween_11 ?_
    refine q_iload_n (j := 2) hA rfl dX10_isBetween_12 ?_
    refine q_iload_n (j := 1) hA rfl dX10_isBetween_13 ?_
    refine q_isub hA dX10_isBetween_14 ?_
    refine q_iload_n (j := 3) hA rfl dX10_isBetween_15 ?_
    refine q_iadd hA dX10_isBetween_16 ?_
    refine q_iload_n (j := 3) hA rfl dX10_isBetween_17 ?_
    refine q_irem hA (by omega) (by omega) dX10_isBetween_18 ?_
    have m1 := Int.emod_nonneg (c - a + n) (show n ≠ 0 by omega)
    have m2 := Int.emod_lt_of_pos (c - a + n) (show 0 < n by omega)
    have m3 := Int.emod_nonneg (b - a + n) (show n ≠ 0 by omega)
    have m4 := Int.emod_lt_of_pos (b - a + n) (show 0 < n by omega)
    refine q_icmp_ge (tgt := 26) hA (by omega) (by omega) dX10_isBetween_19 (by decide) (fun h19 => ?_) (fun h19 => ?_)
    · refine q_iconst hA dX10_isBetween_26 ?_
      exact hR 27 _ _ _ dX10_isBetween_27 (Or.inl rfl) ⟨rfl, Or.inr ⟨(by first | exact ⟨h2, h19⟩ | exact fun z => z.1 h2 | exact fun z => absurd z.2 (by omega)), rfl⟩⟩
    · refine q_iconst hA dX10_isBetween_22 ?_
      refine q_goto (tgt := 27) hA dX10_isBetween_23 (by decide) ?_
      exact hR 27 _ _ _ dX10_isBetween_27 (Or.inr rfl) ⟨rfl, Or.inl ⟨(by first | exact ⟨h2, h19⟩ | exact fun z => z.1 h2 | exact fun z => absurd z.2 (by omega)), rfl⟩⟩
