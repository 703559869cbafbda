set_option maxHeartbeats 4000000 in
set_option maxRecDepth 100000 in
theorem zX10_in {g : Gm} {l : Launch} {D : Dat} {x : Int} {y : Int} {z : Int} (hx : -9223372036854775808 ≤ x ∧ x ≤ 9223372036854775807) (hy : -9223372036854775808 ≤ y ∧ y ≤ 9223372036854775807) (hz : -9223372036854775808 ≤ z ∧ z ≤ 9223372036854775807) : CrB g l 1 mX10_in [vL x, vL y, vL z] D (y ≤ x ∧ x ≤ z) := by
  unfold CrB
  refine Cr.ofZ (lo0 := [vL x, vN, vL y, vN, vL z, vN]) (by decide) (Nat.le_of_ble_eq_true rfl) rfl (fun J hA hR => ?_)
  refine q_lload_n (j := 0) hA rfl dX10_in_0 ?_
  refine q_lload_n (j := 2) hA rfl dX10_in_1 ?_
  refine q_lcmp hA (by omega) (by omega) dX10_in_2 ?_
  have hc2 := cmpL_spec x y
  refine q_if_lt (tgt := 17) hA (by omega) dX10_in_3 (by decide) (fun h3 => ?_) (fun h3 => ?_)
  · refine q_iconst hA dX10_in_17 ?_
    exact hR 18 _ _ _ dX10_in_18 (Or.inl rfl) ⟨rfl, Or.inr ⟨(by omega), rfl⟩⟩
  · refine q_lload_n (j := 0) hA rfl dX10_in_6 ?_
    refine q_lload (j := 4) hA rfl dX10_in_7 ?_
    refine q_lcmp hA (by omega) (by omega) dX10_in_9 ?_
    have hc9 := cmpL_spec x z
    refine q_if_gt (tgt := 17) hA (by omega) dX10_in_10 (by decide) (fun h10 => ?_) (fun h10 => ?_)
    · refine q_iconst hA dX10_in_17 ?_
      exact hR 18 _ _ _ dX10_in_18 (Or.inl rfl) ⟨rfl, Or.inr ⟨(by omega), rfl⟩⟩
    · refine q_iconst hA dX10_in_13 ?_
      refine q_goto (tgt := 18) hA dX10_in_14 (by decide) ?_
      exact hR 18 _ _ _ dX10_in_18 (Or.inr rfl) ⟨rfl, Or.inl ⟨(by omega), rfl⟩⟩
set_option maxHeartbeats 4000000 in
set_option maxRecDepth 100000 in
theorem zX10_kindBy {g : Gm} {l : Launch} {D : Dat} {x : Int} (rx : -2147483648 ≤ x ∧ x ≤ 2147483647) : CrP g l 1 mX10_kindBy [vI x] D (kindM x) := by
  unfold CrP
  refine Cr.ofI (lo0 := [vI x]) (by decide) (Nat.le_of_ble_eq_true rfl) rfl (fun J hA hR => ?_)
  refine q_iload_n (j := 0) hA rfl dX10_kindBy_0 ?_
  refine q_bipush hA (by decide) dX10_kindBy_1 ?_
  refine q_icmp_ne (tgt := 10) hA (by omega) (by omega) dX10_kindBy_3 (by decide) (fun h3 => ?_) (fun h3 => ?_)
  · refine q_iload_n (j := 0) hA rfl dX10_kindBy_10 ?_
    refine q_bipush hA (by decide) dX10_kindBy_11 ?_
    refine q_icmp_ne (tgt := 20) hA (by omega) (by omega) dX10_kindBy_13 (by decide) (fun h13 => ?_) (fun h13 => ?_)
    · refine q_iload_n (j := 0) hA rfl dX10_kindBy_20 ?_
      refine q_bipush hA (by decide) dX10_kindBy_21 ?_
      refine q_icmp_ne (tgt := 30) hA (by omega) (by omega) dX10_kindBy_23 (by decide) (fun h23 => ?_) (fun h23 => ?_)
      · refine q_iload_n (j := 0) hA rfl dX10_kindBy_30 ?_
        refine q_bipush hA (by decide) dX10_kindBy_31 ?_
        refine q_icmp_ne (tgt := 40) hA (by omega) (by omega) dX10_kindBy_33 (by decide) (fun h33 => ?_) (fun h33 => ?_)
        · refine q_iload_n (j := 0) hA rfl dX10_kindBy_40 ?_
          refine q_bipush hA (by decide) dX10_kindBy_41 ?_
          refine q_icmp_ne (tgt := 50) hA (by omega) (by omega) dX10_kindBy_43 (by decide) (fun h43 => ?_) (fun h43 => ?_)
          · refine q_iconst hA dX10_kindBy_50 ?_
            exact hR 51 _ _ _ dX10_kindBy_51 ⟨(by unfold kindM; first | rw [if_pos (by omega)] | rw [if_neg (by omega), if_pos (by omega)] | rw [if_neg (by omega), if_neg (by omega), if_pos (by omega)] | rw [if_neg (by omega), if_neg (by omega), if_neg (by omega), if_pos (by omega)] | rw [if_neg (by omega), if_neg (by omega), if_neg (by omega), if_neg (by omega), if_pos (by omega)] | rw [if_neg (by omega), if_neg (by omega), if_neg (by omega), if_neg (by omega), if_neg (by omega)]), rfl⟩
          · refine q_iconst hA dX10_kindBy_46 ?_
            refine q_goto (tgt := 51) hA dX10_kindBy_47 (by decide) ?_
            exact hR 51 _ _ _ dX10_kindBy_51 ⟨(by unfold kindM; first | rw [if_pos (by omega)] | rw [if_neg (by omega), if_pos (by omega)] | rw [if_neg (by omega), if_neg (by omega), if_pos (by omega)] | rw [if_neg (by omega), if_neg (by omega), if_neg (by omega), if_pos (by omega)] | rw [if_neg (by omega), if_neg (by omega), if_neg (by omega), if_neg (by omega), if_pos (by omega)] | rw [if_neg (by omega), if_neg (by omega), if_neg (by omega), if_neg (by omega), if_neg (by omega)]), rfl⟩
        · refine q_iconst hA dX10_kindBy_36 ?_
          refine q_goto (tgt := 51) hA dX10_kindBy_37 (by decide) ?_
          exact hR 51 _ _ _ dX10_kindBy_51 ⟨(by unfold kindM; first | rw [if_pos (by omega)] | rw [if_neg (by omega), if_pos (by omega)] | rw [if_neg (by omega), if_neg (by omega), if_pos (by omega)] | rw [if_neg (by omega), if_neg (by omega), if_neg (by omega), if_pos (by omega)] | rw [if_neg (by omega), if_neg (by omega), if_neg (by omega), if_neg (by omega), if_pos (by omega)] | rw [if_neg (by omega), if_neg (by omega), if_neg (by omega), if_neg (by omega), if_neg (by omega)]), rfl⟩
      · refine q_iconst hA dX10_kindBy_26 ?_
        refine q_goto (tgt := 51) hA dX10_kindBy_27 (by decide) ?_
        exact hR 51 _ _ _ dX10_kindBy_51 ⟨(by unfold kindM; first | rw [if_pos (by omega)] | rw [if_neg (by omega), if_pos (by omega)] | rw [if_neg (by omega), if_neg (by omega), if_pos (by omega)] | rw [if_neg (by omega), if_neg (by omega), if_neg (by omega), if_pos (by omega)] | rw [if_neg (by omega), if_neg (by omega), if_neg (by omega), if_neg (by omega), if_pos (by omega)] | rw [if_neg (by omega), if_neg (by omega), if_neg (by omega), if_neg (by omega), if_neg (by omega)]), rfl⟩
    · refine q_iconst hA dX10_kindBy_16 ?_
      refine q_goto (tgt := 51) hA dX10_kindBy_17 (by decide) ?_
      exact hR 51 _ _ _ dX10_kindBy_51 ⟨(by unfold kindM; first | rw [if_pos (by omega)] | rw [if_neg (by omega), if_pos (by omega)] | rw [if_neg (by omega), if_neg (by omega), if_pos (by omega)] | rw [if_neg (by omega), if_neg (by omega), if_neg (by omega), if_pos (by omega)] | rw [if_neg (by omega), if_neg (by omega), if_neg (by omega), if_neg (by omega), if_pos (by omega)] | rw [if_neg (by omega), if_neg (by omega), if_neg (by omega), if_neg (by omega), if_neg (by omega)]), rfl⟩
  · refine q_iconst hA dX10_kindBy_6 ?_
    refine q_goto (tgt := 51) hA dX10_kindBy_7 (by decide) ?_
    exact hR 51 _ _ _ dX10_kindBy_51 ⟨(by unfold kindM; first | rw [if_pos (by omega)] | rw [if_neg (by omega), if_pos (by omega)] | rw [if_neg (by omega), if_neg (by omega), if_pos (by omega)] | rw [if_neg (by omega), if_neg (by omega), if_neg (by omega), if_pos (by omega)] | rw [if_neg (by omega), if_neg (by omega), if_neg (by omega), if_neg (by omega), if_pos (by omega)] | rw [if_neg (by omega), if_neg (by omega), if_neg (by omega), if_neg (by omega), if_neg (by omega)]), rfl⟩
set_option maxHeartbeats 4000000 in
set_option maxRecDepth 100000 in
theorem zX10_isBetween {g : Gm} {l : Launch} {D : Dat} {c : Int} {a : Int} {b : Int} {n : Int} (hn : 0 < n ∧ n ≤ 8) (hc : 0 ≤ c ∧ c < n) (ha : 0 ≤ a ∧ a < n) (hb : 0 ≤ b ∧ b < n) : CrB g l 1 mX10_isBetween [vI c, vI a, vI b, vI n] D (btw n a b c) := by
  unfold CrB
  refine Cr.ofZ (lo0 := [vI c, vI a, vI b, vI n]) (by decide) (Nat.le_of_ble_eq_true rfl) rfl (fun J hA hR => ?_)
  refine q_iload_n (j := 0) hA rfl dX10_isBetween_0 ?_
  refine q_iload_n (j := 1) hA rfl dX10_isBetween_1 ?_
  refine q_icmp_eq (tgt := 26) hA (by omega) (by omega) dX10_isBetween_2 (by decide) (fun h2 => ?_) (fun h2 => ?_)
  · refine q_iconst hA dX10_isBetween_26 ?_
    exact hR 27 _ _ _ dX10_isBetween_27 (Or.inl rfl) ⟨rfl, Or.inr ⟨(by first | exact ⟨h2, h19⟩ | exact fun z => z.1 h2 | exact fun z => absurd z.2 (by omega)), rfl⟩⟩
  · refine q_iload_n (j := 0) hA rfl dX10_isBetween_5 ?_
    refine q_iload_n (j := 1) hA rfl dX10_isBetween_6 ?_
    refine q_isub hA dX10_isBetween_7 ?_
    refine q_iload_n (j := 3) hA rfl dX10_isBetween_8 ?_
    refine q_iadd hA dX10_isBetween_9 ?_
    refine q_iload_n (j := 3) hA rfl dX10_isBetween_10 ?_
    refine q_irem hA (by omega) (by omega) dX10_isBetween_11 ?_
    refine q_iload_n (j := 2) hA rfl dX10_isBetween_12 ?_
    refine q_iload_n (j := 1) hA rfl dX10_isBetween_13 ?_
    refine q_isub hA dX10_isBetween_14 ?_
    refine q_iload_n (j := 3) hA rfl dX10_isBetween_15 ?_
    refine q_iadd hA dX10_isBetween_16 ?_
    refine q_iload_n (j := 3) hA rfl dX10_isBetween_17 ?_
    refine q_irem hA (by omega) (by omega) dX10_isBetween_18 ?_
    have m1 := Int.emod_nonneg (c - a + n) (show n ≠ 0 by omega)
    have m2 := Int.emod_lt_of_pos (c - a + n) (show 0 < n by omega)
    have m3 := Int.emod_nonneg (b - a + n) (show n ≠ 0 by omega)
    have m4 := Int.emod_lt_of_pos (b - a + n) (show 0 < n by omega)
    refine q_icmp_ge (tgt := 26) hA (by omega) (by omega) dX10_isBetween_19 (by decide) (fun h19 => ?_) (fun h19 => ?_)
    · refine q_iconst hA dX10_isBetween_26 ?_
      exact hR 27 _ _ _ dX10_isBetween_27 (Or.inl rfl) ⟨rfl, Or.inr ⟨(by first | exact ⟨h2, h19⟩ | exact fun z => z.1 h2 | exact fun z => absurd z.2 (by omega)), rfl⟩⟩
    · refine q_iconst hA dX10_isBetween_22 ?_
      refine q_goto (tgt := 27) hA dX10_isBetween_23 (by decide) ?_
      exact hR 27 _ _ _ dX10_isBetween_27 (Or.inr rfl) ⟨rfl, Or.inl ⟨(by first | exact ⟨h2, h19⟩ | exact fun z => z.1 h2 | exact fun z => absurd z.2 (by omega)), rfl⟩⟩
set_option maxHeartbeats 4000000 in
set_option maxRecDepth 100000 in
theorem zX10_third_L7 {g : Gm} {l : Launch} {D : Dat} {c w : Nat} (hcw : Sx[c]? = some (100, w) ∧ w < 20000) {at_ : Int} {n : Int} {a : Int} {b : Int} (hat : 0 ≤ at_ ∧ at_ + 8 ≤ w) (hn : 0 < n ∧ n ≤ 8) (hlk : lkOk D c at_) (ha : 0 ≤ a ∧ a < n) (hb : 0 ≤ b ∧ b < n)   {J : JT} (hA : AX g l RX10 cX10_third 7 2 J) (hR : ReI cX10_third (fun v D1 => v = (thMk (fun p => D c (at_ + p)) n a b n.toNat) ∧ D1 = D) J) : ∀ (fuel : Nat) (acc : Int) (k : Int), (0 ≤ k ∧ k ≤ n) → (acc = thMk (fun p => D c (at_ + p)) n a b k.toNat) → n - k < (fuel : Int) → J 7 [vR c, vI at_, vI n, vI a, vI b, vI acc, vI k] [] D := by
  intro fuel
  induction fuel with
  | zero => intro acc k hk hv hMs; exact absurd hMs (by omega)
  | succ fuel ih =>
    intro acc k hk hv hMs
    have hw := hcw.2
    have l1 := hlk a (by omega) (by omega)
    have l2 := hlk b (by omega) (by omega)
    refine q_iload (j := 6) hA rfl dX10_third_7 ?_
    refine q_iload_n (j := 2) hA rfl dX10_third_9 ?_
    refine q_icmp_ge (tgt := 60) hA (by omega) (by omega) dX10_third_10 (by decide) (fun h10 => ?_) (fun h10 => ?_)
    · refine q_iload (j := 5) hA rfl dX10_third_60 ?_
      exact hR 62 _ _ _ dX10_third_62 ⟨(by rw [hv, show k = n by omega]), rfl⟩
    · refine q_iload (j := 6) hA rfl dX10_third_13 ?_
      refine q_iload_n (j := 3) hA rfl dX10_third_15 ?_
      refine q_iload (j := 4) hA rfl dX10_third_16 ?_
      refine q_iload_n (j := 2) hA rfl dX10_third_18 ?_
      refine q_callSB (As := [vI k, vI a, vI b, vI n]) (st := []) hA l_X10_104 kX10_isBetween (zX10_isBetween (by first | assumption | omega | rfl) (by first | assumption | omega | rfl) (by first | assumption | omega | rfl) (by first | assumption | omega | rfl)) dX10_third_19 rfl rfl (Nat.le_of_ble_eq_true rfl) (by omega) (fun h19 => ?_) (fun h19 => ?_)
      · refine q_if_eq (tgt := 50) hA (by decide) dX10_third_22 (by decide) (fun h22 => absurd h22 (by decide)) (fun h22 => ?_)
        refine q_aload_n (j := 0) hA rfl dX10_third_25 ?_
        refine q_iload_n (j := 1) hA rfl dX10_third_26 ?_
        refine q_iload_n (j := 3) hA rfl dX10_third_27 ?_
        refine q_iadd hA dX10_third_28 ?_
        refine q_iald (x := D c (at_ + a)) hA dX10_third_29 hcw.1 (by omega) (by omega) rfl ?_
        refine q_aload_n (j := 0) hA rfl dX10_third_30 ?_
        refine q_iload_n (j := 1) hA rfl dX10_third_31 ?_
        refine q_iload (j := 4) hA rfl dX10_third_32 ?_
        refine q_iadd hA dX10_third_34 ?_
        refine q_iald (x := D c (at_ + b)) hA dX10_third_35 hcw.1 (by omega) (by omega) rfl ?_
        refine q_iand hA dX10_third_36 ?_
        rw [show iAnd (D c (at_ + a)) (D c (at_ + b)) = band (D c (at_ + a)) (D c (at_ + b)) from iAndB l1 l2]
        refine q_iconst hA dX10_third_37 ?_
        refine q_iload (j := 6) hA rfl dX10_third_38 ?_
        refine q_ishl hA dX10_third_40 ?_
        refine q_iand hA dX10_third_41 ?_
        rw [show iAnd (band (D c (at_ + a)) (D c (at_ + b))) (iShl 1 k) = if tb (D c (at_ + a)) k = true ∧ tb (D c (at_ + b)) k = true then pw k else 0 from bit4 l1 (by omega)]
        have l3 := bit4_in (P := tb (D c (at_ + a)) k = true ∧ tb (D c (at_ + b)) k = true) (k := k) (by omega)
        refine q_if_eq (tgt := 50) hA (by omega) dX10_third_42 (by decide) (fun h42 => ?_) (fun h42 => ?_)
        · refine q_iload (j := 5) hA rfl dX10_third_50 ?_
          refine q_istore (j := 5) (lo2 := [vR c, vI at_, vI n, vI a, vI b, vI acc, vI k]) hA dX10_third_52 (by decide) rfl rfl ?_
          refine q_iinc (j := 6) (lo2 := [vR c, vI at_, vI n, vI a, vI b, vI acc, vI (k + 1)]) hA dX10_third_54 rfl (by decide) rfl rfl ?_
          refine q_goto (tgt := 7) hA dX10_third_57 (by decide) ?_
          exact ih _ _ (by omega) (by first | exact thMk_y (L := fun p => D c (at_ + p)) (by omega) h19 h42 | exact thMk_z (L := fun p => D c (at_ + p)) (by omega) h42 hv | exact thMk_n (L := fun p => D c (at_ + p)) (by omega) h19 hv) (by omega)
        · refine q_iload (j := 6) hA rfl dX10_third_45 ?_
          refine q_goto (tgt := 52) hA dX10_third_47 (by decide) ?_
          refine q_istore (j := 5) (lo2 := [vR c, vI at_, vI n, vI a, vI b, vI k, vI k]) hA dX10_third_52 (by decide) rfl rfl ?_
          refine q_iinc (j := 6) (lo2 := [vR c, vI at_, vI n, vI a, vI b, vI k, vI (k + 1)]) hA dX10_third_54 rfl (by decide) rfl rfl ?_
          refine q_goto (tgt := 7) hA dX10_third_57 (by decide) ?_
          exact ih _ _ (by omega) (by first | exact thMk_y (L := fun p => D c (at_ + p)) (by omega) h19 h42 | exact thMk_z (L := fun p => D c (at_ + p)) (by omega) h42 hv | exact thMk_n (L := fun p => D c (at_ + p)) (by omega) h19 hv) (by omega)
      · refine q_if_eq (tgt := 50) hA (by decide) dX10_third_22 (by decide) (fun h22 => ?_) (fun h22 => absurd h22 (by decide))
        refine q_iload (j := 5) hA rfl dX10_third_50 ?_
        refine q_istore (j := 5) (lo2 := [vR c, vI at_, vI n, vI a, vI b, vI acc, vI k]) hA dX10_third_52 (by decide) rfl rfl ?_
        refine q_iinc (j := 6) (lo2 := [vR c, vI at_, vI n, vI a, vI b, vI acc, vI (k + 1)]) hA dX10_third_54 rfl (by decide) rfl rfl ?_
        refine q_goto (tgt := 7) hA dX10_third_57 (by decide) ?_
        exact ih _ _ (by omega) (by first | exact thMk_y (L := fun p => D c (at_ + p)) (by omega) h19 h42 | exact thMk_z (L := fun p => D c (at_ + p)) (by omega) h42 hv | exact thMk_n (L := fun p => D c (at_ + p)) (by omega) h19 hv) (by omega)
set_option maxHeartbeats 4000000 in
set_option maxRecDepth 100000 in
theorem zX10_third {g : Gm} {l : Launch} {D : Dat} {c w : Nat} (hcw : Sx[c]? = some (100, w) ∧ w < 20000) {at_ : Int} {n : Int} {a : Int} {b : Int} (hat : 0 ≤ at_ ∧ at_ + 8 ≤ w) (hn : 0 < n ∧ n ≤ 8) (hlk : lkOk D c at_) (ha : 0 ≤ a ∧ a < n) (hb : 0 ≤ b ∧ b < n) : CrP g l 2 mX10_third [vR c, vI at_, vI n, vI a, vI b] D (thMk (fun p => D c (at_ + p)) n a b n.toNat) := by
  unfold CrP
  refine Cr.ofI (lo0 := [vR c, vI at_, vI n, vI a, vI b, vN, vN]) (by decide) (Nat.le_of_ble_eq_true rfl) rfl (fun J hA hR => ?_)
  have hw := hcw.2
  refine q_bipush hA (by decide) dX10_third_0 ?_
  refine q_istore (j := 5) (lo2 := [vR c, vI at_, vI n, vI a, vI b, vI (-4), vN]) hA dX10_third_2 (by decide) rfl rfl ?_
  refine q_iconst hA dX10_third_4 ?_
  refine q_istore (j := 6) (lo2 := [vR c, vI at_, vI n, vI a, vI b, vI (-4), vI 0]) hA dX10_third_5 (by decide) rfl rfl ?_
  refine zX10_third_L7 (D := D) (c := c) (w := w) (at_ := at_) (n := n) (a := a) (b := b) hcw hat hn hlk ha hb  hA hR 1000 _ _ (by omega) (by rfl) (by omega)
set_option maxHeartbeats 4000000 in
set_option maxRecDepth 100000 in
theorem zX10_brought {g : Gm} {l : Launch} {D : Dat} {c w : Nat} (hcw : Sx[c]? = some (100, w) ∧ w < 20000) {at_ : Int} {n : Int} {f : Int} {b : Int} {s : Int} (hat : 0 ≤ at_ ∧ at_ + 8 ≤ w) (hn : 0 < n ∧ n ≤ 8) (hlk : lkOk D c at_) (hf : 0 ≤ f ∧ f < n) (hb : 0 ≤ b ∧ b < n) (rs : -2147483648 ≤ s ∧ s ≤ 2147483647) : CrP g l 3 mX10_brought [vR c, vI at_, vI n, vI f, vI b, vI s] D (brM (fun p => D c (at_ + p)) n f b s) := by
  unfold CrP
  refine Cr.ofI (lo0 := [vR c, vI at_, vI n, vI f, vI b, vI s]) (by decide) (Nat.le_of_ble_eq_true rfl) rfl (fun J hA hR => ?_)
  refine q_iload (j := 5) hA rfl dX10_brought_0 ?_
  refine q_if_ne (tgt := 17) hA (by omega) dX10_brought_2 (by decide) (fun h2 => ?_) (fun h2 => ?_)
  · refine q_aload_n (j := 0) hA rfl dX10_brought_17 ?_
    refine q_iload_n (j := 1) hA rfl dX10_brought_18 ?_
    refine q_iload_n (j := 2) hA rfl dX10_brought_19 ?_
    refine q_iload (j := 4) hA rfl dX10_brought_20 ?_
    refine q_iload_n (j := 3) hA rfl dX10_brought_22 ?_
    refine q_callSP (As := [vR c, vI at_, vI n, vI b, vI f]) (st := []) hA l_X10_151 kX10_third (zX10_third (by first | assumption | omega | rfl) (by first | assumption | omega | rfl) (by first | assumption | omega | rfl) (by first | assumption | omega | rfl) (by first | assumption | omega | rfl) (by first | assumption | omega | rfl)) dX10_brought_23 rfl rfl (Nat.le_of_ble_eq_true rfl) (by omega) ?_
    refine q_nmI (fun v23 ev23 => ?_)
    exact hR 26 _ _ _ dX10_brought_26 ⟨(by unfold brM; first | (rw [if_pos (by omega)]; assumption) | (rw [if_neg (by omega)]; assumption)), rfl⟩
  · refine q_aload_n (j := 0) hA rfl dX10_brought_5 ?_
    refine q_iload_n (j := 1) hA rfl dX10_brought_6 ?_
    refine q_iload_n (j := 2) hA rfl dX10_brought_7 ?_
    refine q_iload_n (j := 3) hA rfl dX10_brought_8 ?_
    refine q_iload (j := 4) hA rfl dX10_brought_9 ?_
    refine q_callSP (As := [vR c, vI at_, vI n, vI f, vI b]) (st := []) hA l_X10_151 kX10_third (zX10_third (by first | assumption | omega | rfl) (by first | assumption | omega | rfl) (by first | assumption | omega | rfl) (by first | assumption | omega | rfl) (by first | assumption | omega | rfl) (by first | assumption | omega | rfl)) dX10_brought_11 rfl rfl (Nat.le_of_ble_eq_true rfl) (by omega) ?_
    refine q_nmI (fun v11 ev11 => ?_)
    refine q_goto (tgt := 26) hA dX10_brought_14 (by decide) ?_
    exact hR 26 _ _ _ dX10_brought_26 ⟨(by unfold brM; first | (rw [if_pos (by omega)]; assumption) | (rw [if_neg (by omega)]; assumption)), rfl⟩
set_option maxHeartbeats 4000000 in
set_option maxRecDepth 100000 in
theorem zX10_effortOf {g : Gm} {l : Launch} {D : Dat} {k : Int} {s : Int} (hk : 0 ≤ k ∧ k ≤ 5) (hs : -2147483648 ≤ s ∧ s ≤ 2147483647 ∧ -2147483000 ≤ s) : CrP g l 1 mX10_effortOf [vI k, vI s] D (effK k s) := by
  unfold CrP
  refine Cr.ofI (lo0 := [vI k, vI s, vN]) (by decide) (Nat.le_of_ble_eq_true rfl) rfl (fun J hA hR => ?_)
  refine q_iload_n (j := 1) hA rfl dX10_effortOf_0 ?_
  refine q_iconst hA dX10_effortOf_1 ?_
  refine q_icmp_le (tgt := 9) hA (by omega) (by omega) dX10_effortOf_2 (by decide) (fun h2 => ?_) (fun h2 => ?_)
  · refine q_iconst hA dX10_effortOf_9 ?_
    refine q_iload_n (j := 1) hA rfl dX10_effortOf_10 ?_
    refine q_isub hA dX10_effortOf_11 ?_
    refine q_istore_n (j := 2) (lo2 := [vI k, vI s, vI (4 - s)]) hA dX10_effortOf_12 (by decide) rfl rfl ?_
    refine q_iload_n (j := 0) hA rfl dX10_effortOf_13 ?_
    refine q_iconst hA dX10_effortOf_14 ?_
    refine q_icmp_ne (tgt := 22) hA (by omega) (by omega) dX10_effortOf_15 (by decide) (fun h15 => ?_) (fun h15 => ?_)
    · refine q_iload_n (j := 0) hA rfl dX10_effortOf_22 ?_
      refine q_iconst hA dX10_effortOf_23 ?_
      refine q_icmp_ne (tgt := 31) hA (by omega) (by omega) dX10_effortOf_24 (by decide) (fun h24 => ?_) (fun h24 => ?_)
      · refine q_iload_n (j := 0) hA rfl dX10_effortOf_31 ?_
        refine q_iconst hA dX10_effortOf_32 ?_
        refine q_icmp_ne (tgt := 40) hA (by omega) (by omega) dX10_effortOf_33 (by decide) (fun h33 => ?_) (fun h33 => ?_)
        · refine q_iconst hA dX10_effortOf_40 ?_
          exact hR 41 _ _ _ dX10_effortOf_41 ⟨(by unfold effK; first | rw [if_pos (by omega)] | rw [if_neg (by omega), if_pos (by omega)] | (rw [if_neg (by omega), if_neg (by omega), if_pos (by omega), if_pos (by omega)]) | (rw [if_neg (by omega), if_neg (by omega), if_pos (by omega), if_neg (by omega)]) | rw [if_neg (by omega), if_neg (by omega), if_neg (by omega)]), rfl⟩
        · refine q_iload_n (j := 2) hA rfl dX10_effortOf_36 ?_
          refine q_goto (tgt := 41) hA dX10_effortOf_37 (by decide) ?_
          exact hR 41 _ _ _ dX10_effortOf_41 ⟨(by unfold effK; first | rw [if_pos (by omega)] | rw [if_neg (by omega), if_pos (by omega)] | (rw [if_neg (by omega), if_neg (by omega), if_pos (by omega), if_pos (by omega)]) | (rw [if_neg (by omega), if_neg (by omega), if_pos (by omega), if_neg (by omega)]) | rw [if_neg (by omega), if_neg (by omega), if_neg (by omega)]), rfl⟩
      · refine q_iconst hA dX10_effortOf_27 ?_
        refine q_goto (tgt := 41) hA dX10_effortOf_28 (by decide) ?_
        exact hR 41 _ _ _ dX10_effortOf_41 ⟨(by unfold effK; first | rw [if_pos (by omega)] | rw [if_neg (by omega), if_pos (by omega)] | (rw [if_neg (by omega), if_neg (by omega), if_pos (by omega), if_pos (by omega)]) | (rw [if_neg (by omega), if_neg (by omega), if_pos (by omega), if_neg (by omega)]) | rw [if_neg (by omega), if_neg (by omega), if_neg (by omega)]), rfl⟩
    · refine q_iconst hA dX10_effortOf_18 ?_
      refine q_goto (tgt := 41) hA dX10_effortOf_19 (by decide) ?_
      exact hR 41 _ _ _ dX10_effortOf_41 ⟨(by unfold effK; first | rw [if_pos (by omega)] | rw [if_neg (by omega), if_pos (by omega)] | (rw [if_neg (by omega), if_neg (by omega), if_pos (by omega), if_pos (by omega)]) | (rw [if_neg (by omega), if_neg (by omega), if_pos (by omega), if_neg (by omega)]) | rw [if_neg (by omega), if_neg (by omega), if_neg (by omega)]), rfl⟩
  · refine q_iconst hA dX10_effortOf_5 ?_
    refine q_goto (tgt := 12) hA dX10_effortOf_6 (by decide) ?_
    refine q_istore_n (j := 2) (lo2 := [vI k, vI s, vI 1]) hA dX10_effortOf_12 (by decide) rfl rfl ?_
    refine q_iload_n (j := 0) hA rfl dX10_effortOf_13 ?_
    refine q_iconst hA dX10_effortOf_14 ?_
    refine q_icmp_ne (tgt := 22) hA (by omega) (by omega) dX10_effortOf_15 (by decide) (fun h15 => ?_) (fun h15 => ?_)
    · refine q_iload_n (j := 0) hA rfl dX10_effortOf_22 ?_
      refine q_iconst hA dX10_effortOf_23 ?_
      refine q_icmp_ne (tgt := 31) hA (by omega) (by omega) dX10_effortOf_24 (by decide) (fun h24 => ?_) (fun h24 => ?_)
      · refine q_iload_n (j := 0) hA rfl dX10_effortOf_31 ?_
        refine q_iconst hA dX10_effortOf_32 ?_
        refine q_icmp_ne (tgt := 40) hA (by omega) (by omega) dX10_effortOf_33 (by decide) (fun h33 => ?_) (fun h33 => ?_)
        · refine q_iconst hA dX10_effortOf_40 ?_
          exact hR 41 _ _ _ dX10_effortOf_41 ⟨(by unfold effK; first | rw [if_pos (by omega)] | rw [if_neg (by omega), if_pos (by omega)] | (rw [if_neg (by omega), if_neg (by omega), if_pos (by omega), if_pos (by omega)]) | (rw [if_neg (by omega), if_neg (by omega), if_pos (by omega), if_neg (by omega)]) | rw [if_neg (by omega), if_neg (by omega), if_neg (by omega)]), rfl⟩
        · refine q_iload_n (j := 2) hA rfl dX10_effortOf_36 ?_
          refine q_goto (tgt := 41) hA dX10_effortOf_37 (by decide) ?_
          exact hR 41 _ _ _ dX10_effortOf_41 ⟨(by unfold effK; first | rw [if_pos (by omega)] | rw [if_neg (by omega), if_pos (by omega)] | (rw [if_neg (by omega), if_neg (by omega), if_pos (by omega), if_pos (by omega)]) | (rw [if_neg (by omega), if_neg (by omega), if_pos (by omega), if_neg (by omega)]) | rw [if_neg (by omega), if_neg (by omega), if_neg (by omega)]), rfl⟩
      · refine q_iconst hA dX10_effortOf_27 ?_
        refine q_goto (tgt := 41) hA dX10_effortOf_28 (by decide) ?_
        exact hR 41 _ _ _ dX10_effortOf_41 ⟨(by unfold effK; first | rw [if_pos (by omega)] | rw [if_neg (by omega), if_pos (by omega)] | (rw [if_neg (by omega), if_neg (by omega), if_pos (by omega), if_pos (by omega)]) | (rw [if_neg (by omega), if_neg (by omega), if_pos (by omega), if_neg (by omega)]) | rw [if_neg (by omega), if_neg (by omega), if_neg (by omega)]), rfl⟩
    · refine q_iconst hA dX10_effortOf_18 ?_
      refine q_goto (tgt := 41) hA dX10_effortOf_19 (by decide) ?_
      exact hR 41 _ _ _ dX10_effortOf_41 ⟨(by unfold effK; first | rw [if_pos (by omega)] | rw [if_neg (by omega), if_pos (by omega)] | (rw [if_neg (by omega), if_neg (by omega), if_pos (by omega), if_pos (by omega)]) | (rw [if_neg (by omega), if_neg (by omega), if_pos (by omega), if_neg (by omega)]) | rw [if_neg (by omega), if_neg (by omega), if_neg (by omega)]), rfl⟩
set_option maxHeartbeats 4000000 in
set_option maxRecDepth 100000 in
theorem zX10_wears {g : Gm} {l : Launch} {D : Dat} {k : Int} (hk : 0 ≤ k ∧ k ≤ 5) : CrP g l 1 mX10_wears [vI k] D (wearK k) := by
  unfold CrP
  refine Cr.ofI (lo0 := [vI k]) (by decide) (Nat.le_of_ble_eq_true rfl) rfl (fun J hA hR => ?_)
  refine q_iload_n (j := 0) hA rfl dX10_wears_0 ?_
  refine q_iconst hA dX10_wears_1 ?_
  refine q_icmp_le (tgt := 9) hA (by omega) (by omega) dX10_wears_2 (by decide) (fun h2 => ?_) (fun h2 => ?_)
  · refine q_iload_n (j := 0) hA rfl dX10_wears_9 ?_
    refine q_iconst hA dX10_wears_10 ?_
    refine q_icmp_ne (tgt := 18) hA (by omega) (by omega) dX10_wears_11 (by decide) (fun h11 => ?_) (fun h11 => ?_)
    · refine q_iconst hA dX10_wears_18 ?_
      exact hR 19 _ _ _ dX10_wears_19 ⟨(by unfold wearK; first | rw [if_pos (by omega)] | rw [if_neg (by omega), if_pos (by omega)] | rw [if_neg (by omega), if_neg (by omega)]), rfl⟩
    · refine q_iconst hA dX10_wears_14 ?_
      refine q_goto (tgt := 19) hA dX10_wears_15 (by decide) ?_
      exact hR 19 _ _ _ dX10_wears_19 ⟨(by unfold wearK; first | rw [if_pos (by omega)] | rw [if_neg (by omega), if_pos (by omega)] | rw [if_neg (by omega), if_neg (by omega)]), rfl⟩
  · refine q_iconst hA dX10_wears_5 ?_
    refine q_goto (tgt := 19) hA dX10_wears_6 (by decide) ?_
    exact hR 19 _ _ _ dX10_wears_19 ⟨(by unfold wearK; first | rw [if_pos (by omega)] | rw [if_neg (by omega), if_pos (by omega)] | rw [if_neg (by omega), if_neg (by omega)]), rfl⟩
set_option maxHeartbeats 4000000 in
set_option maxRecDepth 100000 in
theorem zX10_isOf {g : Gm} {l : Launch} {D : Dat} {k : Int} {o : Int} (hk : 0 ≤ k ∧ k ≤ 5) (ho : 0 ≤ o ∧ o ≤ 5) : CrB g l 1 mX10_isOf [vI k, vI o] D (o = 0 ∨ k = o ∨ (o = 1 ∧ (k = 2 ∨ k = 3)) ∨ (o = 4 ∧ k = 5)) := by
  unfold CrB
  refine Cr.ofZ (lo0 := [vI k, vI o]) (by decide) (Nat.le_of_ble_eq_true rfl) rfl (fun J hA hR => ?_)
  refine q_iload_n (j := 1) hA rfl dX10_isOf_0 ?_
  refine q_if_eq (tgt := 34) hA (by omega) dX10_isOf_1 (by decide) (fun h1 => ?_) (fun h1 => ?_)
  · refine q_iconst hA dX10_isOf_34 ?_
    refine q_goto (tgt := 39) hA dX10_isOf_35 (by decide) ?_
    exact hR 39 _ _ _ dX10_isOf_39 (Or.inr rfl) ⟨rfl, Or.inl ⟨(by omega), rfl⟩⟩
  · refine q_iload_n (j := 0) hA rfl dX10_isOf_4 ?_
    refine q_iload_n (j := 1) hA rfl dX10_isOf_5 ?_
    refine q_icmp_eq (tgt := 34) hA (by omega) (by omega) dX10_isOf_6 (by decide) (fun h6 => ?_) (fun h6 => ?_)
    · refine q_iconst hA dX10_isOf_34 ?_
      refine q_goto (tgt := 39) hA dX10_isOf_35 (by decide) ?_
      exact hR 39 _ _ _ dX10_isOf_39 (Or.inr rfl) ⟨rfl, Or.inl ⟨(by omega), rfl⟩⟩
    · refine q_iload_n (j := 1) hA rfl dX10_isOf_9 ?_
      refine q_iconst hA dX10_isOf_10 ?_
      refine q_icmp_ne (tgt := 24) hA (by omega) (by omega) dX10_isOf_11 (by decide) (fun h11 => ?_) (fun h11 => ?_)
      · refine q_iload_n (j := 1) hA rfl dX10_isOf_24 ?_
        refine q_iconst hA dX10_isOf_25 ?_
        refine q_icmp_ne (tgt := 38) hA (by omega) (by omega) dX10_isOf_26 (by decide) (fun h26 => ?_) (fun h26 => ?_)
        · refine q_iconst hA dX10_isOf_38 ?_
          exact hR 39 _ _ _ dX10_isOf_39 (Or.inl rfl) ⟨rfl, Or.inr ⟨(by omega), rfl⟩⟩
        · refine q_iload_n (j := 0) hA rfl dX10_isOf_29 ?_
          refine q_iconst hA dX10_isOf_30 ?_
          refine q_icmp_ne (tgt := 38) hA (by omega) (by omega) dX10_isOf_31 (by decide) (fun h31 => ?_) (fun h31 => ?_)
          · refine q_iconst hA dX10_isOf_38 ?_
            exact hR 39 _ _ _ dX10_isOf_39 (Or.inl rfl) ⟨rfl, Or.inr ⟨(by omega), rfl⟩⟩
          · refine q_iconst hA dX10_isOf_34 ?_
            refine q_goto (tgt := 39) hA dX10_isOf_35 (by decide) ?_
            exact hR 39 _ _ _ dX10_isOf_39 (Or.inr rfl) ⟨rfl, Or.inl ⟨(by omega), rfl⟩⟩
      · refine q_iload_n (j := 0) hA rfl dX10_isOf_14 ?_
        refine q_iconst hA dX10_isOf_15 ?_
        refine q_icmp_eq (tgt := 34) hA (by omega) (by omega) dX10_isOf_16 (by decide) (fun h16 => ?_) (fun h16 => ?_)
        · refine q_iconst hA dX10_isOf_34 ?_
          refine q_goto (tgt := 39) hA dX10_isOf_35 (by decide) ?_
          exact hR 39 _ _ _ dX10_isOf_39 (Or.inr rfl) ⟨rfl, Or.inl ⟨(by omega), rfl⟩⟩
        · refine q_iload_n (j := 0) hA rfl dX10_isOf_19 ?_
          refine q_iconst hA dX10_isOf_20 ?_
          refine q_icmp_eq (tgt := 34) hA (by omega) (by omega) dX10_isOf_21 (by decide) (fun h21 => ?_) (fun h21 => ?_)
          · refine q_iconst hA dX10_isOf_34 ?_
            refine q_goto (tgt := 39) hA dX10_isOf_35 (by decide) ?_
            exact hR 39 _ _ _ dX10_isOf_39 (Or.inr rfl) ⟨rfl, Or.inl ⟨(by omega), rfl⟩⟩
          · refine q_iload_n (j := 1) hA rfl dX10_isOf_24 ?_
            refine q_iconst hA dX10_isOf_25 ?_
            refine q_icmp_ne (tgt := 38) hA (by omega) (by omega) dX10_isOf_26 (by decide) (fun h26 => ?_) (fun h26 => ?_)
            · refine q_iconst hA dX10_isOf_38 ?_
              exact hR 39 _ _ _ dX10_isOf_39 (Or.inl rfl) ⟨rfl, Or.inr ⟨(by omega), rfl⟩⟩
            · refine q_iload_n (j := 0) hA rfl dX10_isOf_29 ?_
              refine q_iconst hA dX10_isOf_30 ?_
              refine q_icmp_ne (tgt := 38) hA (by omega) (by omega) dX10_isOf_31 (by decide) (fun h31 => ?_) (fun h31 => ?_)
              · refine q_iconst hA dX10_isOf_38 ?_
                exact hR 39 _ _ _ dX10_isOf_39 (Or.inl rfl) ⟨rfl, Or.inr ⟨(by omega), rfl⟩⟩
              · refine q_iconst hA dX10_isOf_34 ?_
                refine q_goto (tgt := 39) hA dX10_isOf_35 (by decide) ?_
                exact hR 39 _ _ _ dX10_isOf_39 (Or.inr rfl) ⟨rfl, Or.inl ⟨(by omega), rfl⟩⟩
set_option maxHeartbeats 4000000 in
set_option maxRecDepth 100000 in
theorem zX10_isThere {g : Gm} {l : Launch} {D : Dat} (ho : mOk D 284) : CrB g l 1 mX10_isThere [vR 283] D (0 < D 284 0) := by
  unfold CrB
  refine Cr.ofZ (lo0 := [vR 283]) (by decide) (Nat.le_of_ble_eq_true rfl) rfl (fun J hA hR => ?_)
  have hn := ho.n
  have hf := ho.f
  have hb := ho.b
  refine q_aload_n (j := 0) hA rfl dX10_isThere_0 ?_
  refine q_getR hA f_X10_7 dX10_isThere_1 sx_283 (by decide) fx_283_0 ?_
  refine q_iconst hA dX10_isThere_4 ?_
  refine q_iald (x := D 284 0) hA dX10_isThere_5 sx_284 (by omega) (by decide) rfl ?_
  refine q_if_le (tgt := 13) hA (by omega) dX10_isThere_6 (by decide) (fun h6 => ?_) (fun h6 => ?_)
  · refine q_iconst hA dX10_isThere_13 ?_
    exact hR 14 _ _ _ dX10_isThere_14 (Or.inl rfl) ⟨rfl, Or.inr ⟨(by omega), rfl⟩⟩
  · refine q_iconst hA dX10_isThere_9 ?_
    refine q_goto (tgt := 14) hA dX10_isThere_10 (by decide) ?_
    exact hR 14 _ _ _ dX10_isThere_14 (Or.inr rfl) ⟨rfl, Or.inl ⟨(by omega), rfl⟩⟩
set_option maxHeartbeats 4000000 in
set_option maxRecDepth 100000 in
theorem zX10_isPicture {g : Gm} {l : Launch} {D : Dat} (ho : mOk D 284) {p : Int} (rp : -2147483648 ≤ p ∧ p ≤ 2147483647) : CrB g l 2 mX10_isPicture [vR 283, vI p] D (0 ≤ p ∧ p < D 284 0) := by
  unfold CrB
  refine Cr.ofZ (lo0 := [vR 283, vI p]) (by decide) (Nat.le_of_ble_eq_true rfl) rfl (fun J hA hR => ?_)
  have hn := ho.n
  have hf := ho.f
  have hb := ho.b
  refine q_iload_n (j := 1) hA rfl dX10_isPicture_0 ?_
  refine q_i2l hA (by omega) dX10_isPicture_1 ?_
  refine q_lconst hA dX10_isPicture_2 ?_
  show J _ _ (vL 0 :: _) _
  refine q_aload_n (j := 0) hA rfl dX10_isPicture_3 ?_
  refine q_getR hA f_X10_7 dX10_isPicture_4 sx_283 (by decide) fx_283_0 ?_
  refine q_iconst hA dX10_isPicture_7 ?_
  refine q_iald (x := D 284 0) hA dX10_isPicture_8 sx_284 (by omega) (by decide) rfl ?_
  refine q_iconst hA dX10_isPicture_9 ?_
  refine q_isub hA dX10_isPicture_10 ?_
  refine q_i2l hA (by omega) dX10_isPicture_11 ?_
  refine q_callSB (As := [vL p, vL 0, vL ((D 284 0) - 1)]) (st := []) hA l_X10_77 kX10_in (zX10_in (by first | assumption | omega | rfl) (by first | assumption | omega | rfl) (by first | assumption | omega | rfl)) dX10_isPicture_12 rfl rfl (Nat.le_of_ble_eq_true rfl) (by omega) (fun h12 => ?_) (fun h12 => ?_)
  · exact hR 15 _ _ _ dX10_isPicture_15 (Or.inr rfl) ⟨rfl, Or.inl ⟨(by omega), rfl⟩⟩
  · exact hR 15 _ _ _ dX10_isPicture_15 (Or.inl rfl) ⟨rfl, Or.inr ⟨(by omega), rfl⟩⟩
set_option maxHeartbeats 4000000 in
set_option maxRecDepth 100000 in
theorem zX10_isTorn {g : Gm} {l : Launch} {D : Dat} (ho : mOk D 284) {p : Int} (hp : 0 ≤ p ∧ p < 8) : CrB g l 1 mX10_isTorn [vR 283, vI p] D (D 284 (20 + p) ≤ D 284 (28 + p)) := by
  unfold CrB
  refine Cr.ofZ (lo0 := [vR 283, vI p]) (by decide) (Nat.le_of_ble_eq_true rfl) rfl (fun J hA hR => ?_)
  have hn := ho.n
  have hf := ho.f
  have hb := ho.b
  have ha := ho.at hp
  refine q_aload_n (j := 0) hA rfl dX10_isTorn_0 ?_
  refine q_getR hA f_X10_7 dX10_isTorn_1 sx_283 (by decide) fx_283_0 ?_
  refine q_bipush hA (by decide) dX10_isTorn_4 ?_
  refine q_iload_n (j := 1) hA rfl dX10_isTorn_6 ?_
  refine q_iadd hA dX10_isTorn_7 ?_
  refine q_iald (x := D 284 (28 + p)) hA dX10_isTorn_8 sx_284 (by omega) (by decide) rfl ?_
  refine q_aload_n (j := 0) hA rfl dX10_isTorn_9 ?_
  refine q_getR hA f_X10_7 dX10_isTorn_10 sx_283 (by decide) fx_283_0 ?_
  refine q_bipush hA (by decide) dX10_isTorn_13 ?_
  refine q_iload_n (j := 1) hA rfl dX10_isTorn_15 ?_
  refine q_iadd hA dX10_isTorn_16 ?_
  refine q_iald (x := D 284 (20 + p)) hA dX10_isTorn_17 sx_284 (by omega) (by decide) rfl ?_
  refine q_icmp_lt (tgt := 25) hA (by omega) (by omega) dX10_isTorn_18 (by decide) (fun h18 => ?_) (fun h18 => ?_)
  · refine q_iconst hA dX10_isTorn_25 ?_
    exact hR 26 _ _ _ dX10_isTorn_26 (Or.inl rfl) ⟨rfl, Or.inr ⟨(by omega), rfl⟩⟩
  · refine q_iconst hA dX10_isTorn_21 ?_
    refine q_goto (tgt := 26) hA dX10_isTorn_22 (by decide) ?_
    exact hR 26 _ _ _ dX10_isTorn_26 (Or.inr rfl) ⟨rfl, Or.inl ⟨(by omega), rfl⟩⟩
set_option maxHeartbeats 4000000 in
set_option maxRecDepth 100000 in
theorem zX10_effortNow {g : Gm} {l : Launch} {D : Dat} (ho : mOk D 284) {p : Int} (hp : 0 ≤ p ∧ p < 8) : CrP g l 2 mX10_effortNow [vR 283, vI p] D (effK (D 284 (4 + p)) (D 284 (36 + p))) := by
  unfold CrP
  refine Cr.ofI (lo0 := [vR 283, vI p]) (by decide) (Nat.le_of_ble_eq_true rfl) rfl (fun J hA hR => ?_)
  have hn := ho.n
  have hf := ho.f
  have hb := ho.b
  have ha := ho.at hp
  refine q_aload_n (j := 0) hA rfl dX10_effortNow_0 ?_
  refine q_getR hA f_X10_7 dX10_effortNow_1 sx_283 (by decide) fx_283_0 ?_
  refine q_iconst hA dX10_effortNow_4 ?_
  refine q_iload_n (j := 1) hA rfl dX10_effortNow_5 ?_
  refine q_iadd hA dX10_effortNow_6 ?_
  refine q_iald (x := D 284 (4 + p)) hA dX10_effortNow_7 sx_284 (by omega) (by decide) rfl ?_
  refine q_aload_n (j := 0) hA rfl dX10_effortNow_8 ?_
  refine q_getR hA f_X10_7 dX10_effortNow_9 sx_283 (by decide) fx_283_0 ?_
  refine q_bipush hA (by decide) dX10_effortNow_12 ?_
  refine q_iload_n (j := 1) hA rfl dX10_effortNow_14 ?_
  refine q_iadd hA dX10_effortNow_15 ?_
  refine q_iald (x := D 284 (36 + p)) hA dX10_effortNow_16 sx_284 (by omega) (by decide) rfl ?_
  refine q_callSP (As := [vI (D 284 (4 + p)), vI (D 284 (36 + p))]) (st := []) hA l_X10_133 kX10_effortOf (zX10_effortOf (by first | assumption | omega | rfl) (by first | assumption | omega | rfl)) dX10_effortNow_17 rfl rfl (Nat.le_of_ble_eq_true rfl) (by omega) ?_
  refine q_nmI (fun v17 ev17 => ?_)
  exact hR 20 _ _ _ dX10_effortNow_20 ⟨(by first | rfl | omega), rfl⟩
set_option maxHeartbeats 4000000 in
set_option maxRecDepth 100000 in
theorem zX10_here {g : Gm} {l : Launch} {D : Dat} (ht : 0 ≤ D 283 3 ∧ D 283 3 ≤ D 283 2 ∧ D 283 2 ≤ 80) (htp : ∀ i : Int, 0 ≤ i → i < 80 → 0 ≤ D 285 i ∧ D 285 i ≤ 255) : CrP g l 1 mX10_here [vR 283] D (mAt D (D 283 3)) := by
  unfold CrP
  refine Cr.ofI (lo0 := [vR 283]) (by decide) (Nat.le_of_ble_eq_true rfl) rfl (fun J hA hR => ?_)
  refine q_aload_n (j := 0) hA rfl dX10_here_0 ?_
  refine q_getI (x := D 283 3) hA f_X10_85 dX10_here_1 sx_283 (by decide) rfl ?_
  refine q_aload_n (j := 0) hA rfl dX10_here_4 ?_
  refine q_getI (x := D 283 2) hA f_X10_81 dX10_here_5 sx_283 (by decide) rfl ?_
  refine q_icmp_ge (tgt := 23) hA (by omega) (by omega) dX10_here_8 (by decide) (fun h8 => ?_) (fun h8 => ?_)
  · refine q_iconst hA dX10_here_23 ?_
    exact hR 24 _ _ _ dX10_here_24 ⟨(by unfold mAt; first | (rw [if_pos (by omega)]; done) | (rw [if_neg (by omega)]; done)), rfl⟩
  · refine q_aload_n (j := 0) hA rfl dX10_here_11 ?_
    refine q_getR hA f_X10_13 dX10_here_12 sx_283 (by decide) fx_283_1 ?_
    refine q_aload_n (j := 0) hA rfl dX10_here_15 ?_
    refine q_getI (x := D 283 3) hA f_X10_85 dX10_here_16 sx_283 (by decide) rfl ?_
    refine q_iald (x := D 285 (D 283 3)) hA dX10_here_19 sx_285 (by omega) (by decide) rfl ?_
    refine q_goto (tgt := 24) hA dX10_here_20 (by decide) ?_
    exact hR 24 _ _ _ dX10_here_24 ⟨(by unfold mAt; first | (rw [if_pos (by omega)]; done) | (rw [if_neg (by omega)]; done)), rfl⟩
set_option maxHeartbeats 4000000 in
set_option maxRecDepth 100000 in
theorem zX10_links {g : Gm} {l : Launch} {D : Dat} {c w : Nat} (hcw : Sx[c]? = some (100, w) ∧ w < 20000) {at_ : Int} {a : Int} {b : Int} (hat : 0 ≤ at_ ∧ at_ + 8 ≤ w) (hlk : lkOk D c at_) (ha : 0 ≤ a ∧ a < 8) (hb : 0 ≤ b ∧ b < 8) : CrV g l 1 mX10_links [vR c, vI at_, vI a, vI b] D (fun D1 => D1 = lnM D c at_ a b) := by
  refine Cr.ofV (lo0 := [vR c, vI at_, vI a, vI b]) (by decide) (Nat.le_of_ble_eq_true rfl) rfl (fun J hA hR => ?_)
  have hw := hcw.2
  refine q_aload_n (j := 0) hA rfl dX10_links_0 ?_
  refine q_iload_n (j := 1) hA rfl dX10_links_1 ?_
  refine q_iload_n (j := 2) hA rfl dX10_links_2 ?_
  refine q_iadd hA dX10_links_3 ?_
  refine q_dup2IR hA dX10_links_4 ?_
  refine q_iald (x := D c (at_ + a)) hA dX10_links_5 hcw.1 (by omega) (by omega) rfl ?_
  refine q_iconst hA dX10_links_6 ?_
  refine q_iload_n (j := 3) hA rfl dX10_links_7 ?_
  refine q_ishl hA dX10_links_8 ?_
  refine q_ior hA dX10_links_9 ?_
  rw [show iOr (D c (at_ + a)) (iShl 1 b) = sb (D c (at_ + a)) b from or8 (hlk a ha.1 ha.2) hb]
  refine q_iast hA dX10_links_10 hcw.1 (by omega) (by omega) ?_
  have lk1 : lkOk (upD D c (at_ + a) (sb (D c (at_ + a)) b)) c at_ := fun q g0 g1 => (by by_cases hq : q = a; (rw [hq, upD_s]; exact sb_in (hlk a ha.1 ha.2) hb); (rw [upD_n (Or.inr (by omega))]; exact hlk q g0 g1))
  refine q_aload_n (j := 0) hA rfl dX10_links_11 ?_
  refine q_iload_n (j := 1) hA rfl dX10_links_12 ?_
  refine q_iload_n (j := 3) hA rfl dX10_links_13 ?_
  refine q_iadd hA dX10_links_14 ?_
  refine q_dup2IR hA dX10_links_15 ?_
  refine q_iald (x := (upD D c (at_ + a) (sb (D c (at_ + a)) b)) c (at_ + b)) hA dX10_links_16 hcw.1 (by omega) (by omega) rfl ?_
  refine q_iconst hA dX10_links_17 ?_
  refine q_iload_n (j := 2) hA rfl dX10_links_18 ?_
  refine q_ishl hA dX10_links_19 ?_
  refine q_ior hA dX10_links_20 ?_
  rw [show iOr ((upD D c (at_ + a) (sb (D c (at_ + a)) b)) c (at_ + b)) (iShl 1 a) = sb (upD D c (at_ + a) (sb (D c (at_ + a)) b) c (at_ + b)) a from or8 (lk1 b hb.1 hb.2) ha]
  refine q_iast hA dX10_links_21 hcw.1 (by omega) (by omega) ?_
  exact hR 22 _ _ dX10_links_22 (by rfl)
