set_option maxHeartbeats 4000000 in
set_option maxRecDepth 100000 in
theorem zX10_feed {g : Gm} {l : Launch} {D : Dat} {x : Int} (rx : -2147483648 ≤ x ∧ x ≤ 2147483647) (ht : 0 ≤ D 283 2 ∧ D 283 2 ≤ 80) : CrI g l 2 mX10_feed [vR 283, vI x] D (fun v D1 => (¬ (0 ≤ x ∧ x ≤ 255) ∧ v = -1 ∧ D1 = D) ∨ ((0 ≤ x ∧ x ≤ 255) ∧ D 283 2 = 80 ∧ v = -3 ∧ D1 = D) ∨ ((0 ≤ x ∧ x ≤ 255) ∧ D 283 2 ≠ 80 ∧ v = D 283 2 + 1 ∧ D1 = upD (upD D 285 (D 283 2) x) 283 2 (D 283 2 + 1))) := by
  refine Cr.ofI (lo0 := [vR 283, vI x]) (by decide) (Nat.le_of_ble_eq_true rfl) rfl (fun J hA hR => ?_)
  refine q_iload_n (j := 1) hA rfl dX10_feed_0 ?_
  refine q_i2l hA (by omega) dX10_feed_1 ?_
  refine q_lconst hA dX10_feed_2 ?_
  show J _ _ (vL 0 :: _) _
  refine q_ldc2 hA c_X10_75 dX10_feed_3 ?_
  refine q_callSB (As := [vL x, vL 0, vL 255]) (st := []) hA l_X10_77 kX10_in (zX10_in (by first | assumption | omega | rfl) (by first | assumption | omega | rfl) (by first | assumption | omega | rfl)) dX10_feed_6 rfl rfl (Nat.le_of_ble_eq_true rfl) (by omega) (fun h6 => ?_) (fun h6 => ?_)
  · refine q_if_ne (tgt := 14) hA (by decide) dX10_feed_9 (by decide) (fun h9 => ?_) (fun h9 => absurd h9 (by decide))
    refine q_aload_n (j := 0) hA rfl dX10_feed_14 ?_
    refine q_getI (x := D 283 2) hA f_X10_81 dX10_feed_15 sx_283 (by decide) rfl ?_
    refine q_bipush hA (by decide) dX10_feed_18 ?_
    refine q_icmp_ne (tgt := 26) hA (by omega) (by omega) dX10_feed_20 (by decide) (fun h20 => ?_) (fun h20 => ?_)
    · refine q_aload_n (j := 0) hA rfl dX10_feed_26 ?_
      refine q_getR hA f_X10_13 dX10_feed_27 sx_283 (by decide) fx_283_1 ?_
      refine q_aload_n (j := 0) hA rfl dX10_feed_30 ?_
      refine q_getI (x := D 283 2) hA f_X10_81 dX10_feed_31 sx_283 (by decide) rfl ?_
      refine q_iload_n (j := 1) hA rfl dX10_feed_34 ?_
      refine q_iast hA dX10_feed_35 sx_285 (by omega) (by decide) ?_
      refine q_aload_n (j := 0) hA rfl dX10_feed_36 ?_
      refine q_dupR hA dX10_feed_37 ?_
      refine q_getI (x := D 283 2) hA f_X10_81 dX10_feed_38 sx_283 (by decide) ((upD_n (Or.inl (by omega))).trans (rfl)) ?_
      refine q_iconst hA dX10_feed_41 ?_
      refine q_iadd hA dX10_feed_42 ?_
      refine q_putI hA f_X10_81 dX10_feed_43 sx_283 (by decide) ?_
      show J _ _ _ (upD (upD D 285 (D 283 2) x) 283 2 ((D 283 2) + 1))
      refine q_aload_n (j := 0) hA rfl dX10_feed_46 ?_
      refine q_getI (x := (D 283 2) + 1) hA f_X10_81 dX10_feed_47 sx_283 (by decide) ((upD_s).trans (rfl)) ?_
      exact hR 50 _ _ _ dX10_feed_50 (by exact Or.inr (Or.inr ⟨h6, by omega, rfl, rfl⟩))
    · refine q_bipush hA (by decide) dX10_feed_23 ?_
      exact hR 25 _ _ _ dX10_feed_25 (by exact Or.inr (Or.inl ⟨h6, by omega, rfl, rfl⟩))
  · refine q_if_ne (tgt := 14) hA (by decide) dX10_feed_9 (by decide) (fun h9 => absurd h9 (by decide)) (fun h9 => ?_)
    refine q_iconst hA dX10_feed_12 ?_
    exact hR 13 _ _ _ dX10_feed_13 (by exact Or.inl ⟨h6, rfl, rfl⟩)
set_option maxHeartbeats 4000000 in
set_option maxRecDepth 100000 in
theorem zX10_picture {g : Gm} {l : Launch} {D : Dat} (ho : mOk D 284) {p : Int} {w : Int} (rp : -2147483648 ≤ p ∧ p ≤ 2147483647) (rw : -2147483648 ≤ w ∧ w ≤ 2147483647) : CrP g l 3 mX10_picture [vR 283, vI p, vI w] D (picR (rowM D 284 0) p w) := by
  unfold CrP
  refine Cr.ofI (lo0 := [vR 283, vI p, vI w]) (by decide) (Nat.le_of_ble_eq_true rfl) rfl (fun J hA hR => ?_)
  have hn := ho.n
  have hf := ho.f
  have hb := ho.b
  refine q_aload_n (j := 0) hA rfl dX10_picture_0 ?_
  refine q_iload_n (j := 1) hA rfl dX10_picture_1 ?_
  refine q_callVB (b := 283) (As := [vI p]) (st := []) hA l_X10_136 kX10_isPicture (zX10_isPicture (by first | assumption | omega | rfl) (by first | assumption | omega | rfl)) dX10_picture_2 rfl rfl sx_283 (by decide) rfl (Nat.le_of_ble_eq_true rfl) (by omega) (fun h2 => ?_) (fun h2 => ?_)
  · refine q_if_ne (tgt := 10) hA (by decide) dX10_picture_5 (by decide) (fun h5 => ?_) (fun h5 => absurd h5 (by decide))
    have hp8 : 0 ≤ p ∧ p < 8 := by omega
    have hat := ho.at hp8
    refine q_iload_n (j := 2) hA rfl dX10_picture_10 ?_
    by_cases hsw : w < 0 ∨ 7 < w
    · refine q_tblOut (tgt := 135) hA (by omega) dX10_picture_11 hsw (by decide) ?_
      refine q_iconst hA dX10_picture_135 ?_
      exact hR 136 _ _ _ dX10_picture_136 ⟨(by unfold picR; rw [mN, if_neg (fun z => z h2), if_neg (by omega), if_neg (by omega), if_neg (by omega), if_neg (by omega), if_neg (by omega), if_neg (by omega), if_neg (by omega), if_neg (by omega)]), rfl⟩
    · have hsw2 : w = 0 ∨ w = 1 ∨ w = 2 ∨ w = 3 ∨ w = 4 ∨ w = 5 ∨ w = 6 ∨ w = 7 := by omega
      rcases hsw2 with hsw3 | hsw3 | hsw3 | hsw3 | hsw3 | hsw3 | hsw3 | hsw3
      · refine q_tblIn (tgt := 56) (off := 45) hA (by omega) dX10_picture_11 (by omega) (by rw [hsw3]; rfl) (by decide) ?_
        refine q_aload_n (j := 0) hA rfl dX10_picture_56 ?_
        refine q_getR hA f_X10_7 dX10_picture_57 sx_283 (by decide) fx_283_0 ?_
        refine q_iconst hA dX10_picture_60 ?_
        refine q_iload_n (j := 1) hA rfl dX10_picture_61 ?_
        refine q_iadd hA dX10_picture_62 ?_
        refine q_iald (x := D 284 (4 + p)) hA dX10_picture_63 sx_284 (by omega) (by decide) rfl ?_
        exact hR 64 _ _ _ dX10_picture_64 ⟨(by unfold picR; rw [mN, if_neg (fun z => z h2), mK hp8, mW hp8, mBe hp8, mWe hp8, mSh hp8, mL hp8, hsw3]; rfl), rfl⟩
      · refine q_tblIn (tgt := 65) (off := 54) hA (by omega) dX10_picture_11 (by omega) (by rw [hsw3]; rfl) (by decide) ?_
        refine q_aload_n (j := 0) hA rfl dX10_picture_65 ?_
        refine q_getR hA f_X10_7 dX10_picture_66 sx_283 (by decide) fx_283_0 ?_
        refine q_bipush hA (by decide) dX10_picture_69 ?_
        refine q_iload_n (j := 1) hA rfl dX10_picture_71 ?_
        refine q_iadd hA dX10_picture_72 ?_
        refine q_iald (x := D 284 (12 + p)) hA dX10_picture_73 sx_284 (by omega) (by decide) rfl ?_
        exact hR 74 _ _ _ dX10_picture_74 ⟨(by unfold picR; rw [mN, if_neg (fun z => z h2), mK hp8, mW hp8, mBe hp8, mWe hp8, mSh hp8, mL hp8, hsw3]; rfl), rfl⟩
      · refine q_tblIn (tgt := 75) (off := 64) hA (by omega) dX10_picture_11 (by omega) (by rw [hsw3]; rfl) (by decide) ?_
        refine q_aload_n (j := 0) hA rfl dX10_picture_75 ?_
        refine q_getR hA f_X10_7 dX10_picture_76 sx_283 (by decide) fx_283_0 ?_
        refine q_bipush hA (by decide) dX10_picture_79 ?_
        refine q_iload_n (j := 1) hA rfl dX10_picture_81 ?_
        refine q_iadd hA dX10_picture_82 ?_
        refine q_iald (x := D 284 (20 + p)) hA dX10_picture_83 sx_284 (by omega) (by decide) rfl ?_
        exact hR 84 _ _ _ dX10_picture_84 ⟨(by unfold picR; rw [mN, if_neg (fun z => z h2), mK hp8, mW hp8, mBe hp8, mWe hp8, mSh hp8, mL hp8, hsw3]; rfl), rfl⟩
      · refine q_tblIn (tgt := 85) (off := 74) hA (by omega) dX10_picture_11 (by omega) (by rw [hsw3]; rfl) (by decide) ?_
        refine q_aload_n (j := 0) hA rfl dX10_picture_85 ?_
        refine q_getR hA f_X10_7 dX10_picture_86 sx_283 (by decide) fx_283_0 ?_
        refine q_bipush hA (by decide) dX10_picture_89 ?_
        refine q_iload_n (j := 1) hA rfl dX10_picture_91 ?_
        refine q_iadd hA dX10_picture_92 ?_
        refine q_iald (x := D 284 (28 + p)) hA dX10_picture_93 sx_284 (by omega) (by decide) rfl ?_
        exact hR 94 _ _ _ dX10_picture_94 ⟨(by unfold picR; rw [mN, if_neg (fun z => z h2), mK hp8, mW hp8, mBe hp8, mWe hp8, mSh hp8, mL hp8, hsw3]; rfl), rfl⟩
      · refine q_tblIn (tgt := 95) (off := 84) hA (by omega) dX10_picture_11 (by omega) (by rw [hsw3]; rfl) (by decide) ?_
        refine q_aload_n (j := 0) hA rfl dX10_picture_95 ?_
        refine q_getR hA f_X10_7 dX10_picture_96 sx_283 (by decide) fx_283_0 ?_
        refine q_bipush hA (by decide) dX10_picture_99 ?_
        refine q_iload_n (j := 1) hA rfl dX10_picture_101 ?_
        refine q_iadd hA dX10_picture_102 ?_
        refine q_iald (x := D 284 (36 + p)) hA dX10_picture_103 sx_284 (by omega) (by decide) rfl ?_
        exact hR 104 _ _ _ dX10_picture_104 ⟨(by unfold picR; rw [mN, if_neg (fun z => z h2), mK hp8, mW hp8, mBe hp8, mWe hp8, mSh hp8, mL hp8, hsw3]; rfl), rfl⟩
      · refine q_tblIn (tgt := 105) (off := 94) hA (by omega) dX10_picture_11 (by omega) (by rw [hsw3]; rfl) (by decide) ?_
        refine q_aload_n (j := 0) hA rfl dX10_picture_105 ?_
        refine q_iload_n (j := 1) hA rfl dX10_picture_106 ?_
        refine q_callVP (b := 283) (As := [vI p]) (st := []) hA l_X10_139 kX10_effortNow (zX10_effortNow (by first | assumption | omega | rfl) (by first | assumption | omega | rfl)) dX10_picture_107 rfl rfl sx_283 (by decide) rfl (Nat.le_of_ble_eq_true rfl) (by omega) ?_
        refine q_nmI (fun v107 ev107 => ?_)
        exact hR 110 _ _ _ dX10_picture_110 ⟨(by unfold picR; rw [mN, if_neg (fun z => z h2), mK hp8, mW hp8, mBe hp8, mWe hp8, mSh hp8, mL hp8, hsw3]; exact ev107), rfl⟩
      · refine q_tblIn (tgt := 111) (off := 100) hA (by omega) dX10_picture_11 (by omega) (by rw [hsw3]; rfl) (by decide) ?_
        refine q_aload_n (j := 0) hA rfl dX10_picture_111 ?_
        refine q_getR hA f_X10_7 dX10_picture_112 sx_283 (by decide) fx_283_0 ?_
        refine q_bipush hA (by decide) dX10_picture_115 ?_
        refine q_iload_n (j := 1) hA rfl dX10_picture_117 ?_
        refine q_iadd hA dX10_picture_118 ?_
        refine q_iald (x := D 284 (44 + p)) hA dX10_picture_119 sx_284 (by omega) (by decide) rfl ?_
        exact hR 120 _ _ _ dX10_picture_120 ⟨(by unfold picR; rw [mN, if_neg (fun z => z h2), mK hp8, mW hp8, mBe hp8, mWe hp8, mSh hp8, mL hp8, hsw3]; rfl), rfl⟩
      · refine q_tblIn (tgt := 121) (off := 110) hA (by omega) dX10_picture_11 (by omega) (by rw [hsw3]; rfl) (by decide) ?_
        refine q_aload_n (j := 0) hA rfl dX10_picture_121 ?_
        refine q_iload_n (j := 1) hA rfl dX10_picture_122 ?_
        refine q_callVB (b := 283) (As := [vI p]) (st := []) hA l_X10_142 kX10_isTorn (zX10_isTorn (by first | assumption | omega | rfl) (by first | assumption | omega | rfl)) dX10_picture_123 rfl rfl sx_283 (by decide) rfl (Nat.le_of_ble_eq_true rfl) (by omega) (fun h123 => ?_) (fun h123 => ?_)
        · refine q_if_eq (tgt := 133) hA (by decide) dX10_picture_126 (by decide) (fun h126 => absurd h126 (by decide)) (fun h126 => ?_)
          refine q_iconst hA dX10_picture_129 ?_
          refine q_goto (tgt := 134) hA dX10_picture_130 (by decide) ?_
          exact hR 134 _ _ _ dX10_picture_134 ⟨(by unfold picR; rw [mN, if_neg (fun z => z h2), mK hp8, mW hp8, mBe hp8, mWe hp8, mSh hp8, mL hp8, hsw3]; first | exact (if_pos h123).symm | exact (if_neg h123).symm), rfl⟩
        · refine q_if_eq (tgt := 133) hA (by decide) dX10_picture_126 (by decide) (fun h126 => ?_) (fun h126 => absurd h126 (by decide))
          refine q_iconst hA dX10_picture_133 ?_
          exact hR 134 _ _ _ dX10_picture_134 ⟨(by unfold picR; rw [mN, if_neg (fun z => z h2), mK hp8, mW hp8, mBe hp8, mWe hp8, mSh hp8, mL hp8, hsw3]; first | exact (if_pos h123).symm | exact (if_neg h123).symm), rfl⟩
  · refine q_if_ne (tgt := 10) hA (by decide) dX10_picture_5 (by decide) (fun h5 => absurd h5 (by decide)) (fun h5 => ?_)
    refine q_iconst hA dX10_picture_8 ?_
    exact hR 9 _ _ _ dX10_picture_9 ⟨(by unfold picR; rw [mN, if_pos h2]), rfl⟩
set_option maxHeartbeats 4000000 in
set_option maxRecDepth 100000 in
theorem zX10_as {g : Gm} {l : Launch} {D : Dat} (ho : mOk D 284) {p : Int} {k : Int} (rp : -2147483648 ≤ p ∧ p ≤ 2147483647) (rk : -2147483648 ≤ k ∧ k ≤ 2147483647) : CrP g l 3 mX10_as [vR 283, vI p, vI k] D (asR (rowM D 284 0) p k) := by
  unfold CrP
  refine Cr.ofI (lo0 := [vR 283, vI p, vI k]) (by decide) (Nat.le_of_ble_eq_true rfl) rfl (fun J hA hR => ?_)
  have hn := ho.n
  have hf := ho.f
  have hb := ho.b
  refine q_aload_n (j := 0) hA rfl dX10_as_0 ?_
  refine q_iload_n (j := 1) hA rfl dX10_as_1 ?_
  refine q_callVB (b := 283) (As := [vI p]) (st := []) hA l_X10_136 kX10_isPicture (zX10_isPicture (by first | assumption | omega | rfl) (by first | assumption | omega | rfl)) dX10_as_2 rfl rfl sx_283 (by decide) rfl (Nat.le_of_ble_eq_true rfl) (by omega) (fun h2 => ?_) (fun h2 => ?_)
  · refine q_if_eq (tgt := 20) hA (by decide) dX10_as_5 (by decide) (fun h5 => absurd h5 (by decide)) (fun h5 => ?_)
    refine q_iload_n (j := 2) hA rfl dX10_as_8 ?_
    refine q_i2l hA (by omega) dX10_as_9 ?_
    refine q_lconst hA dX10_as_10 ?_
    show J _ _ (vL 0 :: _) _
    refine q_ldc2 hA c_X10_145 dX10_as_11 ?_
    refine q_callSB (As := [vL k, vL 0, vL 5]) (st := []) hA l_X10_77 kX10_in (zX10_in (by first | assumption | omega | rfl) (by first | assumption | omega | rfl) (by first | assumption | omega | rfl)) dX10_as_14 rfl rfl (Nat.le_of_ble_eq_true rfl) (by omega) (fun h14 => ?_) (fun h14 => ?_)
    · refine q_if_ne (tgt := 22) hA (by decide) dX10_as_17 (by decide) (fun h17 => ?_) (fun h17 => absurd h17 (by decide))
      have hp8 : 0 ≤ p ∧ p < 8 := by omega
      have hat := ho.at hp8
      refine q_aload_n (j := 0) hA rfl dX10_as_22 ?_
      refine q_getR hA f_X10_7 dX10_as_23 sx_283 (by decide) fx_283_0 ?_
      refine q_iconst hA dX10_as_26 ?_
      refine q_iload_n (j := 1) hA rfl dX10_as_27 ?_
      refine q_iadd hA dX10_as_28 ?_
      refine q_iald (x := D 284 (4 + p)) hA dX10_as_29 sx_284 (by omega) (by decide) rfl ?_
      refine q_iload_n (j := 2) hA rfl dX10_as_30 ?_
      refine q_callSB (As := [vI (D 284 (4 + p)), vI k]) (st := []) hA l_X10_147 kX10_isOf (zX10_isOf (by first | assumption | omega | rfl) (by first | assumption | omega | rfl)) dX10_as_31 rfl rfl (Nat.le_of_ble_eq_true rfl) (by omega) (fun h31 => ?_) (fun h31 => ?_)
      · refine q_if_eq (tgt := 41) hA (by decide) dX10_as_34 (by decide) (fun h34 => absurd h34 (by decide)) (fun h34 => ?_)
        refine q_iload_n (j := 1) hA rfl dX10_as_37 ?_
        refine q_goto (tgt := 43) hA dX10_as_38 (by decide) ?_
        exact hR 43 _ _ _ dX10_as_43 ⟨(by unfold asR; rw [mN, if_pos ⟨h2, h14⟩, mK hp8]; first | exact (if_pos h31).symm | exact (if_neg h31).symm), rfl⟩
      · refine q_if_eq (tgt := 41) hA (by decide) dX10_as_34 (by decide) (fun h34 => ?_) (fun h34 => absurd h34 (by decide))
        refine q_bipush hA (by decide) dX10_as_41 ?_
        exact hR 43 _ _ _ dX10_as_43 ⟨(by unfold asR; rw [mN, if_pos ⟨h2, h14⟩, mK hp8]; first | exact (if_pos h31).symm | exact (if_neg h31).symm), rfl⟩
    · refine q_if_ne (tgt := 22) hA (by decide) dX10_as_17 (by decide) (fun h17 => absurd h17 (by decide)) (fun h17 => ?_)
      refine q_iconst hA dX10_as_20 ?_
      exact hR 21 _ _ _ dX10_as_21 ⟨(by unfold asR; rw [mN, if_neg (by first | (intro z; exact h2 z.1) | (intro z; exact h14 z.2))]), rfl⟩
  · refine q_if_eq (tgt := 20) hA (by decide) dX10_as_5 (by decide) (fun h5 => ?_) (fun h5 => absurd h5 (by decide))
    refine q_iconst hA dX10_as_20 ?_
    exact hR 21 _ _ _ dX10_as_21 ⟨(by unfold asR; rw [mN, if_neg (by first | (intro z; exact h2 z.1) | (intro z; exact h14 z.2))]), rfl⟩
set_option maxHeartbeats 4000000 in
set_option maxRecDepth 100000 in
theorem zX10_setOf_L4 {g : Gm} {l : Launch} {D : Dat} (ho : mOk D 284) {t : Int} (ht : t = 0 ∨ t = 1)   {J : JT} (hA : AX g l RX10 cX10_setOf 4 2 J) (hR : ReI cX10_setOf (fun v D1 => v = (setOf (setFM (rowM D 284 0) t) (D 284 0).toNat) ∧ D1 = D) J) : ∀ (fuel : Nat) (acc : Int) (k : Int), (0 ≤ k ∧ k ≤ D 284 0) → (acc = setOf (setFM (rowM D 284 0) t) k.toNat) → D 284 0 - k < (fuel : Int) → J 4 [vR 283, vI t, vI acc, vI k] [] D := by
  intro fuel
  induction fuel with
  | zero => intro acc k hk hv hMs; exact absurd hMs (by omega)
  | succ fuel ih =>
    intro acc k hk hv hMs
    have hn := ho.n
    have hin := setOf_in (setFM (rowM D 284 0) t) k.toNat (by omega)
    rw [← hv] at hin
    refine q_iload_n (j := 3) hA rfl dX10_setOf_4 ?_
    refine q_aload_n (j := 0) hA rfl dX10_setOf_5 ?_
    refine q_getR hA f_X10_7 dX10_setOf_6 sx_283 (by decide) fx_283_0 ?_
    refine q_iconst hA dX10_setOf_9 ?_
    refine q_iald (x := D 284 0) hA dX10_setOf_10 sx_284 (by omega) (by decide) rfl ?_
    refine q_icmp_ge (tgt := 57) hA (by omega) (by omega) dX10_setOf_11 (by decide) (fun h11 => ?_) (fun h11 => ?_)
    · refine q_iload_n (j := 2) hA rfl dX10_setOf_57 ?_
      exact hR 58 _ _ _ dX10_setOf_58 ⟨(by rw [hv, show k = D 284 0 by omega]), rfl⟩
    · have hp8 : 0 ≤ k ∧ k < 8 := by omega
      have hat := ho.at hp8
      have hpw := pw_8 hp8
      refine q_iload_n (j := 2) hA rfl dX10_setOf_14 ?_
      refine q_iload_n (j := 1) hA rfl dX10_setOf_15 ?_
      refine q_if_eq (tgt := 30) hA (by omega) dX10_setOf_16 (by decide) (fun h16 => ?_) (fun h16 => ?_)
      · refine q_aload_n (j := 0) hA rfl dX10_setOf_30 ?_
        refine q_getR hA f_X10_7 dX10_setOf_31 sx_283 (by decide) fx_283_0 ?_
        refine q_bipush hA (by decide) dX10_setOf_34 ?_
        refine q_iload_n (j := 3) hA rfl dX10_setOf_36 ?_
        refine q_iadd hA dX10_setOf_37 ?_
        refine q_iald (x := D 284 (36 + k)) hA dX10_setOf_38 sx_284 (by omega) (by decide) rfl ?_
        refine q_if_le (tgt := 48) hA (by omega) dX10_setOf_39 (by decide) (fun h39 => ?_) (fun h39 => ?_)
        · refine q_iconst hA dX10_setOf_48 ?_
          refine q_nmI (fun y ey => ?_)
          have hyi : 0 ≤ y ∧ y ≤ 255 := by rw [ey]; omega
          refine q_ior hA dX10_setOf_49 ?_
          rw [show iOr acc y = bor acc y from iOrB hin hyi]
          refine q_istore_n (j := 2) (lo2 := [vR 283, vI t, vI (bor acc y), vI k]) hA dX10_setOf_50 (by decide) rfl rfl ?_
          refine q_iinc (j := 3) (lo2 := [vR 283, vI t, vI (bor acc y), vI (k + 1)]) hA dX10_setOf_51 rfl (by decide) rfl rfl ?_
          refine q_goto (tgt := 4) hA dX10_setOf_54 (by decide) ?_
          exact ih _ _ (by omega) (by first | exact setM_1 hk.1 hv (by rw [mSh hp8, mBe hp8, mWe hp8]; omega) ey | exact setM_0 hk.1 hin.1 hv (by rw [mSh hp8, mBe hp8, mWe hp8]; omega) ey) (by omega)
        · refine q_iconst hA dX10_setOf_42 ?_
          refine q_iload_n (j := 3) hA rfl dX10_setOf_43 ?_
          refine q_ishl hA dX10_setOf_44 ?_
          rw [show iShl 1 k = pw k from shl1 (by omega)]
          refine q_goto (tgt := 49) hA dX10_setOf_45 (by decide) ?_
          refine q_nmI (fun y ey => ?_)
          have hyi : 0 ≤ y ∧ y ≤ 255 := by rw [ey]; omega
          refine q_ior hA dX10_setOf_49 ?_
          rw [show iOr acc y = bor acc y from iOrB hin hyi]
          refine q_istore_n (j := 2) (lo2 := [vR 283, vI t, vI (bor acc y), vI k]) hA dX10_setOf_50 (by decide) rfl rfl ?_
          refine q_iinc (j := 3) (lo2 := [vR 283, vI t, vI (bor acc y), vI (k + 1)]) hA dX10_setOf_51 rfl (by decide) rfl rfl ?_
          refine q_goto (tgt := 4) hA dX10_setOf_54 (by decide) ?_
          exact ih _ _ (by omega) (by first | exact setM_1 hk.1 hv (by rw [mSh hp8, mBe hp8, mWe hp8]; omega) ey | exact setM_0 hk.1 hin.1 hv (by rw [mSh hp8, mBe hp8, mWe hp8]; omega) ey) (by omega)
      · refine q_aload_n (j := 0) hA rfl dX10_setOf_19 ?_
        refine q_iload_n (j := 3) hA rfl dX10_setOf_20 ?_
        refine q_callVB (b := 283) (As := [vI k]) (st := [vI acc]) hA l_X10_142 kX10_isTorn (zX10_isTorn (by first | assumption | omega | rfl) (by first | assumption | omega | rfl)) dX10_setOf_21 rfl rfl sx_283 (by decide) rfl (Nat.le_of_ble_eq_true rfl) (by omega) (fun h21 => ?_) (fun h21 => ?_)
        · refine q_if_eq (tgt := 48) hA (by decide) dX10_setOf_24 (by decide) (fun h24 => absurd h24 (by decide)) (fun h24 => ?_)
          refine q_goto (tgt := 42) hA dX10_setOf_27 (by decide) ?_
          refine q_iconst hA dX10_setOf_42 ?_
          refine q_iload_n (j := 3) hA rfl dX10_setOf_43 ?_
          refine q_ishl hA dX10_setOf_44 ?_
          rw [show iShl 1 k = pw k from shl1 (by omega)]
          refine q_goto (tgt := 49) hA dX10_setOf_45 (by decide) ?_
          refine q_nmI (fun y ey => ?_)
          have hyi : 0 ≤ y ∧ y ≤ 255 := by rw [ey]; omega
          refine q_ior hA dX10_setOf_49 ?_
          rw [show iOr acc y = bor acc y from iOrB hin hyi]
          refine q_istore_n (j := 2) (lo2 := [vR 283, vI t, vI (bor acc y), vI k]) hA dX10_setOf_50 (by decide) rfl rfl ?_
          refine q_iinc (j := 3) (lo2 := [vR 283, vI t, vI (bor acc y), vI (k + 1)]) hA dX10_setOf_51 rfl (by decide) rfl rfl ?_
          refine q_goto (tgt := 4) hA dX10_setOf_54 (by decide) ?_
          exact ih _ _ (by omega) (by first | exact setM_1 hk.1 hv (by rw [mSh hp8, mBe hp8, mWe hp8]; omega) ey | exact setM_0 hk.1 hin.1 hv (by rw [mSh hp8, mBe hp8, mWe hp8]; omega) ey) (by omega)
        · refine q_if_eq (tgt := 48) hA (by decide) dX10_setOf_24 (by decide) (fun h24 => ?_) (fun h24 => absurd h24 (by decide))
          refine q_iconst hA dX10_setOf_48 ?_
          refine q_nmI (fun y ey => ?_)
          have hyi : 0 ≤ y ∧ y ≤ 255 := by rw [ey]; omega
          refine q_ior hA dX10_setOf_49 ?_
          rw [show iOr acc y = bor acc y from iOrB hin hyi]
          refine q_istore_n (j := 2) (lo2 := [vR 283, vI t, vI (bor acc y), vI k]) hA dX10_setOf_50 (by decide) rfl rfl ?_
          refine q_iinc (j := 3) (lo2 := [vR 283, vI t, vI (bor acc y), vI (k + 1)]) hA dX10_setOf_51 rfl (by decide) rfl rfl ?_
          refine q_goto (tgt := 4) hA dX10_setOf_54 (by decide) ?_
          exact ih _ _ (by omega) (by first | exact setM_1 hk.1 hv (by rw [mSh hp8, mBe hp8, mWe hp8]; omega) ey | exact setM_0 hk.1 hin.1 hv (by rw [mSh hp8, mBe hp8, mWe hp8]; omega) ey) (by omega)
set_option maxHeartbeats 4000000 in
set_option maxRecDepth 100000 in
theorem zX10_setOf {g : Gm} {l : Launch} {D : Dat} (ho : mOk D 284) {t : Int} (ht : t = 0 ∨ t = 1) : CrP g l 2 mX10_setOf [vR 283, vI t] D (setOf (setFM (rowM D 284 0) t) (D 284 0).toNat) := by
  unfold CrP
  refine Cr.ofI (lo0 := [vR 283, vI t, vN, vN]) (by decide) (Nat.le_of_ble_eq_true rfl) rfl (fun J hA hR => ?_)
  have hn := ho.n
  have hf := ho.f
  have hb := ho.b
  refine q_iconst hA dX10_setOf_0 ?_
  refine q_istore_n (j := 2) (lo2 := [vR 283, vI t, vI 0, vN]) hA dX10_setOf_1 (by decide) rfl rfl ?_
  refine q_iconst hA dX10_setOf_2 ?_
  refine q_istore_n (j := 3) (lo2 := [vR 283, vI t, vI 0, vI 0]) hA dX10_setOf_3 (by decide) rfl rfl ?_
  refine zX10_setOf_L4 (D := D) (t := t) ho ht  hA hR 1000 _ _ (by omega) (by rfl) (by omega)
set_option maxHeartbeats 4000000 in
set_option maxRecDepth 100000 in
theorem zX10_wearOfAll_L4 {g : Gm} {l : Launch} {D : Dat} (ho : mOk D 284)   {J : JT} (hA : AX g l RX10 cX10_wearOfAll 3 1 J) (hR : ReI cX10_wearOfAll (fun v D1 => v = (sumOf (wornF (rowM D 284 0)) (D 284 0).toNat) ∧ D1 = D) J) : ∀ (fuel : Nat) (acc : Int) (k : Int), (0 ≤ k ∧ k ≤ D 284 0) → (acc = sumOf (wornF (rowM D 284 0)) k.toNat) → D 284 0 - k < (fuel : Int) → J 4 [vR 283, vI acc, vI k] [] D := by
  intro fuel
  induction fuel with
  | zero => intro acc k hk hv hMs; exact absurd hMs (by omega)
  | succ fuel ih =>
    intro acc k hk hv hMs
    have hn := ho.n
    refine q_iload_n (j := 2) hA rfl dX10_wearOfAll_4 ?_
    refine q_aload_n (j := 0) hA rfl dX10_wearOfAll_5 ?_
    refine q_getR hA f_X10_7 dX10_wearOfAll_6 sx_283 (by decide) fx_283_0 ?_
    refine q_iconst hA dX10_wearOfAll_9 ?_
    refine q_iald (x := D 284 0) hA dX10_wearOfAll_10 sx_284 (by omega) (by decide) rfl ?_
    refine q_icmp_ge (tgt := 32) hA (by omega) (by omega) dX10_wearOfAll_11 (by decide) (fun h11 => ?_) (fun h11 => ?_)
    · refine q_iload_n (j := 1) hA rfl dX10_wearOfAll_32 ?_
      exact hR 33 _ _ _ dX10_wearOfAll_33 ⟨(by rw [hv, show k = D 284 0 by omega]), rfl⟩
    · refine q_iload_n (j := 1) hA rfl dX10_wearOfAll_14 ?_
      refine q_aload_n (j := 0) hA rfl dX10_wearOfAll_15 ?_
      refine q_getR hA f_X10_7 dX10_wearOfAll_16 sx_283 (by decide) fx_283_0 ?_
      refine q_bipush hA (by decide) dX10_wearOfAll_19 ?_
      refine q_iload_n (j := 2) hA rfl dX10_wearOfAll_21 ?_
      refine q_iadd hA dX10_wearOfAll_22 ?_
      refine q_iald (x := D 284 (28 + k)) hA dX10_wearOfAll_23 sx_284 (by omega) (by decide) rfl ?_
      refine q_iadd hA dX10_wearOfAll_24 ?_
      refine q_istore_n (j := 1) (lo2 := [vR 283, vI (acc + (D 284 (28 + k))), vI k]) hA dX10_wearOfAll_25 (by decide) rfl rfl ?_
      refine q_iinc (j := 2) (lo2 := [vR 283, vI (acc + (D 284 (28 + k))), vI (k + 1)]) hA dX10_wearOfAll_26 rfl (by decide) rfl rfl ?_
      refine q_goto (tgt := 4) hA dX10_wearOfAll_29 (by decide) ?_
      exact ih _ _ (by omega) (by rw [sumOf_step (by omega), hv]; unfold wornF; rw [mWe (by omega)]) (by omega)
set_option maxHeartbeats 4000000 in
set_option maxRecDepth 100000 in
theorem zX10_wearOfAll {g : Gm} {l : Launch} {D : Dat} (ho : mOk D 284) : CrP g l 1 mX10_wearOfAll [vR 283] D (sumOf (wornF (rowM D 284 0)) (D 284 0).toNat) := by
  unfold CrP
  refine Cr.ofI (lo0 := [vR 283, vN, vN]) (by decide) (Nat.le_of_ble_eq_true rfl) rfl (fun J hA hR => ?_)
  have hn := ho.n
  have hf := ho.f
  have hb := ho.b
  refine q_iconst hA dX10_wearOfAll_0 ?_
  refine q_istore_n (j := 1) (lo2 := [vR 283, vI 0, vN]) hA dX10_wearOfAll_1 (by decide) rfl rfl ?_
  refine q_iconst hA dX10_wearOfAll_2 ?_
  refine q_istore_n (j := 2) (lo2 := [vR 283, vI 0, vI 0]) hA dX10_wearOfAll_3 (by decide) rfl rfl ?_
  refine zX10_wearOfAll_L4 (D := D) ho  hA hR 1000 _ _ (by omega) (by rfl) (by omega)
set_option maxHeartbeats 4000000 in
set_option maxRecDepth 100000 in
theorem zX10_count {g : Gm} {l : Launch} {D : Dat} (ho : mOk D 284) {w : Int} (rw : -2147483648 ≤ w ∧ w ≤ 2147483647) : CrP g l 3 mX10_count [vR 283, vI w] D (cntR (rowM D 284 0) (D 283 6) (D 283 2) w) := by
  unfold CrP
  refine Cr.ofI (lo0 := [vR 283, vI w]) (by decide) (Nat.le_of_ble_eq_true rfl) rfl (fun J hA hR => ?_)
  have hn := ho.n
  have hf := ho.f
  have hb := ho.b
  refine q_iload_n (j := 1) hA rfl dX10_count_0 ?_
  by_cases hsw : w < 0 ∨ 8 < w
  · refine q_tblOut (tgt := 131) hA (by omega) dX10_count_1 hsw (by decide) ?_
    refine q_iconst hA dX10_count_131 ?_
    exact hR 132 _ _ _ dX10_count_132 ⟨(by unfold cntR; rw [if_neg (by omega), if_neg (by omega), if_neg (by omega), if_neg (by omega), if_neg (by omega), if_neg (by omega), if_neg (by omega), if_neg (by omega), if_neg (by omega)]), rfl⟩
  · have hsw2 : w = 0 ∨ w = 1 ∨ w = 2 ∨ w = 3 ∨ w = 4 ∨ w = 5 ∨ w = 6 ∨ w = 7 ∨ w = 8 := by omega
    rcases hsw2 with hsw3 | hsw3 | hsw3 | hsw3 | hsw3 | hsw3 | hsw3 | hsw3 | hsw3
    · refine q_tblIn (tgt := 52) (off := 51) hA (by omega) dX10_count_1 (by omega) (by rw [hsw3]; rfl) (by decide) ?_
      refine q_aload_n (j := 0) hA rfl dX10_count_52 ?_
      refine q_getR hA f_X10_7 dX10_count_53 sx_283 (by decide) fx_283_0 ?_
      refine q_iconst hA dX10_count_56 ?_
      refine q_iald (x := D 284 0) hA dX10_count_57 sx_284 (by omega) (by decide) rfl ?_
      exact hR 58 _ _ _ dX10_count_58 ⟨(by unfold cntR; rw [mN, mF, mB, mE, hsw3]; rfl), rfl⟩
    · refine q_tblIn (tgt := 59) (off := 58) hA (by omega) dX10_count_1 (by omega) (by rw [hsw3]; rfl) (by decide) ?_
      refine q_aload_n (j := 0) hA rfl dX10_count_59 ?_
      refine q_callVB (b := 283) (As := []) (st := []) hA l_X10_159 kX10_isThere (zX10_isThere (by first | assumption | omega | rfl)) dX10_count_60 rfl rfl sx_283 (by decide) rfl (Nat.le_of_ble_eq_true rfl) (by omega) (fun h60 => ?_) (fun h60 => ?_)
      · refine q_if_eq (tgt := 75) hA (by decide) dX10_count_63 (by decide) (fun h63 => absurd h63 (by decide)) (fun h63 => ?_)
        refine q_aload_n (j := 0) hA rfl dX10_count_66 ?_
        refine q_getR hA f_X10_7 dX10_count_67 sx_283 (by decide) fx_283_0 ?_
        refine q_iconst hA dX10_count_70 ?_
        refine q_iald (x := D 284 1) hA dX10_count_71 sx_284 (by omega) (by decide) rfl ?_
        refine q_goto (tgt := 77) hA dX10_count_72 (by decide) ?_
        exact hR 77 _ _ _ dX10_count_77 ⟨(by unfold cntR; rw [mN, mF, mB, mE, hsw3]; first | exact (if_pos h60).symm | exact (if_neg h60).symm), rfl⟩
      · refine q_if_eq (tgt := 75) hA (by decide) dX10_count_63 (by decide) (fun h63 => ?_) (fun h63 => absurd h63 (by decide))
        refine q_bipush hA (by decide) dX10_count_75 ?_
        exact hR 77 _ _ _ dX10_count_77 ⟨(by unfold cntR; rw [mN, mF, mB, mE, hsw3]; first | exact (if_pos h60).symm | exact (if_neg h60).symm), rfl⟩
    · refine q_tblIn (tgt := 78) (off := 77) hA (by omega) dX10_count_1 (by omega) (by rw [hsw3]; rfl) (by decide) ?_
      refine q_aload_n (j := 0) hA rfl dX10_count_78 ?_
      refine q_callVB (b := 283) (As := []) (st := []) hA l_X10_159 kX10_isThere (zX10_isThere (by first | assumption | omega | rfl)) dX10_count_79 rfl rfl sx_283 (by decide) rfl (Nat.le_of_ble_eq_true rfl) (by omega) (fun h79 => ?_) (fun h79 => ?_)
      · refine q_if_eq (tgt := 94) hA (by decide) dX10_count_82 (by decide) (fun h82 => absurd h82 (by decide)) (fun h82 => ?_)
        refine q_aload_n (j := 0) hA rfl dX10_count_85 ?_
        refine q_getR hA f_X10_7 dX10_count_86 sx_283 (by decide) fx_283_0 ?_
        refine q_iconst hA dX10_count_89 ?_
        refine q_iald (x := D 284 2) hA dX10_count_90 sx_284 (by omega) (by decide) rfl ?_
        refine q_goto (tgt := 96) hA dX10_count_91 (by decide) ?_
        exact hR 96 _ _ _ dX10_count_96 ⟨(by unfold cntR; rw [mN, mF, mB, mE, hsw3]; first | exact (if_pos h79).symm | exact (if_neg h79).symm), rfl⟩
      · refine q_if_eq (tgt := 94) hA (by decide) dX10_count_82 (by decide) (fun h82 => ?_) (fun h82 => absurd h82 (by decide))
        refine q_bipush hA (by decide) dX10_count_94 ?_
        exact hR 96 _ _ _ dX10_count_96 ⟨(by unfold cntR; rw [mN, mF, mB, mE, hsw3]; first | exact (if_pos h79).symm | exact (if_neg h79).symm), rfl⟩
    · refine q_tblIn (tgt := 97) (off := 96) hA (by omega) dX10_count_1 (by omega) (by rw [hsw3]; rfl) (by decide) ?_
      refine q_aload_n (j := 0) hA rfl dX10_count_97 ?_
      refine q_getR hA f_X10_7 dX10_count_98 sx_283 (by decide) fx_283_0 ?_
      refine q_iconst hA dX10_count_101 ?_
      refine q_iald (x := D 284 3) hA dX10_count_102 sx_284 (by omega) (by decide) rfl ?_
      exact hR 103 _ _ _ dX10_count_103 ⟨(by unfold cntR; rw [mN, mF, mB, mE, hsw3]; rfl), rfl⟩
    · refine q_tblIn (tgt := 104) (off := 103) hA (by omega) dX10_count_1 (by omega) (by rw [hsw3]; rfl) (by decide) ?_
      refine q_aload_n (j := 0) hA rfl dX10_count_104 ?_
      refine q_iconst hA dX10_count_105 ?_
      refine q_callVP (b := 283) (As := [vI 0]) (st := []) hA l_X10_284 kX10_setOf (zX10_setOf (by first | assumption | omega | rfl) (by first | assumption | omega | rfl)) dX10_count_106 rfl rfl sx_283 (by decide) rfl (Nat.le_of_ble_eq_true rfl) (by omega) ?_
      refine q_nmI (fun v106 ev106 => ?_)
      exact hR 109 _ _ _ dX10_count_109 ⟨(by unfold cntR; rw [mN, mF, mB, mE, hsw3]; exact ev106), rfl⟩
    · refine q_tblIn (tgt := 110) (off := 109) hA (by omega) dX10_count_1 (by omega) (by rw [hsw3]; rfl) (by decide) ?_
      refine q_aload_n (j := 0) hA rfl dX10_count_110 ?_
      refine q_iconst hA dX10_count_111 ?_
      refine q_callVP (b := 283) (As := [vI 1]) (st := []) hA l_X10_284 kX10_setOf (zX10_setOf (by first | assumption | omega | rfl) (by first | assumption | omega | rfl)) dX10_count_112 rfl rfl sx_283 (by decide) rfl (Nat.le_of_ble_eq_true rfl) (by omega) ?_
      refine q_nmI (fun v112 ev112 => ?_)
      exact hR 115 _ _ _ dX10_count_115 ⟨(by unfold cntR; rw [mN, mF, mB, mE, hsw3]; exact ev112), rfl⟩
    · refine q_tblIn (tgt := 116) (off := 115) hA (by omega) dX10_count_1 (by omega) (by rw [hsw3]; rfl) (by decide) ?_
      refine q_aload_n (j := 0) hA rfl dX10_count_116 ?_
      refine q_callVP (b := 283) (As := []) (st := []) hA l_X10_288 kX10_wearOfAll (zX10_wearOfAll (by first | assumption | omega | rfl)) dX10_count_117 rfl rfl sx_283 (by decide) rfl (Nat.le_of_ble_eq_true rfl) (by omega) ?_
      refine q_nmI (fun v117 ev117 => ?_)
      exact hR 120 _ _ _ dX10_count_120 ⟨(by unfold cntR; rw [mN, mF, mB, mE, hsw3]; exact ev117), rfl⟩
    · refine q_tblIn (tgt := 121) (off := 120) hA (by omega) dX10_count_1 (by omega) (by rw [hsw3]; rfl) (by decide) ?_
      refine q_aload_n (j := 0) hA rfl dX10_count_121 ?_
      refine q_getI (x := D 283 6) hA f_X10_130 dX10_count_122 sx_283 (by decide) rfl ?_
      exact hR 125 _ _ _ dX10_count_125 ⟨(by unfold cntR; rw [mN, mF, mB, mE, hsw3]; rfl), rfl⟩
    · refine q_tblIn (tgt := 126) (off := 125) hA (by omega) dX10_count_1 (by omega) (by rw [hsw3]; rfl) (by decide) ?_
      refine q_aload_n (j := 0) hA rfl dX10_count_126 ?_
      refine q_getI (x := D 283 2) hA f_X10_81 dX10_count_127 sx_283 (by decide) rfl ?_
      exact hR 130 _ _ _ dX10_count_130 ⟨(by unfold cntR; rw [mN, mF, mB, mE, hsw3]; rfl), rfl⟩
set_option maxHeartbeats 4000000 in
set_option maxRecDepth 100000 in
theorem zX10_isSheet {g : Gm} {l : Launch} {D : Dat} {x : Int} (rx : -2147483648 ≤ x ∧ x ≤ 2147483647) : CrB g l 2 mX10_isSheet [vI x] D (0 ≤ x ∧ x ≤ 3) := by
  unfold CrB
  refine Cr.ofZ (lo0 := [vI x]) (by decide) (Nat.le_of_ble_eq_true rfl) rfl (fun J hA hR => ?_)
  refine q_iload_n (j := 0) hA rfl dX10_isSheet_0 ?_
  refine q_i2l hA (by omega) dX10_isSheet_1 ?_
  refine q_lconst hA dX10_isSheet_2 ?_
  show J _ _ (vL 0 :: _) _
  refine q_ldc2 hA c_X10_233 dX10_isSheet_3 ?_
  refine q_callSB (As := [vL x, vL 0, vL 3]) (st := []) hA l_X10_77 kX10_in (zX10_in (by first | assumption | omega | rfl) (by first | assumption | omega | rfl) (by first | assumption | omega | rfl)) dX10_isSheet_6 rfl rfl (Nat.le_of_ble_eq_true rfl) (by omega) (fun h6 => ?_) (fun h6 => ?_)
  · exact hR 9 _ _ _ dX10_isSheet_9 (Or.inr rfl) ⟨rfl, Or.inl ⟨(by omega), rfl⟩⟩
  · exact hR 9 _ _ _ dX10_isSheet_9 (Or.inl rfl) ⟨rfl, Or.inr ⟨(by omega), rfl⟩⟩
set_option maxHeartbeats 4000000 in
set_option maxRecDepth 100000 in
theorem zX10_cut {g : Gm} {l : Launch} {D : Dat} {x : Int} {n : Int} (hx : -9223372036854775808 ≤ x ∧ x ≤ 9223372036854775807) (hn : 0 ≤ n ∧ n ≤ 3) : CrQ g l 1 mX10_cut [vL x, vI n] D (cutL n x) := by
  unfold CrQ
  refine Cr.ofL (lo0 := [vL x, vN, vI n]) (by decide) (Nat.le_of_ble_eq_true rfl) rfl (fun J hA hR => ?_)
  have b1 := toB_in x
  have b2 := toS_in x
  have b3 := w32_in x
  refine q_iload_n (j := 2) hA rfl dX10_cut_0 ?_
  refine q_if_ne (tgt := 11) hA (by omega) dX10_cut_1 (by decide) (fun h1 => ?_) (fun h1 => ?_)
  · refine q_iload_n (j := 2) hA rfl dX10_cut_11 ?_
    refine q_iconst hA dX10_cut_12 ?_
    refine q_icmp_ne (tgt := 23) hA (by omega) (by omega) dX10_cut_13 (by decide) (fun h13 => ?_) (fun h13 => ?_)
    · refine q_iload_n (j := 2) hA rfl dX10_cut_23 ?_
      refine q_iconst hA dX10_cut_24 ?_
      refine q_icmp_ne (tgt := 34) hA (by omega) (by omega) dX10_cut_25 (by decide) (fun h25 => ?_) (fun h25 => ?_)
      · refine q_lload_n (j := 0) hA rfl dX10_cut_34 ?_
        exact hR 35 _ _ _ dX10_cut_35 ⟨(by unfold cutL; first | rw [if_pos (by omega)] | rw [if_neg (by omega), if_pos (by omega)] | rw [if_neg (by omega), if_neg (by omega), if_pos (by omega)] | rw [if_neg (by omega), if_neg (by omega), if_neg (by omega)]), rfl⟩
      · refine q_lload_n (j := 0) hA rfl dX10_cut_28 ?_
        refine q_l2i hA dX10_cut_29 ?_
        refine q_w32 hA ?_
        refine q_i2l hA (by omega) dX10_cut_30 ?_
        refine q_goto (tgt := 35) hA dX10_cut_31 (by decide) ?_
        exact hR 35 _ _ _ dX10_cut_35 ⟨(by unfold cutL; first | rw [if_pos (by omega)] | rw [if_neg (by omega), if_pos (by omega)] | rw [if_neg (by omega), if_neg (by omega), if_pos (by omega)] | rw [if_neg (by omega), if_neg (by omega), if_neg (by omega)]), rfl⟩
    · refine q_lload_n (j := 0) hA rfl dX10_cut_16 ?_
      refine q_l2i hA dX10_cut_17 ?_
      refine q_i2s hA dX10_cut_18 ?_
      refine q_i2l hA (by omega) dX10_cut_19 ?_
      refine q_goto (tgt := 35) hA dX10_cut_20 (by decide) ?_
      exact hR 35 _ _ _ dX10_cut_35 ⟨(by unfold cutL; first | rw [if_pos (by omega)] | rw [if_neg (by omega), if_pos (by omega)] | rw [if_neg (by omega), if_neg (by omega), if_pos (by omega)] | rw [if_neg (by omega), if_neg (by omega), if_neg (by omega)]), rfl⟩
  · refine q_lload_n (j := 0) hA rfl dX10_cut_4 ?_
    refine q_l2i hA dX10_cut_5 ?_
    refine q_i2b hA dX10_cut_6 ?_
    refine q_i2l hA (by omega) dX10_cut_7 ?_
    refine q_goto (tgt := 35) hA dX10_cut_8 (by decide) ?_
    exact hR 35 _ _ _ dX10_cut_35 ⟨(by unfold cutL; first | rw [if_pos (by omega)] | rw [if_neg (by omega), if_pos (by omega)] | rw [if_neg (by omega), if_neg (by omega), if_pos (by omega)] | rw [if_neg (by omega), if_neg (by omega), if_neg (by omega)]), rfl⟩
set_option maxHeartbeats 4000000 in
set_option maxRecDepth 100000 in
theorem zX10_sheet_L51 {g : Gm} {l : Launch} {D : Dat} {s : Int} {n : Int} {k : Int} (rs : -2147483648 ≤ s ∧ s ≤ 2147483647) (rn : -2147483648 ≤ n ∧ n ≤ 2147483647) (rk : -2147483648 ≤ k ∧ k ≤ 2147483647)  (hb : ((0 ≤ s ∧ s ≤ 3) ∧ (0 ≤ n ∧ n ≤ 3) ∧ k ≤ 24) ∧ 0 ≤ k) {J : JT} (hA : AX g l RX10 cX10_sheet 5 3 J) (hR : ReI cX10_sheet (fun v D1 => (¬ ((0 ≤ s ∧ s ≤ 3) ∧ (0 ≤ n ∧ n ≤ 3) ∧ k ≤ 24) ∧ v = -1 ∧ D1 = D) ∨ (((0 ≤ s ∧ s ≤ 3) ∧ (0 ≤ n ∧ n ≤ 3) ∧ k ≤ 24) ∧ k < 0 ∧ v = -14 ∧ D1 = D) ∨ (((0 ≤ s ∧ s ≤ 3) ∧ (0 ≤ n ∧ n ≤ 3) ∧ k ≤ 24) ∧ 0 ≤ k ∧ v = k ∧ zrF (upD (upD D 295 s n) 296 s k) D1 s 24)) J) : ∀ (fuel : Nat) (i : Int) (E : Dat), (0 ≤ i ∧ i ≤ 24) → (zrF (upD (upD D 295 s n) 296 s k) E s i) → 24 - i < (fuel : Int) → J 51 [vR 283, vI s, vI n, vI k, vI i] [] E := by
  intro fuel
  induction fuel with
  | zero => intro i E hi hz hMs; exact absurd hMs (by omega)
  | succ fuel ih =>
    intro i E hi hz hMs
    refine q_iload (j := 4) hA rfl dX10_sheet_51 ?_
    refine q_bipush hA (by decide) dX10_sheet_53 ?_
    refine q_icmp_ge (tgt := 77) hA (by omega) (by omega) dX10_sheet_55 (by decide) (fun h55 => ?_) (fun h55 => ?_)
    · refine q_iload_n (j := 3) hA rfl dX10_sheet_77 ?_
      exact hR 78 _ _ _ dX10_sheet_78 (by rw [show i = 24 by omega] at hz; exact Or.inr (Or.inr ⟨hb.1, hb.2, rfl, hz⟩))
    · refine q_aload_n (j := 0) hA rfl dX10_sheet_58 ?_
      refine q_getR hA f_X10_50 dX10_sheet_59 sx_283 (by decide) fx_283_17 ?_
      refine q_bipush hA (by decide) dX10_sheet_62 ?_
      refine q_iload_n (j := 1) hA rfl dX10_sheet_64 ?_
      refine q_imul hA dX10_sheet_65 ?_
      refine q_iload (j := 4) hA rfl dX10_sheet_66 ?_
      refine q_iadd hA dX10_sheet_68 ?_
      refine q_lconst hA dX10_sheet_69 ?_
      show J _ _ (vL 0 :: _) _
      refine q_last hA dX10_sheet_70 sx_297 (by omega) (by decide) ?_
      refine q_iinc (j := 4) (lo2 := [vR 283, vI s, vI n, vI k, vI (i + 1)]) hA dX10_sheet_71 rfl (by decide) rfl rfl ?_
      refine q_goto (tgt := 51) hA dX10_sheet_74 (by decide) ?_
      exact ih _ _ (by omega) (by exact hz.s hi.1) (by omega)
set_option maxHeartbeats 4000000 in
set_option maxRecDepth 100000 in
theorem zX10_sheet {g : Gm} {l : Launch} {D : Dat} {s : Int} {n : Int} {k : Int} (rs : -2147483648 ≤ s ∧ s ≤ 2147483647) (rn : -2147483648 ≤ n ∧ n ≤ 2147483647) (rk : -2147483648 ≤ k ∧ k ≤ 2147483647) : CrI g l 3 mX10_sheet [vR 283, vI s, vI n, vI k] D (fun v D1 => (¬ ((0 ≤ s ∧ s ≤ 3) ∧ (0 ≤ n ∧ n ≤ 3) ∧ k ≤ 24) ∧ v = -1 ∧ D1 = D) ∨ (((0 ≤ s ∧ s ≤ 3) ∧ (0 ≤ n ∧ n ≤ 3) ∧ k ≤ 24) ∧ k < 0 ∧ v = -14 ∧ D1 = D) ∨ (((0 ≤ s ∧ s ≤ 3) ∧ (0 ≤ n ∧ n ≤ 3) ∧ k ≤ 24) ∧ 0 ≤ k ∧ v = k ∧ zrF (upD (upD D 295 s n) 296 s k) D1 s 24)) := by
  refine Cr.ofI (lo0 := [vR 283, vI s, vI n, vI k, vN]) (by decide) (Nat.le_of_ble_eq_true rfl) rfl (fun J hA hR => ?_)
  refine q_iload_n (j := 1) hA rfl dX10_sheet_0 ?_
  refine q_callSB (As := [vI s]) (st := []) hA l_X10_235 kX10_isSheet (zX10_isSheet (by first | assumption | omega | rfl)) dX10_sheet_1 rfl rfl (Nat.le_of_ble_eq_true rfl) (by omega) (fun h1 => ?_) (fun h1 => ?_)
  · refine q_if_eq (tgt := 25) hA (by decide) dX10_sheet_4 (by decide) (fun h4 => absurd h4 (by decide)) (fun h4 => ?_)
    refine q_iload_n (j := 2) hA rfl dX10_sheet_7 ?_
    refine q_i2l hA (by omega) dX10_sheet_8 ?_
    refine q_lconst hA dX10_sheet_9 ?_
    show J _ _ (vL 0 :: _) _
    refine q_ldc2 hA c_X10_233 dX10_sheet_10 ?_
    refine q_callSB (As := [vL n, vL 0, vL 3]) (st := []) hA l_X10_77 kX10_in (zX10_in (by first | assumption | omega | rfl) (by first | assumption | omega | rfl) (by first | assumption | omega | rfl)) dX10_sheet_13 rfl rfl (Nat.le_of_ble_eq_true rfl) (by omega) (fun h13 => ?_) (fun h13 => ?_)
    · refine q_if_eq (tgt := 25) hA (by decide) dX10_sheet_16 (by decide) (fun h16 => absurd h16 (by decide)) (fun h16 => ?_)
      refine q_iload_n (j := 3) hA rfl dX10_sheet_19 ?_
      refine q_bipush hA (by decide) dX10_sheet_20 ?_
      refine q_icmp_le (tgt := 27) hA (by omega) (by omega) dX10_sheet_22 (by decide) (fun h22 => ?_) (fun h22 => ?_)
      · refine q_iload_n (j := 3) hA rfl dX10_sheet_27 ?_
        refine q_if_ge (tgt := 34) hA (by omega) dX10_sheet_28 (by decide) (fun h28 => ?_) (fun h28 => ?_)
        · refine q_aload_n (j := 0) hA rfl dX10_sheet_34 ?_
          refine q_getR hA f_X10_44 dX10_sheet_35 sx_283 (by decide) fx_283_15 ?_
          refine q_iload_n (j := 1) hA rfl dX10_sheet_38 ?_
          refine q_iload_n (j := 2) hA rfl dX10_sheet_39 ?_
          refine q_iast hA dX10_sheet_40 sx_295 (by omega) (by decide) ?_
          refine q_aload_n (j := 0) hA rfl dX10_sheet_41 ?_
          refine q_getR hA f_X10_47 dX10_sheet_42 sx_283 (by decide) fx_283_16 ?_
          refine q_iload_n (j := 1) hA rfl dX10_sheet_45 ?_
          refine q_iload_n (j := 3) hA rfl dX10_sheet_46 ?_
          refine q_iast hA dX10_sheet_47 sx_296 (by omega) (by decide) ?_
          refine q_iconst hA dX10_sheet_48 ?_
          refine q_istore (j := 4) (lo2 := [vR 283, vI s, vI n, vI k, vI 0]) hA dX10_sheet_49 (by decide) rfl rfl ?_
          refine zX10_sheet_L51 (D := D) (s := s) (n := n) (k := k) rs rn rk (by omega) hA hR 1000 _ _ (by omega) (by exact zrF.z) (by omega)
        · refine q_bipush hA (by decide) dX10_sheet_31 ?_
          exact hR 33 _ _ _ dX10_sheet_33 (by exact Or.inr (Or.inl ⟨by omega, by omega, rfl, rfl⟩))
      · refine q_iconst hA dX10_sheet_25 ?_
        exact hR 26 _ _ _ dX10_sheet_26 (by exact Or.inl ⟨by omega, rfl, rfl⟩)
    · refine q_if_eq (tgt := 25) hA (by decide) dX10_sheet_16 (by decide) (fun h16 => ?_) (fun h16 => absurd h16 (by decide))
      refine q_iconst hA dX10_sheet_25 ?_
      exact hR 26 _ _ _ dX10_sheet_26 (by exact Or.inl ⟨by omega, rfl, rfl⟩)
  · refine q_if_eq (tgt := 25) hA (by decide) dX10_sheet_4 (by decide) (fun h4 => ?_) (fun h4 => absurd h4 (by decide))
    refine q_iconst hA dX10_sheet_25 ?_
    exact hR 26 _ _ _ dX10_sheet_26 (by exact Or.inl ⟨by omega, rfl, rfl⟩)
set_option maxHeartbeats 4000000 in
set_option maxRecDepth 100000 in
theorem zX10_drop {g : Gm} {l : Launch} {D : Dat} {s : Int} (rs : -2147483648 ≤ s ∧ s ≤ 2147483647) (hla : ∀ j : Int, 0 ≤ j → j ≤ 3 → (-1 ≤ D 295 j ∧ D 295 j ≤ 3) ∧ (0 ≤ D 296 j ∧ D 296 j ≤ 24)) : CrI g l 3 mX10_drop [vR 283, vI s] D (fun v D1 => (¬ (0 ≤ s ∧ s ≤ 3) ∧ v = -1 ∧ D1 = D) ∨ ((0 ≤ s ∧ s ≤ 3) ∧ D 295 s < 0 ∧ v = -11 ∧ D1 = D) ∨ ((0 ≤ s ∧ s ≤ 3) ∧ 0 ≤ D 295 s ∧ v = D 296 s ∧ D1 = upD D 295 s (-1))) := by
  refine Cr.ofI (lo0 := [vR 283, vI s]) (by decide) (Nat.le_of_ble_eq_true rfl) rfl (fun J hA hR => ?_)
  refine q_iload_n (j := 1) hA rfl dX10_drop_0 ?_
  refine q_callSB (As := [vI s]) (st := []) hA l_X10_235 kX10_isSheet (zX10_isSheet (by first | assumption | omega | rfl)) dX10_drop_1 rfl rfl (Nat.le_of_ble_eq_true rfl) (by omega) (fun h1 => ?_) (fun h1 => ?_)
  · refine q_if_ne (tgt := 9) hA (by decide) dX10_drop_4 (by decide) (fun h4 => ?_) (fun h4 => absurd h4 (by decide))
    have hq := hla s (by omega) (by omega)
    refine q_aload_n (j := 0) hA rfl dX10_drop_9 ?_
    refine q_getR hA f_X10_44 dX10_drop_10 sx_283 (by decide) fx_283_15 ?_
    refine q_iload_n (j := 1) hA rfl dX10_drop_13 ?_
    refine q_iald (x := D 295 s) hA dX10_drop_14 sx_295 (by omega) (by decide) rfl ?_
    refine q_if_ge (tgt := 21) hA (by omega) dX10_drop_15 (by decide) (fun h15 => ?_) (fun h15 => ?_)
    · refine q_aload_n (j := 0) hA rfl dX10_drop_21 ?_
      refine q_getR hA f_X10_44 dX10_drop_22 sx_283 (by decide) fx_283_15 ?_
      refine q_iload_n (j := 1) hA rfl dX10_drop_25 ?_
      refine q_iconst hA dX10_drop_26 ?_
      refine q_iast hA dX10_drop_27 sx_295 (by omega) (by decide) ?_
      refine q_aload_n (j := 0) hA rfl dX10_drop_28 ?_
      refine q_getR hA f_X10_47 dX10_drop_29 sx_283 (by decide) fx_283_16 ?_
      refine q_iload_n (j := 1) hA rfl dX10_drop_32 ?_
      refine q_iald (x := D 296 s) hA dX10_drop_33 sx_296 (by omega) (by decide) ((upD_n (Or.inl (by omega))).trans (rfl)) ?_
      exact hR 34 _ _ _ dX10_drop_34 (by exact Or.inr (Or.inr ⟨h1, by omega, rfl, rfl⟩))
    · refine q_bipush hA (by decide) dX10_drop_18 ?_
      exact hR 20 _ _ _ dX10_drop_20 (by exact Or.inr (Or.inl ⟨h1, by omega, rfl, rfl⟩))
  · refine q_if_ne (tgt := 9) hA (by decide) dX10_drop_4 (by decide) (fun h4 => absurd h4 (by decide)) (fun h4 => ?_)
    refine q_iconst hA dX10_drop_7 ?_
    exact hR 8 _ _ _ dX10_drop_8 (by exact Or.inl ⟨h1, rfl, rfl⟩)
set_option maxHeartbeats 4000000 in
set_option maxRecDepth 100000 in
theorem zX10_why {g : Gm} {l : Launch} {D : Dat} {s : Int} {n : Int} {i : Int} {k : Int} (hs : 0 ≤ s ∧ s ≤ 3) (hn : 0 ≤ n ∧ n ≤ 3) (ri : -2147483648 ≤ i ∧ i ≤ 2147483647) (hk : 0 ≤ k ∧ k ≤ 24) (hla : ∀ j : Int, 0 ≤ j → j ≤ 3 → (-1 ≤ D 295 j ∧ D 295 j ≤ 3) ∧ (0 ≤ D 296 j ∧ D 296 j ≤ 24)) : CrP g l 1 mX10_why [vR 283, vI s, vI n, vI i, vI k] D (refS (D 295 s) (D 296 s) n i k) := by
  unfold CrP
  refine Cr.ofI (lo0 := [vR 283, vI s, vI n, vI i, vI k]) (by decide) (Nat.le_of_ble_eq_true rfl) rfl (fun J hA hR => ?_)
  have hq := hla s (by omega) (by omega)
  refine q_aload_n (j := 0) hA rfl dX10_why_0 ?_
  refine q_getR hA f_X10_44 dX10_why_1 sx_283 (by decide) fx_283_15 ?_
  refine q_iload_n (j := 1) hA rfl dX10_why_4 ?_
  refine q_iald (x := D 295 s) hA dX10_why_5 sx_295 (by omega) (by decide) rfl ?_
  refine q_if_ge (tgt := 12) hA (by omega) dX10_why_6 (by decide) (fun h6 => ?_) (fun h6 => ?_)
  · refine q_aload_n (j := 0) hA rfl dX10_why_12 ?_
    refine q_getR hA f_X10_44 dX10_why_13 sx_283 (by decide) fx_283_15 ?_
    refine q_iload_n (j := 1) hA rfl dX10_why_16 ?_
    refine q_iald (x := D 295 s) hA dX10_why_17 sx_295 (by omega) (by decide) rfl ?_
    refine q_iload_n (j := 2) hA rfl dX10_why_18 ?_
    refine q_icmp_eq (tgt := 25) hA (by omega) (by omega) dX10_why_19 (by decide) (fun h19 => ?_) (fun h19 => ?_)
    · refine q_iload_n (j := 3) hA rfl dX10_why_25 ?_
      refine q_if_lt (tgt := 42) hA (by omega) dX10_why_26 (by decide) (fun h26 => ?_) (fun h26 => ?_)
      · refine q_bipush hA (by decide) dX10_why_42 ?_
        refine q_goto (tgt := 48) hA dX10_why_44 (by decide) ?_
        exact hR 48 _ _ _ dX10_why_48 ⟨(by unfold refS; rw [if_neg (by omega), if_neg (by omega)]; first | rw [if_pos (by omega)] | rw [if_neg (by omega)]), rfl⟩
      · refine q_iload (j := 4) hA rfl dX10_why_29 ?_
        refine q_aload_n (j := 0) hA rfl dX10_why_31 ?_
        refine q_getR hA f_X10_47 dX10_why_32 sx_283 (by decide) fx_283_16 ?_
        refine q_iload_n (j := 1) hA rfl dX10_why_35 ?_
        refine q_iald (x := D 296 s) hA dX10_why_36 sx_296 (by omega) (by decide) rfl ?_
        refine q_iload_n (j := 3) hA rfl dX10_why_37 ?_
        refine q_isub hA dX10_why_38 ?_
        refine q_icmp_le (tgt := 47) hA (by omega) (by omega) dX10_why_39 (by decide) (fun h39 => ?_) (fun h39 => ?_)
        · refine q_iconst hA dX10_why_47 ?_
          exact hR 48 _ _ _ dX10_why_48 ⟨(by unfold refS; rw [if_neg (by omega), if_neg (by omega)]; first | rw [if_pos (by omega)] | rw [if_neg (by omega)]), rfl⟩
        · refine q_bipush hA (by decide) dX10_why_42 ?_
          refine q_goto (tgt := 48) hA dX10_why_44 (by decide) ?_
          exact hR 48 _ _ _ dX10_why_48 ⟨(by unfold refS; rw [if_neg (by omega), if_neg (by omega)]; first | rw [if_pos (by omega)] | rw [if_neg (by omega)]), rfl⟩
    · refine q_bipush hA (by decide) dX10_why_22 ?_
      exact hR 24 _ _ _ dX10_why_24 ⟨(by unfold refS; rw [if_neg (by omega), if_pos (by omega)]), rfl⟩
  · refine q_bipush hA (by decide) dX10_why_9 ?_
    exact hR 11 _ _ _ dX10_why_11 ⟨(by unfold refS; rw [if_pos (by omega)]), rfl⟩
set_option maxHeartbeats 4000000 in
set_option maxRecDepth 100000 in
theorem zX10_item {g : Gm} {l : Launch} {D : Dat} {s : Int} {n : Int} {i : Int} {x : Int} (rs : -2147483648 ≤ s ∧ s ≤ 2147483647) (rn : -2147483648 ≤ n ∧ n ≤ 2147483647) (ri : -2147483648 ≤ i ∧ i ≤ 2147483647) (hx : -9223372036854775808 ≤ x ∧ x ≤ 9223372036854775807) (hla : ∀ j : Int, 0 ≤ j → j ≤ 3 → (-1 ≤ D 295 j ∧ D 295 j ≤ 3) ∧ (0 ≤ D 296 j ∧ D 296 j ≤ 24)) : CrL g l 3 mX10_item [vR 283, vI s, vI n, vI i, vL x] D (fun v D1 => (¬ ((0 ≤ s ∧ s ≤ 3) ∧ (0 ≤ n ∧ n ≤ 3)) ∧ v = -1 ∧ D1 = D) ∨ (((0 ≤ s ∧ s ≤ 3) ∧ (0 ≤ n ∧ n ≤ 3)) ∧ refS (D 295 s) (D 296 s) n i 1 < 0 ∧ v = refS (D 295 s) (D 296 s) n i 1 ∧ D1 = D) ∨ (((0 ≤ s ∧ s ≤ 3) ∧ (0 ≤ n ∧ n ≤ 3)) ∧ refS (D 295 s) (D 296 s) n i 1 = 0 ∧ v = cutL n x ∧ D1 = upD D 297 (24 * s + i) (cutL n x))) := by
  refine Cr.ofL (lo0 := [vR 283, vI s, vI n, vI i, vL x, vN, vN]) (by decide) (Nat.le_of_ble_eq_true rfl) rfl (fun J hA hR => ?_)
  refine q_iload_n (j := 1) hA rfl dX10_item_0 ?_
  refine q_callSB (As := [vI s]) (st := []) hA l_X10_235 kX10_isSheet (zX10_isSheet (by first | assumption | omega | rfl)) dX10_item_1 rfl rfl (Nat.le_of_ble_eq_true rfl) (by omega) (fun h1 => ?_) (fun h1 => ?_)
  · refine q_if_eq (tgt := 19) hA (by decide) dX10_item_4 (by decide) (fun h4 => absurd h4 (by decide)) (fun h4 => ?_)
    refine q_iload_n (j := 2) hA rfl dX10_item_7 ?_
    refine q_i2l hA (by omega) dX10_item_8 ?_
    refine q_lconst hA dX10_item_9 ?_
    show J _ _ (vL 0 :: _) _
    refine q_ldc2 hA c_X10_233 dX10_item_10 ?_
    refine q_callSB (As := [vL n, vL 0, vL 3]) (st := []) hA l_X10_77 kX10_in (zX10_in (by first | assumption | omega | rfl) (by first | assumption | omega | rfl) (by first | assumption | omega | rfl)) dX10_item_13 rfl rfl (Nat.le_of_ble_eq_true rfl) (by omega) (fun h13 => ?_) (fun h13 => ?_)
    · refine q_if_ne (tgt := 23) hA (by decide) dX10_item_16 (by decide) (fun h16 => ?_) (fun h16 => absurd h16 (by decide))
      refine q_aload_n (j := 0) hA rfl dX10_item_23 ?_
      refine q_iload_n (j := 1) hA rfl dX10_item_24 ?_
      refine q_iload_n (j := 2) hA rfl dX10_item_25 ?_
      refine q_iload_n (j := 3) hA rfl dX10_item_26 ?_
      refine q_iconst hA dX10_item_27 ?_
      refine q_callVP (b := 283) (As := [vI s, vI n, vI i, vI 1]) (st := []) hA l_X10_240 kX10_why (zX10_why (by first | assumption | omega | rfl) (by first | assumption | omega | rfl) (by first | assumption | omega | rfl) (by first | assumption | omega | rfl) (by first | assumption | omega | rfl)) dX10_item_28 rfl rfl sx_283 (by decide) rfl (Nat.le_of_ble_eq_true rfl) (by omega) ?_
      refine q_nmI (fun v28 ev28 => ?_)
      have hw := refS_in (D 295 s) (D 296 s) n i 1
      rw [← ev28] at hw
      refine q_istore (j := 6) (lo2 := [vR 283, vI s, vI n, vI i, vL x, vN, vI v28]) hA dX10_item_31 (by decide) rfl rfl ?_
      refine q_iload (j := 6) hA rfl dX10_item_33 ?_
      refine q_if_ge (tgt := 42) hA (by omega) dX10_item_35 (by decide) (fun h35 => ?_) (fun h35 => ?_)
      · have hw0 := refS_0 (lane := D 295 s) (size := D 296 s) (want := n) (i := i) (n := 1) (by rw [← ev28]; omega)
        have hq := hla s (by omega) (by omega)
        refine q_aload_n (j := 0) hA rfl dX10_item_42 ?_
        refine q_getR hA f_X10_50 dX10_item_43 sx_283 (by decide) fx_283_17 ?_
        refine q_bipush hA (by decide) dX10_item_46 ?_
        refine q_iload_n (j := 1) hA rfl dX10_item_48 ?_
        refine q_imul hA dX10_item_49 ?_
        refine q_iload_n (j := 3) hA rfl dX10_item_50 ?_
        refine q_iadd hA dX10_item_51 ?_
        refine q_lload (j := 4) hA rfl dX10_item_52 ?_
        refine q_iload_n (j := 2) hA rfl dX10_item_54 ?_
        refine q_callSQ (As := [vL x, vI n]) (st := [vI ((24 * s) + i), vR 297]) hA l_X10_244 kX10_cut (zX10_cut (by first | assumption | omega | rfl) (by first | assumption | omega | rfl)) dX10_item_55 rfl rfl (Nat.le_of_ble_eq_true rfl) (by omega) ?_
        refine q_last hA dX10_item_58 sx_297 (by omega) (by decide) ?_
        refine q_aload_n (j := 0) hA rfl dX10_item_59 ?_
        refine q_getR hA f_X10_50 dX10_item_60 sx_283 (by decide) fx_283_17 ?_
        refine q_bipush hA (by decide) dX10_item_63 ?_
        refine q_iload_n (j := 1) hA rfl dX10_item_65 ?_
        refine q_imul hA dX10_item_66 ?_
        refine q_iload_n (j := 3) hA rfl dX10_item_67 ?_
        refine q_iadd hA dX10_item_68 ?_
        refine q_lald (x := cutL n x) hA dX10_item_69 sx_297 (by omega) (by decide) upD_s ?_
        exact hR 70 _ _ _ dX10_item_70 (by exact Or.inr (Or.inr ⟨by omega, by omega, rfl, rfl⟩))
      · refine q_iload (j := 6) hA rfl dX10_item_38 ?_
        refine q_i2l hA (by omega) dX10_item_40 ?_
        exact hR 41 _ _ _ dX10_item_41 (by exact Or.inr (Or.inl ⟨by omega, by omega, ev28, rfl⟩))
    · refine q_if_ne (tgt := 23) hA (by decide) dX10_item_16 (by decide) (fun h16 => absurd h16 (by decide)) (fun h16 => ?_)
      refine q_ldc2 hA c_X10_238 dX10_item_19 ?_
      exact hR 22 _ _ _ dX10_item_22 (by exact Or.inl ⟨by omega, rfl, rfl⟩)
  · refine q_if_eq (tgt := 19) hA (by decide) dX10_item_4 (by decide) (fun h4 => ?_) (fun h4 => absurd h4 (by decide))
    refine q_ldc2 hA c_X10_238 dX10_item_19 ?_
    exact hR 22 _ _ _ dX10_item_22 (by exact Or.inl ⟨by omega, rfl, rfl⟩)
set_option maxHeartbeats 4000000 in
set_option maxRecDepth 100000 in
theorem zX10_copy_L110 {g : Gm} {l : Launch} {D : Dat} {f : Int} {i : Int} {t : Int} {j : Int} {n : Int} (rf : -2147483648 ≤ f ∧ f ≤ 2147483647) (ri : -2147483648 ≤ i ∧ i ≤ 2147483647) (rt : -2147483648 ≤ t ∧ t ≤ 2147483647) (rj : -2147483648 ≤ j ∧ j ≤ 2147483647) (rn : -2147483648 ≤ n ∧ n ≤ 2147483647) (hla : ∀ j : Int, 0 ≤ j → j ≤ 3 → (-1 ≤ D 295 j ∧ D 295 j ≤ 3) ∧ (0 ≤ D 296 j ∧ D 296 j ≤ 24))  (hb : ((0 ≤ f ∧ f ≤ 3) ∧ (0 ≤ t ∧ t ≤ 3)) ∧ (0 ≤ n ∧ 0 ≤ i ∧ 0 ≤ j ∧ i + n ≤ D 296 f ∧ j + n ≤ D 296 t) ∧ D 296 f ≤ 24 ∧ D 296 t ≤ 24) {J : JT} (hA : AX g l RX10 cX10_copy 7 3 J) (hR : ReI cX10_copy (fun v D1 => (¬ ((0 ≤ f ∧ f ≤ 3) ∧ (0 ≤ t ∧ t ≤ 3)) ∧ v = -1 ∧ D1 = D) ∨ (((0 ≤ f ∧ f ≤ 3) ∧ (0 ≤ t ∧ t ≤ 3)) ∧ (D 295 f < 0 ∨ D 295 t < 0) ∧ v = -11 ∧ D1 = D) ∨ (((0 ≤ f ∧ f ≤ 3) ∧ (0 ≤ t ∧ t ≤ 3)) ∧ (0 ≤ D 295 f ∧ 0 ≤ D 295 t) ∧ D 295 f ≠ D 295 t ∧ v = -12 ∧ D1 = D) ∨ (((0 ≤ f ∧ f ≤ 3) ∧ (0 ≤ t ∧ t ≤ 3)) ∧ (0 ≤ D 295 f ∧ D 295 f = D 295 t) ∧ ¬ (0 ≤ n ∧ 0 ≤ i ∧ 0 ≤ j ∧ i + n ≤ D 296 f ∧ j + n ≤ D 296 t) ∧ v = -13 ∧ D1 = D) ∨ (((0 ≤ f ∧ f ≤ 3) ∧ (0 ≤ t ∧ t ≤ 3)) ∧ (0 ≤ D 295 f ∧ D 295 f = D 295 t) ∧ (0 ≤ n ∧ 0 ≤ i ∧ 0 ≤ j ∧ i + n ≤ D 296 f ∧ j + n ≤ D 296 t) ∧ v = n ∧ ∃ C, cpF D C 298 0 297 (24 * f + i) n ∧ cpF C D1 297 (24 * t + j) 298 0 n)) J) (hx : ∀ (k : Int) (C : Dat), (0 ≤ k ∧ k ≤ n) → (cpF D C 298 0 297 (24 * f + i) k) → (k = n) → J 144 [vR 283, vI f, vI i, vI t, vI j, vI n, vI k] [] C) : ∀ (fuel : Nat) (k : Int) (C : Dat), (0 ≤ k ∧ k ≤ n) → (cpF D C 298 0 297 (24 * f + i) k) → n - k < (fuel : Int) → J 110 [vR 283, vI f, vI i, vI t, vI j, vI n, vI k] [] C := by
  intro fuel
  induction fuel with
  | zero => intro k C hk hc hMs; exact absurd hMs (by omega)
  | succ fuel ih =>
    intro k C hk hc hMs
    refine q_iload (j := 6) hA rfl dX10_copy_110 ?_
    refine q_iload (j := 5) hA rfl dX10_copy_112 ?_
    refine q_icmp_ge (tgt := 144) hA (by omega) (by omega) dX10_copy_114 (by decide) (fun h114 => ?_) (fun h114 => ?_)
    · exact hx _ _ hk hc (by omega)
    · refine q_aload_n (j := 0) hA rfl dX10_copy_117 ?_
      refine q_getR hA f_X10_54 dX10_copy_118 sx_283 (by decide) fx_283_18 ?_
      refine q_iload (j := 6) hA rfl dX10_copy_121 ?_
      refine q_aload_n (j := 0) hA rfl dX10_copy_123 ?_
      refine q_getR hA f_X10_50 dX10_copy_124 sx_283 (by decide) fx_283_17 ?_
      refine q_bipush hA (by decide) dX10_copy_127 ?_
      refine q_iload_n (j := 1) hA rfl dX10_copy_129 ?_
      refine q_imul hA dX10_copy_130 ?_
      refine q_iload_n (j := 2) hA rfl dX10_copy_131 ?_
      refine q_iadd hA dX10_copy_132 ?_
      refine q_iload (j := 6) hA rfl dX10_copy_133 ?_
      refine q_iadd hA dX10_copy_135 ?_
      refine q_lald (x := C 297 (((24 * f) + i) + k)) hA dX10_copy_136 sx_297 (by omega) (by decide) rfl ?_
      refine q_last hA dX10_copy_137 sx_298 (by omega) (by decide) ?_
      refine q_iinc (j := 6) (lo2 := [vR 283, vI f, vI i, vI t, vI j, vI n, vI (k + 1)]) hA dX10_copy_138 rfl (by decide) rfl rfl ?_
      refine q_goto (tgt := 110) hA dX10_copy_141 (by decide) ?_
      exact ih _ _ (by omega) (by exact hc.s (by omega) (by omega) (by rw [hc.2.2 297 (by omega)])) (by omega)
set_option maxHeartbeats 4000000 in
set_option maxRecDepth 100000 in
theorem zX10_copy_L147 {g : Gm} {l : Launch} {D : Dat} {f : Int} {i : Int} {t : Int} {j : Int} {n : Int} (rf : -2147483648 ≤ f ∧ f ≤ 2147483647) (ri : -2147483648 ≤ i ∧ i ≤ 2147483647) (rt : -2147483648 ≤ t ∧ t ≤ 2147483647) (rj : -2147483648 ≤ j ∧ j ≤ 2147483647) (rn : -2147483648 ≤ n ∧ n ≤ 2147483647) (hla : ∀ j : Int, 0 ≤ j → j ≤ 3 → (-1 ≤ D 295 j ∧ D 295 j ≤ 3) ∧ (0 ≤ D 296 j ∧ D 296 j ≤ 24)) {C : Dat} (hb : ((0 ≤ f ∧ f ≤ 3) ∧ (0 ≤ t ∧ t ≤ 3)) ∧ (0 ≤ n ∧ 0 ≤ i ∧ 0 ≤ j ∧ i + n ≤ D 296 f ∧ j + n ≤ D 296 t) ∧ D 296 f ≤ 24 ∧ D 296 t ≤ 24) (hC : cpF D C 298 0 297 (24 * f + i) n) (hl : 0 ≤ D 295 f ∧ D 295 f = D 295 t) {J : JT} (hA : AX g l RX10 cX10_copy 7 3 J) (hR : ReI cX10_copy (fun v D1 => (¬ ((0 ≤ f ∧ f ≤ 3) ∧ (0 ≤ t ∧ t ≤ 3)) ∧ v = -1 ∧ D1 = D) ∨ (((0 ≤ f ∧ f ≤ 3) ∧ (0 ≤ t ∧ t ≤ 3)) ∧ (D 295 f < 0 ∨ D 295 t < 0) ∧ v = -11 ∧ D1 = D) ∨ (((0 ≤ f ∧ f ≤ 3) ∧ (0 ≤ t ∧ t ≤ 3)) ∧ (0 ≤ D 295 f ∧ 0 ≤ D 295 t) ∧ D 295 f ≠ D 295 t ∧ v = -12 ∧ D1 = D) ∨ (((0 ≤ f ∧ f ≤ 3) ∧ (0 ≤ t ∧ t ≤ 3)) ∧ (0 ≤ D 295 f ∧ D 295 f = D 295 t) ∧ ¬ (0 ≤ n ∧ 0 ≤ i ∧ 0 ≤ j ∧ i + n ≤ D 296 f ∧ j + n ≤ D 296 t) ∧ v = -13 ∧ D1 = D) ∨ (((0 ≤ f ∧ f ≤ 3) ∧ (0 ≤ t ∧ t ≤ 3)) ∧ (0 ≤ D 295 f ∧ D 295 f = D 295 t) ∧ (0 ≤ n ∧ 0 ≤ i ∧ 0 ≤ j ∧ i + n ≤ D 296 f ∧ j + n ≤ D 296 t) ∧ v = n ∧ ∃ C, cpF D C 298 0 297 (24 * f + i) n ∧ cpF C D1 297 (24 * t + j) 298 0 n)) J) : ∀ (fuel : Nat) (k : Int) (E : Dat), (0 ≤ k ∧ k ≤ n) → (cpF C E 297 (24 * t + j) 298 0 k) → n - k < (fuel : Int) → J 147 [vR 283, vI f, vI i, vI t, vI j, vI n, vI k] [] E := by
  intro fuel
  induction fuel with
  | zero => intro k E hk hc hMs; exact absurd hMs (by omega)
  | succ fuel ih =>
    intro k E hk hc hMs
    refine q_iload (j := 6) hA rfl dX10_copy_147 ?_
    refine q_iload (j := 5) hA rfl dX10_copy_149 ?_
    refine q_icmp_ge (tgt := 182) hA (by omega) (by omega) dX10_copy_151 (by decide) (fun h151 => ?_) (fun h151 => ?_)
    · refine q_iload (j := 5) hA rfl dX10_copy_182 ?_
      exact hR 184 _ _ _ dX10_copy_184 (by rw [show k = n by omega] at hc; exact Or.inr (Or.inr (Or.inr (Or.inr ⟨hb.1, hl, hb.2.1, rfl, C, hC, hc⟩))))
    · refine q_aload_n (j := 0) hA rfl dX10_copy_154 ?_
      refine q_getR hA f_X10_50 dX10_copy_155 sx_283 (by decide) fx_283_17 ?_
      refine q_bipush hA (by decide) dX10_copy_158 ?_
      refine q_iload_n (j := 3) hA rfl dX10_copy_160 ?_
      refine q_imul hA dX10_copy_161 ?_
      refine q_iload (j := 4) hA rfl dX10_copy_162 ?_
      refine q_iadd hA dX10_copy_164 ?_
      refine q_iload (j := 6) hA rfl dX10_copy_165 ?_
      refine q_iadd hA dX10_copy_167 ?_
      refine q_aload_n (j := 0) hA rfl dX10_copy_168 ?_
      refine q_getR hA f_X10_54 dX10_copy_169 sx_283 (by decide) fx_283_18 ?_
      refine q_iload (j := 6) hA rfl dX10_copy_172 ?_
      refine q_lald (x := E 298 k) hA dX10_copy_174 sx_298 (by omega) (by decide) rfl ?_
      refine q_last hA dX10_copy_175 sx_297 (by omega) (by decide) ?_
      refine q_iinc (j := 6) (lo2 := [vR 283, vI f, vI i, vI t, vI j, vI n, vI (k + 1)]) hA dX10_copy_176 rfl (by decide) rfl rfl ?_
      refine q_goto (tgt := 147) hA dX10_copy_179 (by decide) ?_
      exact ih _ _ (by omega) (by exact hc.s (by omega) (by omega) (by first | (rw [hc.2.2 298 (by omega)]; done) | (rw [hc.2.2 298 (by omega)]; congr 1; omega))) (by omega)
set_option maxHeartbeats 4000000 in
set_option maxRecDepth 100000 in
theorem zX10_copy {g : Gm} {l : Launch} {D : Dat} {f : Int} {i : Int} {t : Int} {j : Int} {n : Int} (rf : -2147483648 ≤ f ∧ f ≤ 2147483647) (ri : -2147483648 ≤ i ∧ i ≤ 2147483647) (rt : -2147483648 ≤ t ∧ t ≤ 2147483647) (rj : -2147483648 ≤ j ∧ j ≤ 2147483647) (rn : -2147483648 ≤ n ∧ n ≤ 2147483647) (hla : ∀ j : Int, 0 ≤ j → j ≤ 3 → (-1 ≤ D 295 j ∧ D 295 j ≤ 3) ∧ (0 ≤ D 296 j ∧ D 296 j ≤ 24)) : CrI g l 3 mX10_copy [vR 283, vI f, vI i, vI t, vI j, vI n] D (fun v D1 => (¬ ((0 ≤ f ∧ f ≤ 3) ∧ (0 ≤ t ∧ t ≤ 3)) ∧ v = -1 ∧ D1 = D) ∨ (((0 ≤ f ∧ f ≤ 3) ∧ (0 ≤ t ∧ t ≤ 3)) ∧ (D 295 f < 0 ∨ D 295 t < 0) ∧ v = -11 ∧ D1 = D) ∨ (((0 ≤ f ∧ f ≤ 3) ∧ (0 ≤ t ∧ t ≤ 3)) ∧ (0 ≤ D 295 f ∧ 0 ≤ D 295 t) ∧ D 295 f ≠ D 295 t ∧ v = -12 ∧ D1 = D) ∨ (((0 ≤ f ∧ f ≤ 3) ∧ (0 ≤ t ∧ t ≤ 3)) ∧ (0 ≤ D 295 f ∧ D 295 f = D 295 t) ∧ ¬ (0 ≤ n ∧ 0 ≤ i ∧ 0 ≤ j ∧ i + n ≤ D 296 f ∧ j + n ≤ D 296 t) ∧ v = -13 ∧ D1 = D) ∨ (((0 ≤ f ∧ f ≤ 3) ∧ (0 ≤ t ∧ t ≤ 3)) ∧ (0 ≤ D 295 f ∧ D 295 f = D 295 t) ∧ (0 ≤ n ∧ 0 ≤ i ∧ 0 ≤ j ∧ i + n ≤ D 296 f ∧ j + n ≤ D 296 t) ∧ v = n ∧ ∃ C, cpF D C 298 0 297 (24 * f + i) n ∧ cpF C D1 297 (24 * t + j) 298 0 n)) := by
  refine Cr.ofI (lo0 := [vR 283, vI f, vI i, vI t, vI j, vI n, vN]) (by decide) (Nat.le_of_ble_eq_true rfl) rfl (fun J hA hR => ?_)
  refine q_iload_n (j := 1) hA rfl dX10_copy_0 ?_
  refine q_callSB (As := [vI f]) (st := []) hA l_X10_235 kX10_isSheet (zX10_isSheet (by first | assumption | omega | rfl)) dX10_copy_1 rfl rfl (Nat.le_of_ble_eq_true rfl) (by omega) (fun h1 => ?_) (fun h1 => ?_)
  · refine q_if_eq (tgt := 14) hA (by decide) dX10_copy_4 (by decide) (fun h4 => absurd h4 (by decide)) (fun h4 => ?_)
    refine q_iload_n (j := 3) hA rfl dX10_copy_7 ?_
    refine q_callSB (As := [vI t]) (st := []) hA l_X10_235 kX10_isSheet (zX10_isSheet (by first | assumption | omega | rfl)) dX10_copy_8 rfl rfl (Nat.le_of_ble_eq_true rfl) (by omega) (fun h8 => ?_) (fun h8 => ?_)
    · refine q_if_ne (tgt := 16) hA (by decide) dX10_copy_11 (by decide) (fun h11 => ?_) (fun h11 => absurd h11 (by decide))
      have hqf := hla f (by omega) (by omega)
      have hqt := hla t (by omega) (by omega)
      refine q_aload_n (j := 0) hA rfl dX10_copy_16 ?_
      refine q_getR hA f_X10_44 dX10_copy_17 sx_283 (by decide) fx_283_15 ?_
      refine q_iload_n (j := 1) hA rfl dX10_copy_20 ?_
      refine q_iald (x := D 295 f) hA dX10_copy_21 sx_295 (by omega) (by decide) rfl ?_
      refine q_if_lt (tgt := 34) hA (by omega) dX10_copy_22 (by decide) (fun h22 => ?_) (fun h22 => ?_)
      · refine q_bipush hA (by decide) dX10_copy_34 ?_
        exact hR 36 _ _ _ dX10_copy_36 (by exact Or.inr (Or.inl ⟨by omega, by omega, rfl, rfl⟩))
      · refine q_aload_n (j := 0) hA rfl dX10_copy_25 ?_
        refine q_getR hA f_X10_44 dX10_copy_26 sx_283 (by decide) fx_283_15 ?_
        refine q_iload_n (j := 3) hA rfl dX10_copy_29 ?_
        refine q_iald (x := D 295 t) hA dX10_copy_30 sx_295 (by omega) (by decide) rfl ?_
        refine q_if_ge (tgt := 37) hA (by omega) dX10_copy_31 (by decide) (fun h31 => ?_) (fun h31 => ?_)
        · refine q_aload_n (j := 0) hA rfl dX10_copy_37 ?_
          refine q_getR hA f_X10_44 dX10_copy_38 sx_283 (by decide) fx_283_15 ?_
          refine q_iload_n (j := 1) hA rfl dX10_copy_41 ?_
          refine q_iald (x := D 295 f) hA dX10_copy_42 sx_295 (by omega) (by decide) rfl ?_
          refine q_aload_n (j := 0) hA rfl dX10_copy_43 ?_
          refine q_getR hA f_X10_44 dX10_copy_44 sx_283 (by decide) fx_283_15 ?_
          refine q_iload_n (j := 3) hA rfl dX10_copy_47 ?_
          refine q_iald (x := D 295 t) hA dX10_copy_48 sx_295 (by omega) (by decide) rfl ?_
          refine q_icmp_eq (tgt := 55) hA (by omega) (by omega) dX10_copy_49 (by decide) (fun h49 => ?_) (fun h49 => ?_)
          · refine q_iload (j := 5) hA rfl dX10_copy_55 ?_
            refine q_if_lt (tgt := 104) hA (by omega) dX10_copy_57 (by decide) (fun h57 => ?_) (fun h57 => ?_)
            · refine q_bipush hA (by decide) dX10_copy_104 ?_
              exact hR 106 _ _ _ dX10_copy_106 (by exact Or.inr (Or.inr (Or.inr (Or.inl ⟨by omega, by omega, by omega, rfl, rfl⟩))))
            · refine q_iload_n (j := 2) hA rfl dX10_copy_60 ?_
              refine q_if_lt (tgt := 104) hA (by omega) dX10_copy_61 (by decide) (fun h61 => ?_) (fun h61 => ?_)
              · refine q_bipush hA (by decide) dX10_copy_104 ?_
                exact hR 106 _ _ _ dX10_copy_106 (by exact Or.inr (Or.inr (Or.inr (Or.inl ⟨by omega, by omega, by omega, rfl, rfl⟩))))
              · refine q_iload (j := 4) hA rfl dX10_copy_64 ?_
                refine q_if_lt (tgt := 104) hA (by omega) dX10_copy_66 (by decide) (fun h66 => ?_) (fun h66 => ?_)
                · refine q_bipush hA (by decide) dX10_copy_104 ?_
                  exact hR 106 _ _ _ dX10_copy_106 (by exact Or.inr (Or.inr (Or.inr (Or.inl ⟨by omega, by omega, by omega, rfl, rfl⟩))))
                · refine q_iload_n (j := 2) hA rfl dX10_copy_69 ?_
                  refine q_i2l hA (by omega) dX10_copy_70 ?_
                  refine q_iload (j := 5) hA rfl dX10_copy_71 ?_
                  refine q_i2l hA (by omega) dX10_copy_73 ?_
                  refine q_ladd hA dX10_copy_74 ?_
                  refine q_aload_n (j := 0) hA rfl dX10_copy_75 ?_
                  refine q_getR hA f_X10_47 dX10_copy_76 sx_283 (by decide) fx_283_16 ?_
                  refine q_iload_n (j := 1) hA rfl dX10_copy_79 ?_
                  refine q_iald (x := D 296 f) hA dX10_copy_80 sx_296 (by omega) (by decide) rfl ?_
                  refine q_i2l hA (by omega) dX10_copy_81 ?_
                  refine q_lcmp hA (by omega) (by omega) dX10_copy_82 ?_
                  have hc82 := cmpL_spec (i + n) (D 296 f)
                  refine q_if_gt (tgt := 104) hA (by omega) dX10_copy_83 (by decide) (fun h83 => ?_) (fun h83 => ?_)
                  · refine q_bipush hA (by decide) dX10_copy_104 ?_
                    exact hR 106 _ _ _ dX10_copy_106 (by exact Or.inr (Or.inr (Or.inr (Or.inl ⟨by omega, by omega, by omega, rfl, rfl⟩))))
                  · refine q_iload (j := 4) hA rfl dX10_copy_86 ?_
                    refine q_i2l hA (by omega) dX10_copy_88 ?_
                    refine q_iload (j := 5) hA rfl dX10_copy_89 ?_
                    refine q_i2l hA (by omega) dX10_copy_91 ?_
                    refine q_ladd hA dX10_copy_92 ?_
                    refine q_aload_n (j := 0) hA rfl dX10_copy_93 ?_
                    refine q_getR hA f_X10_47 dX10_copy_94 sx_283 (by decide) fx_283_16 ?_
                    refine q_iload_n (j := 3) hA rfl dX10_copy_97 ?_
                    refine q_iald (x := D 296 t) hA dX10_copy_98 sx_296 (by omega) (by decide) rfl ?_
                    refine q_i2l hA (by omega) dX10_copy_99 ?_
                    refine q_lcmp hA (by omega) (by omega) dX10_copy_100 ?_
                    have hc100 := cmpL_spec (j + n) (D 296 t)
                    refine q_if_le (tgt := 107) hA (by omega) dX10_copy_101 (by decide) (fun h101 => ?_) (fun h101 => ?_)
                    · refine q_iconst hA dX10_copy_107 ?_
                      refine q_istore (j := 6) (lo2 := [vR 283, vI f, vI i, vI t, vI j, vI n, vI 0]) hA dX10_copy_108 (by decide) rfl rfl ?_
                      refine zX10_copy_L110 (D := D) (f := f) (i := i) (t := t) (j := j) (n := n) rf ri rt rj rn hla (by omega) hA hR (fun k C hk hc hx => ?_) 1000 _ _ (by omega) (by exact cpF.z) (by omega)
                      refine q_iconst hA dX10_copy_144 ?_
                      refine q_istore (j := 6) (lo2 := [vR 283, vI f, vI i, vI t, vI j, vI n, vI 0]) hA dX10_copy_145 (by decide) rfl rfl ?_
                      refine zX10_copy_L147 (D := D) (f := f) (i := i) (t := t) (j := j) (n := n) rf ri rt rj rn hla (by omega) (hx ▸ hc) (by omega) hA hR 1000 _ _ (by omega) (by exact cpF.z) (by omega)
                    · refine q_bipush hA (by decide) dX10_copy_104 ?_
                      exact hR 106 _ _ _ dX10_copy_106 (by exact Or.inr (Or.inr (Or.inr (Or.inl ⟨by omega, by omega, by omega, rfl, rfl⟩))))
          · refine q_bipush hA (by decide) dX10_copy_52 ?_
            exact hR 54 _ _ _ dX10_copy_54 (by exact Or.inr (Or.inr (Or.inl ⟨by omega, by omega, by omega, rfl, rfl⟩)))
        · refine q_bipush hA (by decide) dX10_copy_34 ?_
          exact hR 36 _ _ _ dX10_copy_36 (by exact Or.inr (Or.inl ⟨by omega, by omega, rfl, rfl⟩))
    · refine q_if_ne (tgt := 16) hA (by decide) dX10_copy_11 (by decide) (fun h11 => absurd h11 (by decide)) (fun h11 => ?_)
      refine q_iconst hA dX10_copy_14 ?_
      exact hR 15 _ _ _ dX10_copy_15 (by exact Or.inl ⟨by omega, rfl, rfl⟩)
  · refine q_if_eq (tgt := 14) hA (by decide) dX10_copy_4 (by decide) (fun h4 => ?_) (fun h4 => absurd h4 (by decide))
    refine q_iconst hA dX10_copy_14 ?_
    exact hR 15 _ _ _ dX10_copy_15 (by exact Or.inl ⟨by omega, rfl, rfl⟩)
set_option maxHeartbeats 4000000 in
set_option maxRecDepth 100000 in
theorem zX10_stateNow {g : Gm} {l : Launch} {D : Dat} (hgd : gdR (rowM D 284 0)) : CrP g l 1 mX10_stateNow [vR 283] D (8 * D 284 1 + D 284 2) := by
  unfold CrP
  refine Cr.ofI (lo0 := [vR 283]) (by decide) (Nat.le_of_ble_eq_true rfl) rfl (fun J hA hR => ?_)
  have hok : mOk D 284 := hgd.1.2.1
  have hn := hok.n
  have hgF := hgd.1.2.2.1
  have hgB := hgd.1.2.2.2
  rw [mF, mN] at hgF
  rw [mB, mN] at hgB
  have hn8 : rN (rowM D 284 0) ≤ 8 := hgd.1.2.1.2.1
  refine q_bipush hA (by decide) dX10_stateNow_0 ?_
  refine q_aload_n (j := 0) hA rfl dX10_stateNow_2 ?_
  refine q_getR hA f_X10_7 dX10_stateNow_3 sx_283 (by decide) fx_283_0 ?_
  refine q_iconst hA dX10_stateNow_6 ?_
  refine q_iald (x := D 284 1) hA dX10_stateNow_7 sx_284 (by omega) (by decide) rfl ?_
  refine q_imul hA dX10_stateNow_8 ?_
  refine q_aload_n (j := 0) hA rfl dX10_stateNow_9 ?_
  refine q_getR hA f_X10_7 dX10_stateNow_10 sx_283 (by decide) fx_283_0 ?_
  refine q_iconst hA dX10_stateNow_13 ?_
  refine q_iald (x := D 284 2) hA dX10_stateNow_14 sx_284 (by omega) (by decide) rfl ?_
  refine q_iadd hA dX10_stateNow_15 ?_
  exact hR 16 _ _ _ dX10_stateNow_16 ⟨(by first | rfl | omega), rfl⟩
set_option maxHeartbeats 4000000 in
set_option maxRecDepth 100000 in
theorem zX10_next {g : Gm} {l : Launch} {D : Dat} (hgd : gdR (rowM D 284 0)) {z : Int} {m : Int} (hz : zOk (rowM D 284 0) z) (hm : 0 ≤ m ∧ m ≤ 2) : CrP g l 4 mX10_next [vR 283, vI z, vI m] D (bhR (rowM D 284 0) z m) := by
  unfold CrP
  refine Cr.ofI (lo0 := [vR 283, vI z, vI m, vN, vN, vN]) (by decide) (Nat.le_of_ble_eq_true rfl) rfl (fun J hA hR => ?_)
  have hok : mOk D 284 := hgd.1.2.1
  have hn := hok.n
  have hgF := hgd.1.2.2.1
  have hgB := hgd.1.2.2.2
  rw [mF, mN] at hgF
  rw [mB, mN] at hgB
  have hn8 : rN (rowM D 284 0) ≤ 8 := hgd.1.2.1.2.1
  obtain ⟨hz0, hz1, hz2, hz3⟩ := hz
  refine q_iload_n (j := 1) hA rfl dX10_next_0 ?_
  refine q_bipush hA (by decide) dX10_next_1 ?_
  refine q_idiv hA (by omega) (by omega) dX10_next_3 ?_
  refine q_nmI (fun f ef => ?_)
  refine q_istore_n (j := 3) (lo2 := [vR 283, vI z, vI m, vI f, vN, vN]) hA dX10_next_4 (by decide) rfl rfl ?_
  refine q_iload_n (j := 1) hA rfl dX10_next_5 ?_
  refine q_bipush hA (by decide) dX10_next_6 ?_
  refine q_irem hA (by omega) (by omega) dX10_next_8 ?_
  refine q_nmI (fun b eb => ?_)
  refine q_istore (j := 4) (lo2 := [vR 283, vI z, vI m, vI f, vI b, vN]) hA dX10_next_9 (by decide) rfl rfl ?_
  have hL : (0 ≤ f ∧ f < rN (rowM D 284 0)) ∧ (0 ≤ b ∧ b < rN (rowM D 284 0)) ∧ tb (rL (rowM D 284 0) f) b = true := by rw [ef, eb]; exact ⟨hz1, hz2, hz3⟩
  have hL2 := hL
  rw [mN] at hL2
  refine q_iload_n (j := 2) hA rfl dX10_next_11 ?_
  refine q_iconst hA dX10_next_12 ?_
  refine q_icmp_ne (tgt := 24) hA (by omega) (by omega) dX10_next_13 (by decide) (fun h13 => ?_) (fun h13 => ?_)
  · refine q_aload_n (j := 0) hA rfl dX10_next_24 ?_
    refine q_getR hA f_X10_7 dX10_next_25 sx_283 (by decide) fx_283_0 ?_
    refine q_bipush hA (by decide) dX10_next_28 ?_
    refine q_aload_n (j := 0) hA rfl dX10_next_30 ?_
    refine q_getR hA f_X10_7 dX10_next_31 sx_283 (by decide) fx_283_0 ?_
    refine q_iconst hA dX10_next_34 ?_
    refine q_iald (x := D 284 0) hA dX10_next_35 sx_284 (by omega) (by decide) rfl ?_
    refine q_iload_n (j := 3) hA rfl dX10_next_36 ?_
    refine q_iload (j := 4) hA rfl dX10_next_37 ?_
    refine q_iload_n (j := 2) hA rfl dX10_next_39 ?_
    refine q_callSP (As := [vR 284, vI 44, vI (D 284 0), vI f, vI b, vI m]) (st := []) hA l_X10_155 kX10_brought (zX10_brought (c := 284) (w := 52) ⟨sx_284, by omega⟩ (by omega) (by omega) hok.lk (by omega) (by omega) (by omega)) dX10_next_40 rfl rfl (Nat.le_of_ble_eq_true rfl) (by omega) ?_
    refine q_nmI (fun v40 ev40 => ?_)
    refine q_istore (j := 5) (lo2 := [vR 283, vI z, vI m, vI f, vI b, vI v40]) hA dX10_next_43 (by decide) rfl rfl ?_
    have htx : v40 = thX (rowM D 284 0) f b m := ev40.trans (gd_br hgd hL2.1 hL2.2.1 hL2.2.2 (by omega))
    have hti := thX_in (r := (rowM D 284 0)) (a := f) (b := b) (s := m) (by omega)
    rw [← htx, mN] at hti
    refine q_iload (j := 5) hA rfl dX10_next_45 ?_
    refine q_bipush hA (by decide) dX10_next_47 ?_
    refine q_icmp_eq (tgt := 61) hA (by omega) (by omega) dX10_next_49 (by decide) (fun h49 => ?_) (fun h49 => ?_)
    · refine q_bipush hA (by decide) dX10_next_61 ?_
      refine q_goto (tgt := 73) hA dX10_next_63 (by decide) ?_
      exact hR 73 _ _ _ dX10_next_73 ⟨(by rw [bh_nx hz0 hm]; first | exact nx_n ef eb hL (by omega) htx (Or.inl (by omega)) | exact nx_n ef eb hL (by omega) htx (Or.inr ⟨by rw [mN]; omega, by rw [mBe (by omega), mWe (by omega)]; exact h55⟩) | exact (show 8 * v40 + f = v40 * 8 + f by omega).trans (nx_s ef eb hL (by omega) htx (by rw [mBe (by omega), mWe (by omega)]; omega))), rfl⟩
    · refine q_aload_n (j := 0) hA rfl dX10_next_52 ?_
      refine q_iload (j := 5) hA rfl dX10_next_53 ?_
      refine q_callVB (b := 283) (As := [vI v40]) (st := []) hA l_X10_142 kX10_isTorn (zX10_isTorn hok (by omega)) dX10_next_55 rfl rfl sx_283 (by decide) rfl (Nat.le_of_ble_eq_true rfl) (by omega) (fun h55 => ?_) (fun h55 => ?_)
      · refine q_if_eq (tgt := 66) hA (by decide) dX10_next_58 (by decide) (fun h58 => absurd h58 (by decide)) (fun h58 => ?_)
        refine q_bipush hA (by decide) dX10_next_61 ?_
        refine q_goto (tgt := 73) hA dX10_next_63 (by decide) ?_
        exact hR 73 _ _ _ dX10_next_73 ⟨(by rw [bh_nx hz0 hm]; first | exact nx_n ef eb hL (by omega) htx (Or.inl (by omega)) | exact nx_n ef eb hL (by omega) htx (Or.inr ⟨by rw [mN]; omega, by rw [mBe (by omega), mWe (by omega)]; exact h55⟩) | exact (show 8 * v40 + f = v40 * 8 + f by omega).trans (nx_s ef eb hL (by omega) htx (by rw [mBe (by omega), mWe (by omega)]; omega))), rfl⟩
      · refine q_if_eq (tgt := 66) hA (by decide) dX10_next_58 (by decide) (fun h58 => ?_) (fun h58 => absurd h58 (by decide))
        refine q_bipush hA (by decide) dX10_next_66 ?_
        refine q_iload (j := 5) hA rfl dX10_next_68 ?_
        refine q_imul hA dX10_next_70 ?_
        refine q_iload_n (j := 3) hA rfl dX10_next_71 ?_
        refine q_iadd hA dX10_next_72 ?_
        exact hR 73 _ _ _ dX10_next_73 ⟨(by rw [bh_nx hz0 hm]; first | exact nx_n ef eb hL (by omega) htx (Or.inl (by omega)) | exact nx_n ef eb hL (by omega) htx (Or.inr ⟨by rw [mN]; omega, by rw [mBe (by omega), mWe (by omega)]; exact h55⟩) | exact (show 8 * v40 + f = v40 * 8 + f by omega).trans (nx_s ef eb hL (by omega) htx (by rw [mBe (by omega), mWe (by omega)]; omega))), rfl⟩
  · refine q_bipush hA (by decide) dX10_next_16 ?_
    refine q_iload (j := 4) hA rfl dX10_next_18 ?_
    refine q_imul hA dX10_next_20 ?_
    refine q_iload_n (j := 3) hA rfl dX10_next_21 ?_
    refine q_iadd hA dX10_next_22 ?_
    exact hR 23 _ _ _ dX10_next_23 ⟨(by rw [bh_nx hz0 hm]; exact (show 8 * b + f = b * 8 + f by omega).trans (nx_t ef eb hL (by omega))), rfl⟩
set_option maxHeartbeats 4000000 in
set_option maxRecDepth 100000 in
theorem zX10_byTurns {g : Gm} {l : Launch} {D : Dat} (hgd : gdR (rowM D 284 0)) {z : Int} {s : Int} (hz : zOk (rowM D 284 0) z) (hs : 0 ≤ s ∧ s ≤ 1) : CrP g l 5 mX10_byTurns [vR 283, vI z, vI s] D (bhR (rowM D 284 0) z (mvC (rowM D 284 0) z s)) := by
  unfold CrP
  refine Cr.ofI (lo0 := [vR 283, vI z, vI s, vN]) (by decide) (Nat.le_of_ble_eq_true rfl) rfl (fun J hA hR => ?_)
  have hok : mOk D 284 := hgd.1.2.1
  have hn := hok.n
  have hgF := hgd.1.2.2.1
  have hgB := hgd.1.2.2.2
  rw [mF, mN] at hgF
  rw [mB, mN] at hgB
  have hn8 : rN (rowM D 284 0) ≤ 8 := hgd.1.2.1.2.1
  refine q_aload_n (j := 0) hA rfl dX10_byTurns_0 ?_
  refine q_iload_n (j := 1) hA rfl dX10_byTurns_1 ?_
  refine q_iload_n (j := 2) hA rfl dX10_byTurns_2 ?_
  refine q_callVP (b := 283) (As := [vI z, vI s]) (st := []) hA l_X10_180 kX10_next (zX10_next hgd hz (by omega)) dX10_byTurns_3 rfl rfl sx_283 (by decide) rfl (Nat.le_of_ble_eq_true rfl) (by omega) ?_
  refine q_nmI (fun v3 ev3 => ?_)
  have i3 := bhR_in (r := (rowM D 284 0)) (z := z) (m := s) hn8
  rw [← ev3] at i3
  refine q_bipush hA (by decide) dX10_byTurns_6 ?_
  refine q_icmp_eq (tgt := 15) hA (by omega) (by omega) dX10_byTurns_8 (by decide) (fun h8 => ?_) (fun h8 => ?_)
  · refine q_aload_n (j := 0) hA rfl dX10_byTurns_15 ?_
    refine q_iload_n (j := 1) hA rfl dX10_byTurns_16 ?_
    refine q_iconst hA dX10_byTurns_17 ?_
    refine q_iload_n (j := 2) hA rfl dX10_byTurns_18 ?_
    refine q_isub hA dX10_byTurns_19 ?_
    refine q_callVP (b := 283) (As := [vI z, vI (1 - s)]) (st := []) hA l_X10_180 kX10_next (zX10_next hgd hz (by omega)) dX10_byTurns_20 rfl rfl sx_283 (by decide) rfl (Nat.le_of_ble_eq_true rfl) (by omega) ?_
    refine q_nmI (fun v20 ev20 => ?_)
    have i20 := bhR_in (r := (rowM D 284 0)) (z := z) (m := 1 - s) hn8
    rw [← ev20] at i20
    refine q_bipush hA (by decide) dX10_byTurns_23 ?_
    refine q_icmp_eq (tgt := 34) hA (by omega) (by omega) dX10_byTurns_25 (by decide) (fun h25 => ?_) (fun h25 => ?_)
    · refine q_iconst hA dX10_byTurns_34 ?_
      refine q_istore_n (j := 3) (lo2 := [vR 283, vI z, vI s, vI 2]) hA dX10_byTurns_35 (by decide) rfl rfl ?_
      refine q_aload_n (j := 0) hA rfl dX10_byTurns_36 ?_
      refine q_iload_n (j := 1) hA rfl dX10_byTurns_37 ?_
      refine q_iload_n (j := 3) hA rfl dX10_byTurns_38 ?_
      refine q_callVP (b := 283) (As := [vI z, vI 2]) (st := []) hA l_X10_180 kX10_next (zX10_next hgd hz (by omega)) dX10_byTurns_39 rfl rfl sx_283 (by decide) rfl (Nat.le_of_ble_eq_true rfl) (by omega) ?_
      refine q_nmI (fun v39 ev39 => ?_)
      exact hR 42 _ _ _ dX10_byTurns_42 ⟨(by unfold mvC; rw [← ev3]; first | (rw [if_pos (by omega)]; exact ev39) | (rw [if_neg (by omega), ← ev20]; first | (rw [if_pos (by omega)]; exact ev39) | (rw [if_neg (by omega)]; exact ev39))), rfl⟩
    · refine q_iconst hA dX10_byTurns_28 ?_
      refine q_iload_n (j := 2) hA rfl dX10_byTurns_29 ?_
      refine q_isub hA dX10_byTurns_30 ?_
      refine q_goto (tgt := 35) hA dX10_byTurns_31 (by decide) ?_
      refine q_istore_n (j := 3) (lo2 := [vR 283, vI z, vI s, vI (1 - s)]) hA dX10_byTurns_35 (by decide) rfl rfl ?_
      refine q_aload_n (j := 0) hA rfl dX10_byTurns_36 ?_
      refine q_iload_n (j := 1) hA rfl dX10_byTurns_37 ?_
      refine q_iload_n (j := 3) hA rfl dX10_byTurns_38 ?_
      refine q_callVP (b := 283) (As := [vI z, vI (1 - s)]) (st := []) hA l_X10_180 kX10_next (zX10_next hgd hz (by omega)) dX10_byTurns_39 rfl rfl sx_283 (by decide) rfl (Nat.le_of_ble_eq_true rfl) (by omega) ?_
      refine q_nmI (fun v39 ev39 => ?_)
      exact hR 42 _ _ _ dX10_byTurns_42 ⟨(by unfold mvC; rw [← ev3]; first | (rw [if_pos (by omega)]; exact ev39) | (rw [if_neg (by omega), ← ev20]; first | (rw [if_pos (by omega)]; exact ev39) | (rw [if_neg (by omega)]; exact ev39))), rfl⟩
  · refine q_iload_n (j := 2) hA rfl dX10_byTurns_11 ?_
    refine q_goto (tgt := 35) hA dX10_byTurns_12 (by decide) ?_
    refine q_istore_n (j := 3) (lo2 := [vR 283, vI z, vI s, vI s]) hA dX10_byTurns_35 (by decide) rfl rfl ?_
    refine q_aload_n (j := 0) hA rfl dX10_byTurns_36 ?_
    refine q_iload_n (j := 1) hA rfl dX10_byTurns_37 ?_
    refine q_iload_n (j := 3) hA rfl dX10_byTurns_38 ?_
    refine q_callVP (b := 283) (As := [vI z, vI s]) (st := []) hA l_X10_180 kX10_next (zX10_next hgd hz (by omega)) dX10_byTurns_39 rfl rfl sx_283 (by decide) rfl (Nat.le_of_ble_eq_true rfl) (by omega) ?_
    refine q_nmI (fun v39 ev39 => ?_)
    exact hR 42 _ _ _ dX10_byTurns_42 ⟨(by unfold mvC; rw [← ev3]; first | (rw [if_pos (by omega)]; exact ev39) | (rw [if_neg (by omega), ← ev20]; first | (rw [if_pos (by omega)]; exact ev39) | (rw [if_neg (by omega)]; exact ev39))), rfl⟩
set_option maxHeartbeats 4000000 in
set_option maxRecDepth 100000 in
theorem zX10_noted {g : Gm} {l : Launch} {D : Dat} {p : Int} : CrV g l 1 mX10_noted [vR 283, vI p] D (fun D1 => D1 = upD D 283 13 p) := by
  refine Cr.ofV (lo0 := [vR 283, vI p]) (by decide) (Nat.le_of_ble_eq_true rfl) rfl (fun J hA hR => ?_)
  refine q_aload_n (j := 0) hA rfl dX10_noted_0 ?_
  refine q_iload_n (j := 1) hA rfl dX10_noted_1 ?_
  refine q_putI hA f_X10_214 dX10_noted_2 sx_283 (by decide) ?_
  show J _ _ _ (upD D 283 13 p)
  exact hR 5 _ _ dX10_noted_5 (by rfl)
set_option maxHeartbeats 4000000 in
set_option maxRecDepth 100000 in
theorem zX10_shownOf {g : Gm} {l : Launch} {D : Dat} {x : Int} (hx : 0 ≤ x ∧ x ≤ 99) : CrP g l 1 mX10_shownOf [vL x] D (x) := by
  unfold CrP
  refine Cr.ofI (lo0 := [vL x, vN]) (by decide) (Nat.le_of_ble_eq_true rfl) rfl (fun J hA hR => ?_)
  refine q_lload_n (j := 0) hA rfl dX10_shownOf_0 ?_
  refine q_l2i hA dX10_shownOf_1 ?_
  exact hR 2 _ _ _ dX10_shownOf_2 ⟨(by first | rfl | omega), rfl⟩
