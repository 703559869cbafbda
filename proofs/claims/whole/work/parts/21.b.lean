set_option maxHeartbeats 4000000 in
set_option maxRecDepth 100000 in
theorem zX7_worthOf {g : Gm} {l : Launch} {D : Dat} {a : Nat} (hs : isStrip a) (ho : sOk D a) {p : Int} (hp : 0 ≤ p ∧ p < D a 6) : CrP g l 2 mX7_worthOf [vR a, vI p] D (D (a + 2) p) := by
  unfold CrP
  refine Cr.ofI (lo0 := [vR a, vI p]) (by decide) (Nat.le_of_ble_eq_true rfl) rfl (fun J hA hR => ?_)
  have hn := ho.n
  refine q_aload_n (j := 0) hA rfl dX7_worthOf_0 ?_
  refine q_iload_n (j := 1) hA rfl dX7_worthOf_1 ?_
  refine q_callVB (b := a) (As := [vI p]) (st := []) hA l_X7_65 kX7_has (zX7_has (by first | assumption | omega | rfl) (by first | assumption | omega | rfl) (by first | assumption | omega | rfl)) dX7_worthOf_2 rfl rfl (strS hs) (by decide) rfl (Nat.le_of_ble_eq_true rfl) (by omega) (fun h2 => ?_) (fun h2 => absurd hp h2)
  refine q_if_eq (tgt := 17) hA (by decide) dX7_worthOf_5 (by decide) (fun h5 => absurd h5 (by decide)) (fun h5 => ?_)
  refine q_aload_n (j := 0) hA rfl dX7_worthOf_8 ?_
  refine q_getR hA f_X7_15 dX7_worthOf_9 (strS hs) (by decide) (strF1 hs) ?_
  refine q_iload_n (j := 1) hA rfl dX7_worthOf_12 ?_
  refine q_iald (x := D (a + 2) p) hA dX7_worthOf_13 (strS2 hs) (by omega) (by decide) rfl ?_
  refine q_goto (tgt := 18) hA dX7_worthOf_14 (by decide) ?_
  exact hR 18 _ _ _ dX7_worthOf_18 ⟨(by first | rfl | omega), rfl⟩
set_option maxHeartbeats 4000000 in
set_option maxRecDepth 100000 in
theorem zX7_shownSet_L4 {g : Gm} {l : Launch} {D : Dat} {a : Nat} (hs : isStrip a) (ho : sOk D a)   {J : JT} (hA : AX g l RX7 cX7_shownSet 3 1 J) (hR : ReI cX7_shownSet (fun v D1 => v = (setOf (fun p => decide (0 < rSh (rowX D a) p)) (D a 6).toNat) ∧ D1 = D) J) : ∀ (fuel : Nat) (acc : Int) (k : Int), (0 ≤ k ∧ k ≤ D a 6) → (acc = setOf (fun p => decide (0 < rSh (rowX D a) p)) k.toNat) → D a 6 - k < (fuel : Int) → J 4 [vR a, vI acc, vI k] [] D := by
  intro fuel
  induction fuel with
  | zero => intro acc k hk hv hMs; exact absurd hMs (by omega)
  | succ fuel ih =>
    intro acc k hk hv hMs
    have hn := ho.n
    have hin := setOf_in (fun p => decide (0 < rSh (rowX D a) p)) k.toNat (by omega)
    refine q_iload_n (j := 2) hA rfl dX7_shownSet_4 ?_
    refine q_aload_n (j := 0) hA rfl dX7_shownSet_5 ?_
    refine q_getI (x := D a 6) hA f_X7_30 dX7_shownSet_6 (strS hs) (by decide) rfl ?_
    refine q_icmp_ge (tgt := 33) hA (by omega) (by omega) dX7_shownSet_9 (by decide) (fun h9 => ?_) (fun h9 => ?_)
    · refine q_iload_n (j := 1) hA rfl dX7_shownSet_33 ?_
      exact hR 34 _ _ _ dX7_shownSet_34 ⟨(by rw [hv, show k = D a 6 by omega]), rfl⟩
    · have hat := ho.at (p := k) (by omega)
      refine q_aload_n (j := 0) hA rfl dX7_shownSet_12 ?_
      refine q_getR hA f_X7_24 dX7_shownSet_13 (strS hs) (by decide) (strF4 hs) ?_
      refine q_iload_n (j := 2) hA rfl dX7_shownSet_16 ?_
      refine q_iald (x := D (a + 5) k) hA dX7_shownSet_17 (strS5 hs) (by omega) (by decide) rfl ?_
      refine q_if_le (tgt := 27) hA (by omega) dX7_shownSet_18 (by decide) (fun h18 => ?_) (fun h18 => ?_)
      · refine q_iinc (j := 2) (lo2 := [vR a, vI acc, vI (k + 1)]) hA dX7_shownSet_27 rfl (by decide) rfl rfl ?_
        refine q_goto (tgt := 4) hA dX7_shownSet_30 (by decide) ?_
        exact ih _ _ (by omega) (by rw [setOf_step (by omega)]; simp only [xSh (D := D) (a := a) (p := k) (by omega), decide_eq_true_eq]; first | rw [if_pos (by omega), hv] | rw [if_neg (by omega), hv]) (by omega)
      · refine q_iload_n (j := 1) hA rfl dX7_shownSet_21 ?_
        refine q_iconst hA dX7_shownSet_22 ?_
        refine q_iload_n (j := 2) hA rfl dX7_shownSet_23 ?_
        refine q_ishl hA dX7_shownSet_24 ?_
        refine q_ior hA dX7_shownSet_25 ?_
        rw [show iOr acc (iShl 1 k) = sb acc k from or8 (by omega) (by omega)]
        refine q_istore_n (j := 1) (lo2 := [vR a, vI (sb acc k), vI k]) hA dX7_shownSet_26 (by decide) rfl rfl ?_
        refine q_iinc (j := 2) (lo2 := [vR a, vI (sb acc k), vI (k + 1)]) hA dX7_shownSet_27 rfl (by decide) rfl rfl ?_
        refine q_goto (tgt := 4) hA dX7_shownSet_30 (by decide) ?_
        exact ih _ _ (by omega) (by rw [setOf_step (by omega)]; simp only [xSh (D := D) (a := a) (p := k) (by omega), decide_eq_true_eq]; first | rw [if_pos (by omega), hv] | rw [if_neg (by omega), hv]) (by omega)
set_option maxHeartbeats 4000000 in
set_option maxRecDepth 100000 in
theorem zX7_shownSet {g : Gm} {l : Launch} {D : Dat} {a : Nat} (hs : isStrip a) (ho : sOk D a) : CrP g l 1 mX7_shownSet [vR a] D (setOf (fun p => decide (0 < rSh (rowX D a) p)) (D a 6).toNat) := by
  unfold CrP
  refine Cr.ofI (lo0 := [vR a, vN, vN]) (by decide) (Nat.le_of_ble_eq_true rfl) rfl (fun J hA hR => ?_)
  have hn := ho.n
  refine q_iconst hA dX7_shownSet_0 ?_
  refine q_istore_n (j := 1) (lo2 := [vR a, vI 0, vN]) hA dX7_shownSet_1 (by decide) rfl rfl ?_
  refine q_iconst hA dX7_shownSet_2 ?_
  refine q_istore_n (j := 2) (lo2 := [vR a, vI 0, vI 0]) hA dX7_shownSet_3 (by decide) rfl rfl ?_
  refine zX7_shownSet_L4 (D := D) (a := a) hs ho  hA hR 1000 _ _ (by omega) (by rfl) (by omega)
set_option maxHeartbeats 4000000 in
set_option maxRecDepth 100000 in
theorem zX7_tornSet_L4 {g : Gm} {l : Launch} {D : Dat} {a : Nat} (hs : isStrip a) (ho : sOk D a)   {J : JT} (hA : AX g l RX7 cX7_tornSet 3 3 J) (hR : ReI cX7_tornSet (fun v D1 => v = (setOf (fun p => decide (rBe (rowX D a) p ≤ rWe (rowX D a) p)) (D a 6).toNat) ∧ D1 = D) J) : ∀ (fuel : Nat) (acc : Int) (k : Int), (0 ≤ k ∧ k ≤ D a 6) → (acc = setOf (fun p => decide (rBe (rowX D a) p ≤ rWe (rowX D a) p)) k.toNat) → D a 6 - k < (fuel : Int) → J 4 [vR a, vI acc, vI k] [] D := by
  intro fuel
  induction fuel with
  | zero => intro acc k hk hv hMs; exact absurd hMs (by omega)
  | succ fuel ih =>
    intro acc k hk hv hMs
    have hn := ho.n
    have hin := setOf_in (fun p => decide (rBe (rowX D a) p ≤ rWe (rowX D a) p)) k.toNat (by omega)
    refine q_iload_n (j := 2) hA rfl dX7_tornSet_4 ?_
    refine q_aload_n (j := 0) hA rfl dX7_tornSet_5 ?_
    refine q_getI (x := D a 6) hA f_X7_30 dX7_tornSet_6 (strS hs) (by decide) rfl ?_
    refine q_icmp_ge (tgt := 32) hA (by omega) (by omega) dX7_tornSet_9 (by decide) (fun h9 => ?_) (fun h9 => ?_)
    · refine q_iload_n (j := 1) hA rfl dX7_tornSet_32 ?_
      exact hR 33 _ _ _ dX7_tornSet_33 ⟨(by rw [hv, show k = D a 6 by omega]), rfl⟩
    · refine q_aload_n (j := 0) hA rfl dX7_tornSet_12 ?_
      refine q_iload_n (j := 2) hA rfl dX7_tornSet_13 ?_
      refine q_callVB (b := a) (As := [vI k]) (st := []) hA l_X7_95 kX7_isTorn (zX7_isTorn (by first | assumption | omega | rfl) (by first | assumption | omega | rfl) (by first | assumption | omega | rfl)) dX7_tornSet_14 rfl rfl (strS hs) (by decide) rfl (Nat.le_of_ble_eq_true rfl) (by omega) (fun h14 => ?_) (fun h14 => ?_)
      · refine q_if_eq (tgt := 26) hA (by decide) dX7_tornSet_17 (by decide) (fun h17 => absurd h17 (by decide)) (fun h17 => ?_)
        refine q_iload_n (j := 1) hA rfl dX7_tornSet_20 ?_
        refine q_iconst hA dX7_tornSet_21 ?_
        refine q_iload_n (j := 2) hA rfl dX7_tornSet_22 ?_
        refine q_ishl hA dX7_tornSet_23 ?_
        refine q_ior hA dX7_tornSet_24 ?_
        rw [show iOr acc (iShl 1 k) = sb acc k from or8 (by omega) (by omega)]
        refine q_istore_n (j := 1) (lo2 := [vR a, vI (sb acc k), vI k]) hA dX7_tornSet_25 (by decide) rfl rfl ?_
        refine q_iinc (j := 2) (lo2 := [vR a, vI (sb acc k), vI (k + 1)]) hA dX7_tornSet_26 rfl (by decide) rfl rfl ?_
        refine q_goto (tgt := 4) hA dX7_tornSet_29 (by decide) ?_
        exact ih _ _ (by omega) (by rw [setOf_step (by omega)]; simp only [xBe (D := D) (a := a) (p := k) (by omega), xWe (D := D) (a := a) (p := k) (by omega), decide_eq_true_eq]; first | rw [if_pos h14.2, hv] | rw [if_neg (fun z => h14 ⟨by omega, z⟩), hv]) (by omega)
      · refine q_if_eq (tgt := 26) hA (by decide) dX7_tornSet_17 (by decide) (fun h17 => ?_) (fun h17 => absurd h17 (by decide))
        refine q_iinc (j := 2) (lo2 := [vR a, vI acc, vI (k + 1)]) hA dX7_tornSet_26 rfl (by decide) rfl rfl ?_
        refine q_goto (tgt := 4) hA dX7_tornSet_29 (by decide) ?_
        exact ih _ _ (by omega) (by rw [setOf_step (by omega)]; simp only [xBe (D := D) (a := a) (p := k) (by omega), xWe (D := D) (a := a) (p := k) (by omega), decide_eq_true_eq]; first | rw [if_pos h14.2, hv] | rw [if_neg (fun z => h14 ⟨by omega, z⟩), hv]) (by omega)
set_option maxHeartbeats 4000000 in
set_option maxRecDepth 100000 in
theorem zX7_tornSet {g : Gm} {l : Launch} {D : Dat} {a : Nat} (hs : isStrip a) (ho : sOk D a) : CrP g l 3 mX7_tornSet [vR a] D (setOf (fun p => decide (rBe (rowX D a) p ≤ rWe (rowX D a) p)) (D a 6).toNat) := by
  unfold CrP
  refine Cr.ofI (lo0 := [vR a, vN, vN]) (by decide) (Nat.le_of_ble_eq_true rfl) rfl (fun J hA hR => ?_)
  have hn := ho.n
  refine q_iconst hA dX7_tornSet_0 ?_
  refine q_istore_n (j := 1) (lo2 := [vR a, vI 0, vN]) hA dX7_tornSet_1 (by decide) rfl rfl ?_
  refine q_iconst hA dX7_tornSet_2 ?_
  refine q_istore_n (j := 2) (lo2 := [vR a, vI 0, vI 0]) hA dX7_tornSet_3 (by decide) rfl rfl ?_
  refine zX7_tornSet_L4 (D := D) (a := a) hs ho  hA hR 1000 _ _ (by omega) (by rfl) (by omega)
set_option maxHeartbeats 4000000 in
set_option maxRecDepth 100000 in
theorem zX7_wearOfAll_L4 {g : Gm} {l : Launch} {D : Dat} {a : Nat} (hs : isStrip a) (ho : sOk D a)   {J : JT} (hA : AX g l RX7 cX7_wearOfAll 3 1 J) (hR : ReI cX7_wearOfAll (fun v D1 => v = (sumOf (fun p => rWe (rowX D a) p) (D a 6).toNat) ∧ D1 = D) J) : ∀ (fuel : Nat) (acc : Int) (k : Int), (0 ≤ k ∧ k ≤ D a 6) → (acc = sumOf (fun p => rWe (rowX D a) p) k.toNat) → D a 6 - k < (fuel : Int) → J 4 [vR a, vI acc, vI k] [] D := by
  intro fuel
  induction fuel with
  | zero => intro acc k hk hv hMs; exact absurd hMs (by omega)
  | succ fuel ih =>
    intro acc k hk hv hMs
    have hn := ho.n
    refine q_iload_n (j := 2) hA rfl dX7_wearOfAll_4 ?_
    refine q_aload_n (j := 0) hA rfl dX7_wearOfAll_5 ?_
    refine q_getI (x := D a 6) hA f_X7_30 dX7_wearOfAll_6 (strS hs) (by decide) rfl ?_
    refine q_icmp_ge (tgt := 27) hA (by omega) (by omega) dX7_wearOfAll_9 (by decide) (fun h9 => ?_) (fun h9 => ?_)
    · refine q_iload_n (j := 1) hA rfl dX7_wearOfAll_27 ?_
      exact hR 28 _ _ _ dX7_wearOfAll_28 ⟨(by rw [hv, show k = D a 6 by omega]), rfl⟩
    · refine q_iload_n (j := 1) hA rfl dX7_wearOfAll_12 ?_
      refine q_aload_n (j := 0) hA rfl dX7_wearOfAll_13 ?_
      refine q_getR hA f_X7_21 dX7_wearOfAll_14 (strS hs) (by decide) (strF3 hs) ?_
      refine q_iload_n (j := 2) hA rfl dX7_wearOfAll_17 ?_
      refine q_iald (x := D (a + 4) k) hA dX7_wearOfAll_18 (strS4 hs) (by omega) (by decide) rfl ?_
      refine q_iadd hA dX7_wearOfAll_19 ?_
      refine q_istore_n (j := 1) (lo2 := [vR a, vI (acc + (D (a + 4) k)), vI k]) hA dX7_wearOfAll_20 (by decide) rfl rfl ?_
      refine q_iinc (j := 2) (lo2 := [vR a, vI (acc + (D (a + 4) k)), vI (k + 1)]) hA dX7_wearOfAll_21 rfl (by decide) rfl rfl ?_
      refine q_goto (tgt := 4) hA dX7_wearOfAll_24 (by decide) ?_
      exact ih _ _ (by omega) (by rw [sumOf_step (by omega), hv, xWe (by omega)]) (by omega)
set_option maxHeartbeats 4000000 in
set_option maxRecDepth 100000 in
theorem zX7_wearOfAll {g : Gm} {l : Launch} {D : Dat} {a : Nat} (hs : isStrip a) (ho : sOk D a) : CrP g l 1 mX7_wearOfAll [vR a] D (sumOf (fun p => rWe (rowX D a) p) (D a 6).toNat) := by
  unfold CrP
  refine Cr.ofI (lo0 := [vR a, vN, vN]) (by decide) (Nat.le_of_ble_eq_true rfl) rfl (fun J hA hR => ?_)
  have hn := ho.n
  refine q_iconst hA dX7_wearOfAll_0 ?_
  refine q_istore_n (j := 1) (lo2 := [vR a, vI 0, vN]) hA dX7_wearOfAll_1 (by decide) rfl rfl ?_
  refine q_iconst hA dX7_wearOfAll_2 ?_
  refine q_istore_n (j := 2) (lo2 := [vR a, vI 0, vI 0]) hA dX7_wearOfAll_3 (by decide) rfl rfl ?_
  refine zX7_wearOfAll_L4 (D := D) (a := a) hs ho  hA hR 1000 _ _ (by omega) (by rfl) (by omega)
set_option maxHeartbeats 4000000 in
set_option maxRecDepth 100000 in
theorem zX7_go {g : Gm} {l : Launch} {D : Dat} {a : Nat} (hs : isStrip a) (ho : sOk D a) {m : Int} (hm : 0 ≤ m ∧ m ≤ 2) (hf : 0 ≤ D a 7 ∧ D a 7 < D a 6) (hb : 0 ≤ D a 8 ∧ D a 8 < D a 6) : CrV g l 4 mX7_go [vR a, vI m] D (fun D1 => rowX D1 a = goR (rowX D a) m ∧ frm a 7 D D1) := by
  refine Cr.ofV (lo0 := [vR a, vI m, vN]) (by decide) (Nat.le_of_ble_eq_true rfl) rfl (fun J hA hR => ?_)
  have hn := ho.n
  refine q_aload_n (j := 0) hA rfl dX7_go_0 ?_
  refine q_iload_n (j := 1) hA rfl dX7_go_1 ?_
  refine q_callVP (b := a) (As := [vI m]) (st := []) hA l_X7_98 kX7_comesBy (zX7_comesBy (by first | assumption | omega | rfl) (by first | assumption | omega | rfl) (by first | assumption | omega | rfl) (by first | assumption | omega | rfl) (by first | assumption | omega | rfl)) dX7_go_2 rfl rfl (strS hs) (by decide) rfl (Nat.le_of_ble_eq_true rfl) (by omega) ?_
  refine q_nmI (fun c ec => ?_)
  refine q_istore_n (j := 2) (lo2 := [vR a, vI m, vI c]) hA dX7_go_5 (by decide) rfl rfl ?_
  have hc := comesR_in (r := rowX D a) (m := m) (by rw [xN]; omega) (by rw [xN, xB]; exact hb)
  rw [← ec, xN] at hc
  refine q_aload_n (j := 0) hA rfl dX7_go_6 ?_
  refine q_iload_n (j := 2) hA rfl dX7_go_7 ?_
  refine q_callVB (b := a) (As := [vI c]) (st := []) hA l_X7_65 kX7_has (zX7_has (by first | assumption | omega | rfl) (by first | assumption | omega | rfl) (by first | assumption | omega | rfl)) dX7_go_8 rfl rfl (strS hs) (by decide) rfl (Nat.le_of_ble_eq_true rfl) (by omega) (fun h8 => ?_) (fun h8 => ?_)
  · refine q_if_ne (tgt := 15) hA (by decide) dX7_go_11 (by decide) (fun h11 => ?_) (fun h11 => absurd h11 (by decide))
    refine q_iload_n (j := 1) hA rfl dX7_go_15 ?_
    refine q_iconst hA dX7_go_16 ?_
    refine q_icmp_ne (tgt := 33) hA (by omega) (by omega) dX7_go_17 (by decide) (fun h17 => ?_) (fun h17 => ?_)
    · have hat := ho.at (p := c) (by omega)
      have hat2 := hat.2.2.2.2.2.2 (by omega)
      have hefr := effK_in (k := D (a + 1) c) (s := D (a + 5) c) (by omega)
      refine q_aload_n (j := 0) hA rfl dX7_go_33 ?_
      refine q_dupR hA dX7_go_34 ?_
      refine q_getI (x := D a 9) hA f_X7_40 dX7_go_35 (strS hs) (by decide) rfl ?_
      refine q_aload_n (j := 0) hA rfl dX7_go_38 ?_
      refine q_iload_n (j := 2) hA rfl dX7_go_39 ?_
      refine q_callVP (b := a) (As := [vI c]) (st := [vI (D a 9), vR a]) hA l_X7_101 kX7_effortOf (zX7_effortOf (by first | assumption | omega | rfl) (by first | assumption | omega | rfl) (by first | assumption | omega | rfl)) dX7_go_40 rfl rfl (strS hs) (by decide) rfl (Nat.le_of_ble_eq_true rfl) (by omega) ?_
      refine q_nmI (fun ef eef => ?_)
      refine q_iadd hA dX7_go_43 ?_
      refine q_putI hA f_X7_40 dX7_go_44 (strS hs) (by decide) ?_
      show J _ _ _ (upD D a 9 ((D a 9) + ef))
      refine q_aload_n (j := 0) hA rfl dX7_go_47 ?_
      refine q_getR hA f_X7_21 dX7_go_48 (strS hs) (by decide) (strF3 hs) ?_
      refine q_iload_n (j := 2) hA rfl dX7_go_51 ?_
      refine q_dup2IR hA dX7_go_52 ?_
      refine q_iald (x := D (a + 4) c) hA dX7_go_53 (strS4 hs) (by omega) (by decide) ((upD_n (Or.inl (by omega))).trans (rfl)) ?_
      refine q_aload_n (j := 0) hA rfl dX7_go_54 ?_
      refine q_getR hA f_X7_9 dX7_go_55 (strS hs) (by decide) (strF0 hs) ?_
      refine q_iload_n (j := 2) hA rfl dX7_go_58 ?_
      refine q_iald (x := D (a + 1) c) hA dX7_go_59 (strS1 hs) (by omega) (by decide) ((upD_n (Or.inl (by omega))).trans (rfl)) ?_
      refine q_callSP (As := [vI (D (a + 1) c)]) (st := [vI (D (a + 4) c), vI c, vR (a + 4)]) hA l_X7_104 kX3_wears (zX3_wears (by first | assumption | omega | rfl)) dX7_go_60 rfl rfl (Nat.le_of_ble_eq_true rfl) (by omega) ?_
      refine q_nmI (fun we ewe => ?_)
      refine q_iadd hA dX7_go_63 ?_
      refine q_iast hA dX7_go_64 (strS4 hs) (by omega) (by decide) ?_
      refine q_aload_n (j := 0) hA rfl dX7_go_65 ?_
      refine q_getR hA f_X7_24 dX7_go_66 (strS hs) (by decide) (strF4 hs) ?_
      refine q_iload_n (j := 2) hA rfl dX7_go_69 ?_
      refine q_bipush hA (by decide) dX7_go_70 ?_
      refine q_aload_n (j := 0) hA rfl dX7_go_72 ?_
      refine q_getR hA f_X7_24 dX7_go_73 (strS hs) (by decide) (strF4 hs) ?_
      refine q_iload_n (j := 2) hA rfl dX7_go_76 ?_
      refine q_iald (x := D (a + 5) c) hA dX7_go_77 (strS5 hs) (by omega) (by decide) ((upD_n (Or.inl (by omega))).trans ((upD_n (Or.inl (by omega))).trans (rfl))) ?_
      refine q_iconst hA dX7_go_78 ?_
      refine q_iadd hA dX7_go_79 ?_
      refine q_min hA mw_X7_82 (by omega) (by omega) (Nat.le_of_ble_eq_true rfl) (by omega) dX7_go_80 ?_
      refine q_iast hA dX7_go_83 (strS5 hs) (by omega) (by decide) ?_
      refine q_aload_n (j := 0) hA rfl dX7_go_84 ?_
      refine q_aload_n (j := 0) hA rfl dX7_go_85 ?_
      refine q_getI (x := D a 7) hA f_X7_34 dX7_go_86 (strS hs) (by decide) ((upD_n (Or.inl (by omega))).trans ((upD_n (Or.inl (by omega))).trans ((upD_n (Or.inr (by decide))).trans (rfl)))) ?_
      refine q_putI hA f_X7_37 dX7_go_89 (strS hs) (by decide) ?_
      show J _ _ _ (upD (upD (upD (upD D a 9 ((D a 9) + ef)) (a + 4) c ((D (a + 4) c) + we)) (a + 5) c (if (D (a + 5) c) + 1 < 99 then (D (a + 5) c) + 1 else 99)) a 8 (D a 7))
      refine q_aload_n (j := 0) hA rfl dX7_go_92 ?_
      refine q_iload_n (j := 2) hA rfl dX7_go_93 ?_
      refine q_putI hA f_X7_34 dX7_go_94 (strS hs) (by decide) ?_
      show J _ _ _ (upD (upD (upD (upD (upD D a 9 ((D a 9) + ef)) (a + 4) c ((D (a + 4) c) + we)) (a + 5) c (if (D (a + 5) c) + 1 < 99 then (D (a + 5) c) + 1 else 99)) a 8 (D a 7)) a 7 c)
      exact hR 97 _ _ dX7_go_97 ⟨(by first | (have hm2 : m = 2 := by omega); subst hm2; rw [goR_turn (by rw [xB]; omega), rx_f, rx_b, rx_e, ec]; rfl | (rw [goR_flex (c := c) (by omega) ec (by omega), rx_f, rx_b, rx_Sh (by omega), rx_We (by omega), rx_e, xK (by omega), xSh (by omega), xWe (by omega), eef, ewe]; rfl)), (by repeat (first | exact frm.rf | assumption | refine frm.up ?_ (by omega) | refine frm.cp ?_ (by omega)))⟩
    · refine q_aload_n (j := 0) hA rfl dX7_go_20 ?_
      refine q_dupR hA dX7_go_21 ?_
      refine q_getI (x := D a 9) hA f_X7_40 dX7_go_22 (strS hs) (by decide) rfl ?_
      refine q_iconst hA dX7_go_25 ?_
      refine q_iadd hA dX7_go_26 ?_
      refine q_putI hA f_X7_40 dX7_go_27 (strS hs) (by decide) ?_
      show J _ _ _ (upD D a 9 ((D a 9) + 1))
      refine q_goto (tgt := 84) hA dX7_go_30 (by decide) ?_
      refine q_aload_n (j := 0) hA rfl dX7_go_84 ?_
      refine q_aload_n (j := 0) hA rfl dX7_go_85 ?_
      refine q_getI (x := D a 7) hA f_X7_34 dX7_go_86 (strS hs) (by decide) ((upD_n (Or.inr (by decide))).trans (rfl)) ?_
      refine q_putI hA f_X7_37 dX7_go_89 (strS hs) (by decide) ?_
      show J _ _ _ (upD (upD D a 9 ((D a 9) + 1)) a 8 (D a 7))
      refine q_aload_n (j := 0) hA rfl dX7_go_92 ?_
      refine q_iload_n (j := 2) hA rfl dX7_go_93 ?_
      refine q_putI hA f_X7_34 dX7_go_94 (strS hs) (by decide) ?_
      show J _ _ _ (upD (upD (upD D a 9 ((D a 9) + 1)) a 8 (D a 7)) a 7 c)
      exact hR 97 _ _ dX7_go_97 ⟨(by first | (have hm2 : m = 2 := by omega); subst hm2; rw [goR_turn (by rw [xB]; omega), rx_f, rx_b, rx_e, ec]; rfl | (rw [goR_flex (c := c) (by omega) ec (by omega), rx_f, rx_b, rx_Sh (by omega), rx_We (by omega), rx_e, xK (by omega), xSh (by omega), xWe (by omega), eef, ewe]; rfl)), (by repeat (first | exact frm.rf | assumption | refine frm.up ?_ (by omega) | refine frm.cp ?_ (by omega)))⟩
  · refine q_if_ne (tgt := 15) hA (by decide) dX7_go_11 (by decide) (fun h11 => absurd h11 (by decide)) (fun h11 => ?_)
    exact hR 14 _ _ dX7_go_14 ⟨(by rw [goR_no (by rw [← ec]; omega)]), frm.rf⟩
set_option maxHeartbeats 4000000 in
set_option maxRecDepth 100000 in
theorem zX7_beBare_L6 {g : Gm} {l : Launch} {D : Dat} {a : Nat} (hs : isStrip a) (ho : sOk D a) {n : Int} (hn : 3 ≤ n ∧ n ≤ 8)   {J : JT} (hA : AX g l RX7 cX7_beBare 3 4 J) (hR : ReV cX7_beBare (fun D1 => rowX D1 a = bareR (rowX D a) n.toNat ∧ frm a 7 D D1) J) : ∀ (fuel : Nat) (k : Int) (E : Dat), (0 ≤ k ∧ k ≤ n) → (rowX E a = addN (resetR (rowX D a)) k.toNat) → (frm a 7 D E) → n - k < (fuel : Int) → J 6 [vR a, vI n, vI k] [] E := by
  intro fuel
  induction fuel with
  | zero => intro k E hk he hf hMs; exact absurd hMs (by omega)
  | succ fuel ih =>
    intro k E hk he hf hMs
    obtain ⟨z1, z2, z3⟩ := addN_ok (ho.reset (rowX_len D a)) (resetR_len (rowX_len D a)) (by unfold rN; rw [rg_reset (rowX_len D a) (by decide), if_pos (by decide)]) k.toNat (by omega)
    have hoE : sOk E a := by unfold sOk; rw [he]; exact z1
    have hE6 : E a 6 = k := by rw [← xN E a, he, z3]; omega
    refine q_iload_n (j := 2) hA rfl dX7_beBare_6 ?_
    refine q_iload_n (j := 1) hA rfl dX7_beBare_7 ?_
    refine q_icmp_ge (tgt := 24) hA (by omega) (by omega) dX7_beBare_8 (by decide) (fun h8 => ?_) (fun h8 => ?_)
    · refine q_aload_n (j := 0) hA rfl dX7_beBare_24 ?_
      refine q_callVV (b := a) (As := []) (st := []) hA l_X7_58 kX7_layRing (zX7_layRing (by first | assumption | omega | rfl) (by first | assumption | omega | rfl) (by first | assumption | omega | rfl)) dX7_beBare_25 rfl rfl (strS hs) (by decide) rfl (Nat.le_of_ble_eq_true rfl) (by omega) (fun D25 q25 => ?_)
      exact hR 28 _ _ dX7_beBare_28 ⟨(by rw [q25.1, he, hE6, show k = n by omega]; rfl), hf.tr q25.2⟩
    · refine q_aload_n (j := 0) hA rfl dX7_beBare_11 ?_
      refine q_iconst hA dX7_beBare_12 ?_
      refine q_iconst hA dX7_beBare_13 ?_
      refine q_iconst hA dX7_beBare_14 ?_
      refine q_callVV (b := a) (As := [vI 1, vI 0, vI 1]) (st := []) hA l_X7_54 kX7_addPicture (zX7_addPicture (by first | assumption | omega | rfl) (by first | assumption | omega | rfl) (by first | assumption | omega | rfl)) dX7_beBare_15 rfl rfl (strS hs) (by decide) rfl (Nat.le_of_ble_eq_true rfl) (by omega) (fun D15 q15 => ?_)
      refine q_iinc (j := 2) (lo2 := [vR a, vI n, vI (k + 1)]) hA dX7_beBare_18 rfl (by decide) rfl rfl ?_
      refine q_goto (tgt := 6) hA dX7_beBare_21 (by decide) ?_
      exact ih _ _ (by omega) (by rw [q15.1, he, show (k + 1).toNat = k.toNat + 1 by omega]; rfl) (by exact hf.tr q15.2) (by omega)
set_option maxHeartbeats 4000000 in
set_option maxRecDepth 100000 in
theorem zX7_beBare {g : Gm} {l : Launch} {D : Dat} {a : Nat} (hs : isStrip a) (ho : sOk D a) {n : Int} (hn : 3 ≤ n ∧ n ≤ 8) : CrV g l 4 mX7_beBare [vR a, vI n] D (fun D1 => rowX D1 a = bareR (rowX D a) n.toNat ∧ frm a 7 D D1) := by
  refine Cr.ofV (lo0 := [vR a, vI n, vN]) (by decide) (Nat.le_of_ble_eq_true rfl) rfl (fun J hA hR => ?_)
  have hro := ho.reset (rowX_len D a)
  refine q_aload_n (j := 0) hA rfl dX7_beBare_0 ?_
  refine q_callVV (b := a) (As := []) (st := []) hA l_X7_49 kX7_reset (zX7_reset (by first | assumption | omega | rfl)) dX7_beBare_1 rfl rfl (strS hs) (by decide) rfl (Nat.le_of_ble_eq_true rfl) (by omega) (fun D1 q1 => ?_)
  refine q_iconst hA dX7_beBare_4 ?_
  refine q_istore_n (j := 2) (lo2 := [vR a, vI n, vI 0]) hA dX7_beBare_5 (by decide) rfl rfl ?_
  refine zX7_beBare_L6 (D := D) (a := a) (n := n) hs ho hn  hA hR 1000 _ _ (by omega) (by exact q1.1) (by exact q1.2) (by omega)
set_option maxHeartbeats 4000000 in
set_option maxRecDepth 100000 in
theorem zX7_canJoin_L60 {g : Gm} {l : Launch} {D : Dat} {a : Nat} (hs : isStrip a) (ho : sOk D a) {p : Int} {q : Int} (rq : -2147483648 ≤ q ∧ q ≤ 2147483647) (hp : 0 ≤ p ∧ p < D a 6) {lw hi i : Int} (hlw : (q < p ∧ lw = q ∧ hi = p) ∨ (p < q ∧ lw = p ∧ hi = q)) (hqn : 0 ≤ q ∧ q < D a 6) (hi1 : lw < i ∧ i < hi) {J : JT} (hA : AX g l RX7 cX7_canJoin 7 3 J) (hR : ReZ cX7_canJoin (fun v D1 => D1 = D ∧ ((((0 ≤ q ∧ q < D a 6) ∧ canJ (rowX D a) p q) ∧ v = 1) ∨ (¬ ((0 ≤ q ∧ q < D a 6) ∧ canJ (rowX D a) p q) ∧ v = 0))) J) (hx : ∀ (u : Int), (0 ≤ u ∧ u ≤ D a 6) → (∀ o : Int, 0 ≤ o → o < u → (o < lw ∨ hi < o) → tb (D (a + 6) i) o = false) → (u = D a 6) → J 101 [vR a, vI p, vI q, vI lw, vI hi, vI i, vI u] [] D) : ∀ (fuel : Nat) (u : Int), (0 ≤ u ∧ u ≤ D a 6) → (∀ o : Int, 0 ≤ o → o < u → (o < lw ∨ hi < o) → tb (D (a + 6) i) o = false) → D a 6 - u < (fuel : Int) → J 60 [vR a, vI p, vI q, vI lw, vI hi, vI i, vI u] [] D := by
  intro fuel
  induction fuel with
  | zero => intro u hu0 hu hMs; exact absurd hMs (by omega)
  | succ fuel ih =>
    intro u hu0 hu hMs
    have hn := ho.n
    refine q_iload (j := 6) hA rfl dX7_canJoin_60 ?_
    refine q_aload_n (j := 0) hA rfl dX7_canJoin_62 ?_
    refine q_getI (x := D a 6) hA f_X7_30 dX7_canJoin_63 (strS hs) (by decide) rfl ?_
    refine q_icmp_ge (tgt := 101) hA (by omega) (by omega) dX7_canJoin_66 (by decide) (fun h66 => ?_) (fun h66 => ?_)
    · exact hx _ hu0 hu (by omega)
    · refine q_iload (j := 6) hA rfl dX7_canJoin_69 ?_
      refine q_iload_n (j := 3) hA rfl dX7_canJoin_71 ?_
      refine q_icmp_lt (tgt := 82) hA (by omega) (by omega) dX7_canJoin_72 (by decide) (fun h72 => ?_) (fun h72 => ?_)
      · refine q_aload_n (j := 0) hA rfl dX7_canJoin_82 ?_
        refine q_iload (j := 5) hA rfl dX7_canJoin_83 ?_
        refine q_iload (j := 6) hA rfl dX7_canJoin_85 ?_
        refine q_callVB (b := a) (As := [vI i, vI u]) (st := []) hA l_X7_75 kX7_areLinked (zX7_areLinked (by first | assumption | omega | rfl) (by first | assumption | omega | rfl) (by first | assumption | omega | rfl) (by first | assumption | omega | rfl)) dX7_canJoin_87 rfl rfl (strS hs) (by decide) rfl (Nat.le_of_ble_eq_true rfl) (by omega) (fun h87 => ?_) (fun h87 => ?_)
        · refine q_if_eq (tgt := 95) hA (by decide) dX7_canJoin_90 (by decide) (fun h90 => absurd h90 (by decide)) (fun h90 => ?_)
          refine q_iconst hA dX7_canJoin_93 ?_
          exact hR 94 _ _ _ dX7_canJoin_94 (Or.inl rfl) ⟨rfl, Or.inr ⟨(by rintro ⟨z1, z2, z3, z4⟩; have := z4 i u (by omega) (by rw [xN]; omega) (by omega) (by omega); rw [xL (by omega), h87.2.2] at this; cases this), rfl⟩⟩
        · refine q_if_eq (tgt := 95) hA (by decide) dX7_canJoin_90 (by decide) (fun h90 => ?_) (fun h90 => absurd h90 (by decide))
          refine q_iinc (j := 6) (lo2 := [vR a, vI p, vI q, vI lw, vI hi, vI i, vI (u + 1)]) hA dX7_canJoin_95 rfl (by decide) rfl rfl ?_
          refine q_goto (tgt := 60) hA dX7_canJoin_98 (by decide) ?_
          exact ih _ (by omega) (by intro o o1 o2 o3; by_cases ho2 : o = u; (subst ho2; first | omega | (cases hz : tb (D (a + 6) i) o; rfl; exact absurd ⟨by omega, by omega, hz⟩ h87)); exact hu o o1 (by omega) o3) (by omega)
      · refine q_iload (j := 6) hA rfl dX7_canJoin_75 ?_
        refine q_iload (j := 4) hA rfl dX7_canJoin_77 ?_
        refine q_icmp_le (tgt := 95) hA (by omega) (by omega) dX7_canJoin_79 (by decide) (fun h79 => ?_) (fun h79 => ?_)
        · refine q_iinc (j := 6) (lo2 := [vR a, vI p, vI q, vI lw, vI hi, vI i, vI (u + 1)]) hA dX7_canJoin_95 rfl (by decide) rfl rfl ?_
          refine q_goto (tgt := 60) hA dX7_canJoin_98 (by decide) ?_
          exact ih _ (by omega) (by intro o o1 o2 o3; by_cases ho2 : o = u; (subst ho2; first | omega | (cases hz : tb (D (a + 6) i) o; rfl; exact absurd ⟨by omega, by omega, hz⟩ h87)); exact hu o o1 (by omega) o3) (by omega)
        · refine q_aload_n (j := 0) hA rfl dX7_canJoin_82 ?_
          refine q_iload (j := 5) hA rfl dX7_canJoin_83 ?_
          refine q_iload (j := 6) hA rfl dX7_canJoin_85 ?_
          refine q_callVB (b := a) (As := [vI i, vI u]) (st := []) hA l_X7_75 kX7_areLinked (zX7_areLinked (by first | assumption | omega | rfl) (by first | assumption | omega | rfl) (by first | assumption | omega | rfl) (by first | assumption | omega | rfl)) dX7_canJoin_87 rfl rfl (strS hs) (by decide) rfl (Nat.le_of_ble_eq_true rfl) (by omega) (fun h87 => ?_) (fun h87 => ?_)
          · refine q_if_eq (tgt := 95) hA (by decide) dX7_canJoin_90 (by decide) (fun h90 => absurd h90 (by decide)) (fun h90 => ?_)
            refine q_iconst hA dX7_canJoin_93 ?_
            exact hR 94 _ _ _ dX7_canJoin_94 (Or.inl rfl) ⟨rfl, Or.inr ⟨(by rintro ⟨z1, z2, z3, z4⟩; have := z4 i u (by omega) (by rw [xN]; omega) (by omega) (by omega); rw [xL (by omega), h87.2.2] at this; cases this), rfl⟩⟩
          · refine q_if_eq (tgt := 95) hA (by decide) dX7_canJoin_90 (by decide) (fun h90 => ?_) (fun h90 => absurd h90 (by decide))
            refine q_iinc (j := 6) (lo2 := [vR a, vI p, vI q, vI lw, vI hi, vI i, vI (u + 1)]) hA dX7_canJoin_95 rfl (by decide) rfl rfl ?_
            refine q_goto (tgt := 60) hA dX7_canJoin_98 (by decide) ?_
            exact ih _ (by omega) (by intro o o1 o2 o3; by_cases ho2 : o = u; (subst ho2; first | omega | (cases hz : tb (D (a + 6) i) o; rfl; exact absurd ⟨by omega, by omega, hz⟩ h87)); exact hu o o1 (by omega) o3) (by omega)
set_option maxHeartbeats 4000000 in
set_option maxRecDepth 100000 in
theorem zX7_canJoin_L50 {g : Gm} {l : Launch} {D : Dat} {a : Nat} (hs : isStrip a) (ho : sOk D a) {p : Int} {q : Int} (rq : -2147483648 ≤ q ∧ q ≤ 2147483647) (hp : 0 ≤ p ∧ p < D a 6) {lw hi : Int} (hlw : (q < p ∧ lw = q ∧ hi = p) ∨ (p < q ∧ lw = p ∧ hi = q)) (hqn : 0 ≤ q ∧ q < D a 6) (hnl : tb (D (a + 6) p) q = false) {J : JT} (hA : AX g l RX7 cX7_canJoin 7 3 J) (hR : ReZ cX7_canJoin (fun v D1 => D1 = D ∧ ((((0 ≤ q ∧ q < D a 6) ∧ canJ (rowX D a) p q) ∧ v = 1) ∨ (¬ ((0 ≤ q ∧ q < D a 6) ∧ canJ (rowX D a) p q) ∧ v = 0))) J) : ∀ (fuel : Nat) (i : Int), (lw < i ∧ i ≤ hi) → (∀ j o : Int, lw < j → j < i → 0 ≤ o → o < D a 6 → (o < lw ∨ hi < o) → tb (D (a + 6) j) o = false) → hi - i < (fuel : Int) → J 50 [vR a, vI p, vI q, vI lw, vI hi, vI i, vN] [] D := by
  intro fuel
  induction fuel with
  | zero => intro i hi1 hv hMs; exact absurd hMs (by omega)
  | succ fuel ih =>
    intro i hi1 hv hMs
    have hn := ho.n
    refine q_iload (j := 5) hA rfl dX7_canJoin_50 ?_
    refine q_iload (j := 4) hA rfl dX7_canJoin_52 ?_
    refine q_icmp_ge (tgt := 107) hA (by omega) (by omega) dX7_canJoin_54 (by decide) (fun h54 => ?_) (fun h54 => ?_)
    · refine q_iconst hA dX7_canJoin_107 ?_
      exact hR 108 _ _ _ dX7_canJoin_108 (Or.inr rfl) ⟨rfl, Or.inl ⟨(by refine ⟨hqn, by omega, by rw [xL (by omega)]; exact hnl, fun j o o1 o2 j1 j2 => ?_⟩; rw [xN] at o2; rw [xL (by omega)]; exact hv j o (by omega) (by omega) o1 o2 (by omega)), rfl⟩⟩
    · refine q_iconst hA dX7_canJoin_57 ?_
      refine q_istore (j := 6) (lo2 := [vR a, vI p, vI q, vI lw, vI hi, vI i, vI 0]) hA dX7_canJoin_58 (by decide) rfl rfl ?_
      refine zX7_canJoin_L60 (D := D) (a := a) (p := p) (q := q) hs ho rq hp ((by assumption)) ((by omega)) ((by omega)) hA hR (fun u hu0 hu hx => ?_) 1000 _ (by omega) (by intro o o1 o2; omega) (by omega)
      refine q_iinc (j := 5) (lo2 := [vR a, vI p, vI q, vI lw, vI hi, vI (i + 1), vI u]) hA dX7_canJoin_101 rfl (by decide) rfl rfl ?_
      refine q_goto (tgt := 50) hA dX7_canJoin_104 (by decide) ?_
      refine q_fgt (lo2 := [vR a, vI p, vI q, vI lw, vI hi, vI (i + 1), vN]) hA ⟨Or.inr rfl, Or.inr rfl, Or.inr rfl, Or.inr rfl, Or.inr rfl, Or.inr rfl, Or.inl rfl, trivial⟩ ?_
      exact ih _ (by omega) (by intro j o j1 j2 o1 o2 o3; by_cases hj : j = i; exact hj ▸ hu o o1 (by omega) o3; exact hv j o j1 (by omega) o1 o2 o3) (by omega)
set_option maxHeartbeats 4000000 in
set_option maxRecDepth 100000 in
theorem zX7_canJoin {g : Gm} {l : Launch} {D : Dat} {a : Nat} (hs : isStrip a) (ho : sOk D a) {p : Int} {q : Int} (rq : -2147483648 ≤ q ∧ q ≤ 2147483647) (hp : 0 ≤ p ∧ p < D a 6) : CrB g l 3 mX7_canJoin [vR a, vI p, vI q] D ((0 ≤ q ∧ q < D a 6) ∧ canJ (rowX D a) p q) := by
  unfold CrB
  refine Cr.ofZ (lo0 := [vR a, vI p, vI q, vN, vN, vN, vN]) (by decide) (Nat.le_of_ble_eq_true rfl) rfl (fun J hA hR => ?_)
  have hn := ho.n
  refine q_aload_n (j := 0) hA rfl dX7_canJoin_0 ?_
  refine q_iload_n (j := 1) hA rfl dX7_canJoin_1 ?_
  refine q_callVB (b := a) (As := [vI p]) (st := []) hA l_X7_65 kX7_has (zX7_has (by first | assumption | omega | rfl) (by first | assumption | omega | rfl) (by first | assumption | omega | rfl)) dX7_canJoin_2 rfl rfl (strS hs) (by decide) rfl (Nat.le_of_ble_eq_true rfl) (by omega) (fun h2 => ?_) (fun h2 => absurd hp h2)
  refine q_if_eq (tgt := 30) hA (by decide) dX7_canJoin_5 (by decide) (fun h5 => absurd h5 (by decide)) (fun h5 => ?_)
  refine q_aload_n (j := 0) hA rfl dX7_canJoin_8 ?_
  refine q_iload_n (j := 2) hA rfl dX7_canJoin_9 ?_
  refine q_callVB (b := a) (As := [vI q]) (st := []) hA l_X7_65 kX7_has (zX7_has (by first | assumption | omega | rfl) (by first | assumption | omega | rfl) (by first | assumption | omega | rfl)) dX7_canJoin_10 rfl rfl (strS hs) (by decide) rfl (Nat.le_of_ble_eq_true rfl) (by omega) (fun h10 => ?_) (fun h10 => ?_)
  · refine q_if_eq (tgt := 30) hA (by decide) dX7_canJoin_13 (by decide) (fun h13 => absurd h13 (by decide)) (fun h13 => ?_)
    refine q_iload_n (j := 1) hA rfl dX7_canJoin_16 ?_
    refine q_iload_n (j := 2) hA rfl dX7_canJoin_17 ?_
    refine q_icmp_eq (tgt := 30) hA (by omega) (by omega) dX7_canJoin_18 (by decide) (fun h18 => ?_) (fun h18 => ?_)
    · refine q_iconst hA dX7_canJoin_30 ?_
      exact hR 31 _ _ _ dX7_canJoin_31 (Or.inl rfl) ⟨rfl, Or.inr ⟨(by first | omega | (rintro ⟨z1, z2, z3, z4⟩; first | omega | (rw [xL (by omega)] at z3; rw [h24.2.2] at z3; cases z3))), rfl⟩⟩
    · refine q_aload_n (j := 0) hA rfl dX7_canJoin_21 ?_
      refine q_iload_n (j := 1) hA rfl dX7_canJoin_22 ?_
      refine q_iload_n (j := 2) hA rfl dX7_canJoin_23 ?_
      refine q_callVB (b := a) (As := [vI p, vI q]) (st := []) hA l_X7_75 kX7_areLinked (zX7_areLinked (by first | assumption | omega | rfl) (by first | assumption | omega | rfl) (by first | assumption | omega | rfl) (by first | assumption | omega | rfl)) dX7_canJoin_24 rfl rfl (strS hs) (by decide) rfl (Nat.le_of_ble_eq_true rfl) (by omega) (fun h24 => ?_) (fun h24 => ?_)
      · refine q_if_eq (tgt := 32) hA (by decide) dX7_canJoin_27 (by decide) (fun h27 => absurd h27 (by decide)) (fun h27 => ?_)
        refine q_iconst hA dX7_canJoin_30 ?_
        exact hR 31 _ _ _ dX7_canJoin_31 (Or.inl rfl) ⟨rfl, Or.inr ⟨(by first | omega | (rintro ⟨z1, z2, z3, z4⟩; first | omega | (rw [xL (by omega)] at z3; rw [h24.2.2] at z3; cases z3))), rfl⟩⟩
      · refine q_if_eq (tgt := 32) hA (by decide) dX7_canJoin_27 (by decide) (fun h27 => ?_) (fun h27 => absurd h27 (by decide))
        refine q_iload_n (j := 1) hA rfl dX7_canJoin_32 ?_
        refine q_iload_n (j := 2) hA rfl dX7_canJoin_33 ?_
        refine q_min hA mw_X7_82 (by omega) (by omega) (Nat.le_of_ble_eq_true rfl) (by omega) dX7_canJoin_34 ?_
        refine q_nmI (fun lw elw => ?_)
        refine q_istore_n (j := 3) (lo2 := [vR a, vI p, vI q, vI lw, vN, vN, vN]) hA dX7_canJoin_37 (by decide) rfl rfl ?_
        refine q_iload_n (j := 1) hA rfl dX7_canJoin_38 ?_
        refine q_iload_n (j := 2) hA rfl dX7_canJoin_39 ?_
        refine q_max hA mw_X7_86 (by omega) (by omega) (Nat.le_of_ble_eq_true rfl) (by omega) dX7_canJoin_40 ?_
        refine q_nmI (fun hi ehi => ?_)
        refine q_istore (j := 4) (lo2 := [vR a, vI p, vI q, vI lw, vI hi, vN, vN]) hA dX7_canJoin_43 (by decide) rfl rfl ?_
        have hlw : (q < p ∧ lw = q ∧ hi = p) ∨ (p < q ∧ lw = p ∧ hi = q) := by rw [elw, ehi]; split <;> split <;> omega
        refine q_iload_n (j := 3) hA rfl dX7_canJoin_45 ?_
        refine q_iconst hA dX7_canJoin_46 ?_
        refine q_iadd hA dX7_canJoin_47 ?_
        refine q_istore (j := 5) (lo2 := [vR a, vI p, vI q, vI lw, vI hi, vI (lw + 1), vN]) hA dX7_canJoin_48 (by decide) rfl rfl ?_
        refine zX7_canJoin_L50 (D := D) (a := a) (p := p) (q := q) hs ho rq hp ((by assumption)) ((by omega)) ((by cases hz : tb (D (a + 6) p) q; rfl; exact absurd ⟨hp, by omega, hz⟩ h24)) hA hR 1000 _ (by omega) (by intro j o j1 j2; omega) (by omega)
  · refine q_if_eq (tgt := 30) hA (by decide) dX7_canJoin_13 (by decide) (fun h13 => ?_) (fun h13 => absurd h13 (by decide))
    refine q_iconst hA dX7_canJoin_30 ?_
    exact hR 31 _ _ _ dX7_canJoin_31 (Or.inl rfl) ⟨rfl, Or.inr ⟨(by first | omega | (rintro ⟨z1, z2, z3, z4⟩; first | omega | (rw [xL (by omega)] at z3; rw [h24.2.2] at z3; cases z3))), rfl⟩⟩
