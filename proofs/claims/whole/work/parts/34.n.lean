set_option maxHeartbeats 4000000 in
set_option maxRecDepth 100000 in
theorem zX10_asides_L2 {g : Gm} {l : Launch} {D : Dat}   {J : JT} (hA : AX g l RX10 cX10_asides 2 1 J) (hR : ReV cX10_asides (fun D1 => cpF D D1 289 0 284 0 52) J) : ∀ (fuel : Nat) (k : Int) (E : Dat), (0 ≤ k ∧ k ≤ 52) → (cpF D E 289 0 284 0 k) → 52 - k < (fuel : Int) → J 2 [vR 283, vI k] [] E := by
  intro fuel
  induction fuel with
  | zero => intro k E hk hc hMs; exact absurd hMs (by omega)
  | succ fuel ih =>
    intro k E hk hc hMs
    refine q_iload_n (j := 1) hA rfl dX10_asides_2 ?_
    refine q_bipush hA (by decide) dX10_asides_3 ?_
    refine q_icmp_ge (tgt := 26) hA (by omega) (by omega) dX10_asides_5 (by decide) (fun h5 => ?_) (fun h5 => ?_)
    · exact hR 26 _ _ dX10_asides_26 (by rw [show k = 52 by omega] at hc; exact hc)
    · refine q_aload_n (j := 0) hA rfl dX10_asides_8 ?_
      refine q_getR hA f_X10_25 dX10_asides_9 sx_283 (by decide) fx_283_8 ?_
      refine q_iload_n (j := 1) hA rfl dX10_asides_12 ?_
      refine q_aload_n (j := 0) hA rfl dX10_asides_13 ?_
      refine q_getR hA f_X10_7 dX10_asides_14 sx_283 (by decide) fx_283_0 ?_
      refine q_iload_n (j := 1) hA rfl dX10_asides_17 ?_
      refine q_iald (x := E 284 k) hA dX10_asides_18 sx_284 (by omega) (by decide) rfl ?_
      refine q_iast hA dX10_asides_19 sx_289 (by omega) (by decide) ?_
      refine q_iinc (j := 1) (lo2 := [vR 283, vI (k + 1)]) hA dX10_asides_20 rfl (by decide) rfl rfl ?_
      refine q_goto (tgt := 2) hA dX10_asides_23 (by decide) ?_
      exact ih _ _ (by omega) (by exact hc.s (by omega) (by omega) (by first | (rw [hc.2.2 284 (by omega)]; done) | (rw [hc.2.2 284 (by omega)]; congr 1; omega))) (by omega)
set_option maxHeartbeats 4000000 in
set_option maxRecDepth 100000 in
theorem zX10_asides {g : Gm} {l : Launch} {D : Dat} : CrV g l 1 mX10_asides [vR 283] D (fun D1 => cpF D D1 289 0 284 0 52) := by
  refine Cr.ofV (lo0 := [vR 283, vN]) (by decide) (Nat.le_of_ble_eq_true rfl) rfl (fun J hA hR => ?_)
  refine q_iconst hA dX10_asides_0 ?_
  refine q_istore_n (j := 1) (lo2 := [vR 283, vI 0]) hA dX10_asides_1 (by decide) rfl rfl ?_
  refine zX10_asides_L2 (D := D)   hA hR 1000 _ _ (by omega) (by exact cpF.z) (by omega)
set_option maxHeartbeats 4000000 in
set_option maxRecDepth 100000 in
theorem zX10_backs_L2 {g : Gm} {l : Launch} {D : Dat}   {J : JT} (hA : AX g l RX10 cX10_backs 2 1 J) (hR : ReV cX10_backs (fun D1 => cpF D D1 284 0 289 0 52) J) : ∀ (fuel : Nat) (k : Int) (E : Dat), (0 ≤ k ∧ k ≤ 52) → (cpF D E 284 0 289 0 k) → 52 - k < (fuel : Int) → J 2 [vR 283, vI k] [] E := by
  intro fuel
  induction fuel with
  | zero => intro k E hk hc hMs; exact absurd hMs (by omega)
  | succ fuel ih =>
    intro k E hk hc hMs
    refine q_iload_n (j := 1) hA rfl dX10_backs_2 ?_
    refine q_bipush hA (by decide) dX10_backs_3 ?_
    refine q_icmp_ge (tgt := 26) hA (by omega) (by omega) dX10_backs_5 (by decide) (fun h5 => ?_) (fun h5 => ?_)
    · exact hR 26 _ _ dX10_backs_26 (by rw [show k = 52 by omega] at hc; exact hc)
    · refine q_aload_n (j := 0) hA rfl dX10_backs_8 ?_
      refine q_getR hA f_X10_7 dX10_backs_9 sx_283 (by decide) fx_283_0 ?_
      refine q_iload_n (j := 1) hA rfl dX10_backs_12 ?_
      refine q_aload_n (j := 0) hA rfl dX10_backs_13 ?_
      refine q_getR hA f_X10_25 dX10_backs_14 sx_283 (by decide) fx_283_8 ?_
      refine q_iload_n (j := 1) hA rfl dX10_backs_17 ?_
      refine q_iald (x := E 289 k) hA dX10_backs_18 sx_289 (by omega) (by decide) rfl ?_
      refine q_iast hA dX10_backs_19 sx_284 (by omega) (by decide) ?_
      refine q_iinc (j := 1) (lo2 := [vR 283, vI (k + 1)]) hA dX10_backs_20 rfl (by decide) rfl rfl ?_
      refine q_goto (tgt := 2) hA dX10_backs_23 (by decide) ?_
      exact ih _ _ (by omega) (by exact hc.s (by omega) (by omega) (by first | (rw [hc.2.2 289 (by omega)]; done) | (rw [hc.2.2 289 (by omega)]; congr 1; omega))) (by omega)
set_option maxHeartbeats 4000000 in
set_option maxRecDepth 100000 in
theorem zX10_backs {g : Gm} {l : Launch} {D : Dat} : CrV g l 1 mX10_backs [vR 283] D (fun D1 => cpF D D1 284 0 289 0 52) := by
  refine Cr.ofV (lo0 := [vR 283, vN]) (by decide) (Nat.le_of_ble_eq_true rfl) rfl (fun J hA hR => ?_)
  refine q_iconst hA dX10_backs_0 ?_
  refine q_istore_n (j := 1) (lo2 := [vR 283, vI 0]) hA dX10_backs_1 (by decide) rfl rfl ?_
  refine zX10_backs_L2 (D := D)   hA hR 1000 _ _ (by omega) (by exact cpF.z) (by omega)
set_option maxHeartbeats 4000000 in
set_option maxRecDepth 100000 in
theorem zX10_image_L24 {g : Gm} {l : Launch} {D : Dat} (ho : mOk D 284) {s : Int} (rs : -2147483648 ≤ s ∧ s ≤ 2147483647)  (hs : 0 ≤ s ∧ s ≤ 1) (hn0 : 0 < D 284 0) {J : JT} (hA : AX g l RX10 cX10_image 3 3 J) (hR : ReI cX10_image (fun v D1 => (¬ (0 ≤ s ∧ s ≤ 1) ∧ v = -1 ∧ D1 = D) ∨ ((0 ≤ s ∧ s ≤ 1) ∧ ¬ 0 < D 284 0 ∧ v = -2 ∧ D1 = D) ∨ ((0 ≤ s ∧ s ≤ 1) ∧ 0 < D 284 0 ∧ v = D 284 1 ∧ cpF D D1 288 (52 * s) 284 0 52)) J) : ∀ (fuel : Nat) (k : Int) (E : Dat), (0 ≤ k ∧ k ≤ 52) → (cpF D E 288 (52 * s) 284 0 k) → 52 - k < (fuel : Int) → J 24 [vR 283, vI s, vI k] [] E := by
  intro fuel
  induction fuel with
  | zero => intro k E hk hc hMs; exact absurd hMs (by omega)
  | succ fuel ih =>
    intro k E hk hc hMs
    refine q_iload_n (j := 2) hA rfl dX10_image_24 ?_
    refine q_bipush hA (by decide) dX10_image_25 ?_
    refine q_icmp_ge (tgt := 53) hA (by omega) (by omega) dX10_image_27 (by decide) (fun h27 => ?_) (fun h27 => ?_)
    · refine q_aload_n (j := 0) hA rfl dX10_image_53 ?_
      refine q_getR hA f_X10_7 dX10_image_54 sx_283 (by decide) fx_283_0 ?_
      refine q_iconst hA dX10_image_57 ?_
      refine q_iald (x := E 284 1) hA dX10_image_58 sx_284 (by omega) (by decide) rfl ?_
      exact hR 59 _ _ _ dX10_image_59 (by rw [show k = 52 by omega] at hc; exact Or.inr (Or.inr ⟨hs, hn0, by rw [hc.2.2 284 (by omega)], hc⟩))
    · refine q_aload_n (j := 0) hA rfl dX10_image_30 ?_
      refine q_getR hA f_X10_22 dX10_image_31 sx_283 (by decide) fx_283_7 ?_
      refine q_bipush hA (by decide) dX10_image_34 ?_
      refine q_iload_n (j := 1) hA rfl dX10_image_36 ?_
      refine q_imul hA dX10_image_37 ?_
      refine q_iload_n (j := 2) hA rfl dX10_image_38 ?_
      refine q_iadd hA dX10_image_39 ?_
      refine q_aload_n (j := 0) hA rfl dX10_image_40 ?_
      refine q_getR hA f_X10_7 dX10_image_41 sx_283 (by decide) fx_283_0 ?_
      refine q_iload_n (j := 2) hA rfl dX10_image_44 ?_
      refine q_iald (x := E 284 k) hA dX10_image_45 sx_284 (by omega) (by decide) rfl ?_
      refine q_iast hA dX10_image_46 sx_288 (by omega) (by decide) ?_
      refine q_iinc (j := 2) (lo2 := [vR 283, vI s, vI (k + 1)]) hA dX10_image_47 rfl (by decide) rfl rfl ?_
      refine q_goto (tgt := 24) hA dX10_image_50 (by decide) ?_
      exact ih _ _ (by omega) (by exact hc.s (by omega) (by omega) (by first | (rw [hc.2.2 284 (by omega)]; done) | (rw [hc.2.2 284 (by omega)]; congr 1; omega))) (by omega)
set_option maxHeartbeats 4000000 in
set_option maxRecDepth 100000 in
theorem zX10_image {g : Gm} {l : Launch} {D : Dat} (ho : mOk D 284) {s : Int} (rs : -2147483648 ≤ s ∧ s ≤ 2147483647) : CrI g l 3 mX10_image [vR 283, vI s] D (fun v D1 => (¬ (0 ≤ s ∧ s ≤ 1) ∧ v = -1 ∧ D1 = D) ∨ ((0 ≤ s ∧ s ≤ 1) ∧ ¬ 0 < D 284 0 ∧ v = -2 ∧ D1 = D) ∨ ((0 ≤ s ∧ s ≤ 1) ∧ 0 < D 284 0 ∧ v = D 284 1 ∧ cpF D D1 288 (52 * s) 284 0 52)) := by
  refine Cr.ofI (lo0 := [vR 283, vI s, vN]) (by decide) (Nat.le_of_ble_eq_true rfl) rfl (fun J hA hR => ?_)
  have hn := ho.n
  have hf := ho.f
  have hb := ho.b
  refine q_iload_n (j := 1) hA rfl dX10_image_0 ?_
  refine q_i2l hA (by omega) dX10_image_1 ?_
  refine q_lconst hA dX10_image_2 ?_
  show J _ _ (vL 0 :: _) _
  refine q_lconst hA dX10_image_3 ?_
  show J _ _ (vL 1 :: _) _
  refine q_callSB (As := [vL s, vL 0, vL 1]) (st := []) hA l_X10_77 kX10_in (zX10_in (by first | assumption | omega | rfl) (by first | assumption | omega | rfl) (by first | assumption | omega | rfl)) dX10_image_4 rfl rfl (Nat.le_of_ble_eq_true rfl) (by omega) (fun h4 => ?_) (fun h4 => ?_)
  · refine q_if_ne (tgt := 12) hA (by decide) dX10_image_7 (by decide) (fun h7 => ?_) (fun h7 => absurd h7 (by decide))
    refine q_aload_n (j := 0) hA rfl dX10_image_12 ?_
    refine q_callVB (b := 283) (As := []) (st := []) hA l_X10_159 kX10_isThere (zX10_isThere (by first | assumption | omega | rfl)) dX10_image_13 rfl rfl sx_283 (by decide) rfl (Nat.le_of_ble_eq_true rfl) (by omega) (fun h13 => ?_) (fun h13 => ?_)
    · refine q_if_ne (tgt := 22) hA (by decide) dX10_image_16 (by decide) (fun h16 => ?_) (fun h16 => absurd h16 (by decide))
      refine q_iconst hA dX10_image_22 ?_
      refine q_istore_n (j := 2) (lo2 := [vR 283, vI s, vI 0]) hA dX10_image_23 (by decide) rfl rfl ?_
      refine zX10_image_L24 (D := D) (s := s) ho rs h4 h13 hA hR 1000 _ _ (by omega) (by exact cpF.z) (by omega)
    · refine q_if_ne (tgt := 22) hA (by decide) dX10_image_16 (by decide) (fun h16 => absurd h16 (by decide)) (fun h16 => ?_)
      refine q_bipush hA (by decide) dX10_image_19 ?_
      exact hR 21 _ _ _ dX10_image_21 (by exact Or.inr (Or.inl ⟨h4, h13, rfl, rfl⟩))
  · refine q_if_ne (tgt := 12) hA (by decide) dX10_image_7 (by decide) (fun h7 => absurd h7 (by decide)) (fun h7 => ?_)
    refine q_iconst hA dX10_image_10 ?_
    exact hR 11 _ _ _ dX10_image_11 (by exact Or.inl ⟨h4, rfl, rfl⟩)
set_option maxHeartbeats 4000000 in
set_option maxRecDepth 100000 in
theorem zX10_undo_L22 {g : Gm} {l : Launch} {D : Dat} (ha : 0 ≤ D 283 6 ∧ D 283 6 ≤ 24)  (h0 : 0 < D 283 6) {J : JT} (hA : AX g l RX10 cX10_undo 2 1 J) (hR : ReI cX10_undo (fun v D1 => (D 283 6 = 0 ∧ v = -4 ∧ D1 = D) ∨ (0 < D 283 6 ∧ v = D 283 6 - 1 ∧ cpF (upD D 283 6 (D 283 6 - 1)) D1 284 0 287 (52 * (D 283 6 - 1)) 52)) J) : ∀ (fuel : Nat) (k : Int) (E : Dat), (0 ≤ k ∧ k ≤ 52) → (cpF (upD D 283 6 (D 283 6 - 1)) E 284 0 287 (52 * (D 283 6 - 1)) k) → 52 - k < (fuel : Int) → J 22 [vR 283, vI k] [] E := by
  intro fuel
  induction fuel with
  | zero => intro k E hk hc hMs; exact absurd hMs (by omega)
  | succ fuel ih =>
    intro k E hk hc hMs
    have e6 : E 283 6 = D 283 6 - 1 := by rw [hc.2.2 283 (by omega), upD_s]
    refine q_iload_n (j := 1) hA rfl dX10_undo_22 ?_
    refine q_bipush hA (by decide) dX10_undo_23 ?_
    refine q_icmp_ge (tgt := 54) hA (by omega) (by omega) dX10_undo_25 (by decide) (fun h25 => ?_) (fun h25 => ?_)
    · refine q_aload_n (j := 0) hA rfl dX10_undo_54 ?_
      refine q_getI (x := D 283 6 - 1) hA f_X10_130 dX10_undo_55 sx_283 (by decide) e6 ?_
      exact hR 58 _ _ _ dX10_undo_58 (by rw [show k = 52 by omega] at hc; exact Or.inr ⟨h0, rfl, hc⟩)
    · refine q_aload_n (j := 0) hA rfl dX10_undo_28 ?_
      refine q_getR hA f_X10_7 dX10_undo_29 sx_283 (by decide) fx_283_0 ?_
      refine q_iload_n (j := 1) hA rfl dX10_undo_32 ?_
      refine q_aload_n (j := 0) hA rfl dX10_undo_33 ?_
      refine q_getR hA f_X10_19 dX10_undo_34 sx_283 (by decide) fx_283_5 ?_
      refine q_bipush hA (by decide) dX10_undo_37 ?_
      refine q_aload_n (j := 0) hA rfl dX10_undo_39 ?_
      refine q_getI (x := D 283 6 - 1) hA f_X10_130 dX10_undo_40 sx_283 (by decide) e6 ?_
      refine q_imul hA dX10_undo_43 ?_
      refine q_iload_n (j := 1) hA rfl dX10_undo_44 ?_
      refine q_iadd hA dX10_undo_45 ?_
      refine q_iald (x := E 287 ((52 * (D 283 6 - 1)) + k)) hA dX10_undo_46 sx_287 (by omega) (by decide) rfl ?_
      refine q_iast hA dX10_undo_47 sx_284 (by omega) (by decide) ?_
      refine q_iinc (j := 1) (lo2 := [vR 283, vI (k + 1)]) hA dX10_undo_48 rfl (by decide) rfl rfl ?_
      refine q_goto (tgt := 22) hA dX10_undo_51 (by decide) ?_
      exact ih _ _ (by omega) (by exact hc.s (by omega) (by omega) (by rw [hc.2.2 287 (by omega)])) (by omega)
set_option maxHeartbeats 4000000 in
set_option maxRecDepth 100000 in
theorem zX10_undo {g : Gm} {l : Launch} {D : Dat} (ha : 0 ≤ D 283 6 ∧ D 283 6 ≤ 24) : CrI g l 1 mX10_undo [vR 283] D (fun v D1 => (D 283 6 = 0 ∧ v = -4 ∧ D1 = D) ∨ (0 < D 283 6 ∧ v = D 283 6 - 1 ∧ cpF (upD D 283 6 (D 283 6 - 1)) D1 284 0 287 (52 * (D 283 6 - 1)) 52)) := by
  refine Cr.ofI (lo0 := [vR 283, vN]) (by decide) (Nat.le_of_ble_eq_true rfl) rfl (fun J hA hR => ?_)
  refine q_aload_n (j := 0) hA rfl dX10_undo_0 ?_
  refine q_getI (x := D 283 6) hA f_X10_130 dX10_undo_1 sx_283 (by decide) rfl ?_
  refine q_if_ne (tgt := 10) hA (by omega) dX10_undo_4 (by decide) (fun h4 => ?_) (fun h4 => ?_)
  · refine q_aload_n (j := 0) hA rfl dX10_undo_10 ?_
    refine q_dupR hA dX10_undo_11 ?_
    refine q_getI (x := D 283 6) hA f_X10_130 dX10_undo_12 sx_283 (by decide) rfl ?_
    refine q_iconst hA dX10_undo_15 ?_
    refine q_isub hA dX10_undo_16 ?_
    refine q_putI hA f_X10_130 dX10_undo_17 sx_283 (by decide) ?_
    show J _ _ _ (upD D 283 6 ((D 283 6) - 1))
    refine q_iconst hA dX10_undo_20 ?_
    refine q_istore_n (j := 1) (lo2 := [vR 283, vI 0]) hA dX10_undo_21 (by decide) rfl rfl ?_
    refine zX10_undo_L22 (D := D) ha (by omega) hA hR 1000 _ _ (by omega) (by exact cpF.z) (by omega)
  · refine q_bipush hA (by decide) dX10_undo_7 ?_
    exact hR 9 _ _ _ dX10_undo_9 (by exact Or.inl ⟨h4, rfl, rfl⟩)
set_option maxHeartbeats 4000000 in
set_option maxRecDepth 100000 in
theorem zX10_restore_L31 {g : Gm} {l : Launch} {D : Dat} {s : Int} (rs : -2147483648 ≤ s ∧ s ≤ 2147483647) (hk2 : ∀ s : Int, 0 ≤ s ∧ s ≤ 1 → 0 ≤ D 288 (52 * s) ∧ D 288 (52 * s) ≤ 8)  (hs : 0 ≤ s ∧ s ≤ 1) (hn0 : ¬ D 288 (52 * s) = 0) {J : JT} (hA : AX g l RX10 cX10_restore 3 2 J) (hR : ReI cX10_restore (fun v D1 => (¬ (0 ≤ s ∧ s ≤ 1) ∧ v = -1 ∧ D1 = D) ∨ ((0 ≤ s ∧ s ≤ 1) ∧ D 288 (52 * s) = 0 ∧ v = -2 ∧ D1 = D) ∨ ((0 ≤ s ∧ s ≤ 1) ∧ ¬ D 288 (52 * s) = 0 ∧ v = D 288 (52 * s + 1) ∧ ∃ E, cpF D E 284 0 288 (52 * s) 52 ∧ D1 = upD E 283 6 0)) J) : ∀ (fuel : Nat) (k : Int) (E : Dat), (0 ≤ k ∧ k ≤ 52) → (cpF D E 284 0 288 (52 * s) k) → 52 - k < (fuel : Int) → J 31 [vR 283, vI s, vI k] [] E := by
  intro fuel
  induction fuel with
  | zero => intro k E hk hc hMs; exact absurd hMs (by omega)
  | succ fuel ih =>
    intro k E hk hc hMs
    refine q_iload_n (j := 2) hA rfl dX10_restore_31 ?_
    refine q_bipush hA (by decide) dX10_restore_32 ?_
    refine q_icmp_ge (tgt := 60) hA (by omega) (by omega) dX10_restore_34 (by decide) (fun h34 => ?_) (fun h34 => ?_)
    · refine q_aload_n (j := 0) hA rfl dX10_restore_60 ?_
      refine q_iconst hA dX10_restore_61 ?_
      refine q_putI hA f_X10_130 dX10_restore_62 sx_283 (by decide) ?_
      show J _ _ _ (upD E 283 6 0)
      refine q_aload_n (j := 0) hA rfl dX10_restore_65 ?_
      refine q_getR hA f_X10_7 dX10_restore_66 sx_283 (by decide) fx_283_0 ?_
      refine q_iconst hA dX10_restore_69 ?_
      refine q_iald (x := E 284 1) hA dX10_restore_70 sx_284 (by omega) (by decide) ((upD_n (Or.inl (by omega))).trans (rfl)) ?_
      exact hR 71 _ _ _ dX10_restore_71 (by rw [show k = 52 by omega] at hc; exact Or.inr (Or.inr ⟨hs, hn0, by first | exact (upD_n (Or.inl (by omega))).trans (hc.1 1 (by omega) (by omega)) | exact hc.1 1 (by omega) (by omega), E, hc, rfl⟩))
    · refine q_aload_n (j := 0) hA rfl dX10_restore_37 ?_
      refine q_getR hA f_X10_7 dX10_restore_38 sx_283 (by decide) fx_283_0 ?_
      refine q_iload_n (j := 2) hA rfl dX10_restore_41 ?_
      refine q_aload_n (j := 0) hA rfl dX10_restore_42 ?_
      refine q_getR hA f_X10_22 dX10_restore_43 sx_283 (by decide) fx_283_7 ?_
      refine q_bipush hA (by decide) dX10_restore_46 ?_
      refine q_iload_n (j := 1) hA rfl dX10_restore_48 ?_
      refine q_imul hA dX10_restore_49 ?_
      refine q_iload_n (j := 2) hA rfl dX10_restore_50 ?_
      refine q_iadd hA dX10_restore_51 ?_
      refine q_iald (x := E 288 ((52 * s) + k)) hA dX10_restore_52 sx_288 (by omega) (by decide) rfl ?_
      refine q_iast hA dX10_restore_53 sx_284 (by omega) (by decide) ?_
      refine q_iinc (j := 2) (lo2 := [vR 283, vI s, vI (k + 1)]) hA dX10_restore_54 rfl (by decide) rfl rfl ?_
      refine q_goto (tgt := 31) hA dX10_restore_57 (by decide) ?_
      exact ih _ _ (by omega) (by exact hc.s (by omega) (by omega) (by first | (rw [hc.2.2 288 (by omega)]; done) | (rw [hc.2.2 288 (by omega)]; congr 1; omega))) (by omega)
set_option maxHeartbeats 4000000 in
set_option maxRecDepth 100000 in
theorem zX10_restore {g : Gm} {l : Launch} {D : Dat} {s : Int} (rs : -2147483648 ≤ s ∧ s ≤ 2147483647) (hk2 : ∀ s : Int, 0 ≤ s ∧ s ≤ 1 → 0 ≤ D 288 (52 * s) ∧ D 288 (52 * s) ≤ 8) : CrI g l 2 mX10_restore [vR 283, vI s] D (fun v D1 => (¬ (0 ≤ s ∧ s ≤ 1) ∧ v = -1 ∧ D1 = D) ∨ ((0 ≤ s ∧ s ≤ 1) ∧ D 288 (52 * s) = 0 ∧ v = -2 ∧ D1 = D) ∨ ((0 ≤ s ∧ s ≤ 1) ∧ ¬ D 288 (52 * s) = 0 ∧ v = D 288 (52 * s + 1) ∧ ∃ E, cpF D E 284 0 288 (52 * s) 52 ∧ D1 = upD E 283 6 0)) := by
  refine Cr.ofI (lo0 := [vR 283, vI s, vN]) (by decide) (Nat.le_of_ble_eq_true rfl) rfl (fun J hA hR => ?_)
  refine q_iload_n (j := 1) hA rfl dX10_restore_0 ?_
  refine q_i2l hA (by omega) dX10_restore_1 ?_
  refine q_lconst hA dX10_restore_2 ?_
  show J _ _ (vL 0 :: _) _
  refine q_lconst hA dX10_restore_3 ?_
  show J _ _ (vL 1 :: _) _
  refine q_callSB (As := [vL s, vL 0, vL 1]) (st := []) hA l_X10_77 kX10_in (zX10_in (by first | assumption | omega | rfl) (by first | assumption | omega | rfl) (by first | assumption | omega | rfl)) dX10_restore_4 rfl rfl (Nat.le_of_ble_eq_true rfl) (by omega) (fun h4 => ?_) (fun h4 => ?_)
  · refine q_if_ne (tgt := 12) hA (by decide) dX10_restore_7 (by decide) (fun h7 => ?_) (fun h7 => absurd h7 (by decide))
    have hq := hk2 s h4
    refine q_aload_n (j := 0) hA rfl dX10_restore_12 ?_
    refine q_getR hA f_X10_22 dX10_restore_13 sx_283 (by decide) fx_283_7 ?_
    refine q_bipush hA (by decide) dX10_restore_16 ?_
    refine q_iload_n (j := 1) hA rfl dX10_restore_18 ?_
    refine q_imul hA dX10_restore_19 ?_
    refine q_iconst hA dX10_restore_20 ?_
    refine q_iadd hA dX10_restore_21 ?_
    refine q_iald (x := D 288 (52 * s)) hA dX10_restore_22 sx_288 (by omega) (by decide) (by rw [show 52 * s + 0 = 52 * s by omega]) ?_
    refine q_if_ne (tgt := 29) hA (by omega) dX10_restore_23 (by decide) (fun h23 => ?_) (fun h23 => ?_)
    · refine q_iconst hA dX10_restore_29 ?_
      refine q_istore_n (j := 2) (lo2 := [vR 283, vI s, vI 0]) hA dX10_restore_30 (by decide) rfl rfl ?_
      refine zX10_restore_L31 (D := D) (s := s) rs hk2 h4 h23 hA hR 1000 _ _ (by omega) (by exact cpF.z) (by omega)
    · refine q_bipush hA (by decide) dX10_restore_26 ?_
      exact hR 28 _ _ _ dX10_restore_28 (by exact Or.inr (Or.inl ⟨h4, h23, rfl, rfl⟩))
  · refine q_if_ne (tgt := 12) hA (by decide) dX10_restore_7 (by decide) (fun h7 => absurd h7 (by decide)) (fun h7 => ?_)
    refine q_iconst hA dX10_restore_10 ?_
    exact hR 11 _ _ _ dX10_restore_11 (by exact Or.inl ⟨h4, rfl, rfl⟩)
