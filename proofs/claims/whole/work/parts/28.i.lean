set_option maxHeartbeats 4000000 in
set_option maxRecDepth 100000 in
theorem zX9_isWithin {g : Gm} {l : Launch} {D : Dat} {x : Int} {y : Int} {z : Int} (rx : -2147483648 ≤ x ∧ x ≤ 2147483647) (ry : -2147483648 ≤ y ∧ y ≤ 2147483647) (rz : -2147483648 ≤ z ∧ z ≤ 2147483647) : CrB g l 1 mX9_isWithin [vI x, vI y, vI z] D (y ≤ x ∧ x ≤ z) := by
  unfold CrB
  refine Cr.ofZ (lo0 := [vI x, vI y, vI z]) (by decide) (Nat.le_of_ble_eq_true rfl) rfl (fun J hA hR => ?_)
  refine q_iload_n (j := 0) hA rfl dX9_isWithin_0 ?_
  refine q_iload_n (j := 1) hA rfl dX9_isWithin_1 ?_
  refine q_icmp_lt (tgt := 14) hA (by omega) (by omega) dX9_isWithin_2 (by decide) (fun h2 => ?_) (fun h2 => ?_)
  · refine q_iconst hA dX9_isWithin_14 ?_
    exact hR 15 _ _ _ dX9_isWithin_15 (Or.inl rfl) ⟨rfl, Or.inr ⟨(by omega), rfl⟩⟩
  · refine q_iload_n (j := 0) hA rfl dX9_isWithin_5 ?_
    refine q_iload_n (j := 2) hA rfl dX9_isWithin_6 ?_
    refine q_icmp_gt (tgt := 14) hA (by omega) (by omega) dX9_isWithin_7 (by decide) (fun h7 => ?_) (fun h7 => ?_)
    · refine q_iconst hA dX9_isWithin_14 ?_
      exact hR 15 _ _ _ dX9_isWithin_15 (Or.inl rfl) ⟨rfl, Or.inr ⟨(by omega), rfl⟩⟩
    · refine q_iconst hA dX9_isWithin_10 ?_
      refine q_goto (tgt := 15) hA dX9_isWithin_11 (by decide) ?_
      exact hR 15 _ _ _ dX9_isWithin_15 (Or.inr rfl) ⟨rfl, Or.inl ⟨(by omega), rfl⟩⟩
set_option maxHeartbeats 4000000 in
set_option maxRecDepth 100000 in
theorem zX9_isSide {g : Gm} {l : Launch} {D : Dat} {x : Int} (rx : -2147483648 ≤ x ∧ x ≤ 2147483647) : CrB g l 1 mX9_isSide [vI x] D (x = 0 ∨ x = 1) := by
  unfold CrB
  refine Cr.ofZ (lo0 := [vI x]) (by decide) (Nat.le_of_ble_eq_true rfl) rfl (fun J hA hR => ?_)
  refine q_iload_n (j := 0) hA rfl dX9_isSide_0 ?_
  refine q_if_eq (tgt := 9) hA (by omega) dX9_isSide_1 (by decide) (fun h1 => ?_) (fun h1 => ?_)
  · refine q_iconst hA dX9_isSide_9 ?_
    refine q_goto (tgt := 14) hA dX9_isSide_10 (by decide) ?_
    exact hR 14 _ _ _ dX9_isSide_14 (Or.inr rfl) ⟨rfl, Or.inl ⟨(by omega), rfl⟩⟩
  · refine q_iload_n (j := 0) hA rfl dX9_isSide_4 ?_
    refine q_iconst hA dX9_isSide_5 ?_
    refine q_icmp_ne (tgt := 13) hA (by omega) (by omega) dX9_isSide_6 (by decide) (fun h6 => ?_) (fun h6 => ?_)
    · refine q_iconst hA dX9_isSide_13 ?_
      exact hR 14 _ _ _ dX9_isSide_14 (Or.inl rfl) ⟨rfl, Or.inr ⟨(by omega), rfl⟩⟩
    · refine q_iconst hA dX9_isSide_9 ?_
      refine q_goto (tgt := 14) hA dX9_isSide_10 (by decide) ?_
      exact hR 14 _ _ _ dX9_isSide_14 (Or.inr rfl) ⟨rfl, Or.inl ⟨(by omega), rfl⟩⟩
set_option maxHeartbeats 4000000 in
set_option maxRecDepth 100000 in
theorem zX9_isSheet {g : Gm} {l : Launch} {D : Dat} {x : Int} (rx : -2147483648 ≤ x ∧ x ≤ 2147483647) : CrB g l 2 mX9_isSheet [vI x] D (0 ≤ x ∧ x ≤ 3) := by
  unfold CrB
  refine Cr.ofZ (lo0 := [vI x]) (by decide) (Nat.le_of_ble_eq_true rfl) rfl (fun J hA hR => ?_)
  refine q_iload_n (j := 0) hA rfl dX9_isSheet_0 ?_
  refine q_iconst hA dX9_isSheet_1 ?_
  refine q_iconst hA dX9_isSheet_2 ?_
  refine q_callSB (As := [vI x, vI 0, vI 3]) (st := []) hA l_X9_69 kX9_isWithin (zX9_isWithin (by first | assumption | omega | rfl) (by first | assumption | omega | rfl) (by first | assumption | omega | rfl)) dX9_isSheet_3 rfl rfl (Nat.le_of_ble_eq_true rfl) (by omega) (fun h3 => ?_) (fun h3 => ?_)
  · exact hR 6 _ _ _ dX9_isSheet_6 (Or.inr rfl) ⟨rfl, Or.inl ⟨(by omega), rfl⟩⟩
  · exact hR 6 _ _ _ dX9_isSheet_6 (Or.inl rfl) ⟨rfl, Or.inr ⟨(by omega), rfl⟩⟩
set_option maxHeartbeats 4000000 in
set_option maxRecDepth 100000 in
theorem zX9_isLane {g : Gm} {l : Launch} {D : Dat} {x : Int} (rx : -2147483648 ≤ x ∧ x ≤ 2147483647) : CrB g l 2 mX9_isLane [vI x] D (0 ≤ x ∧ x ≤ 3) := by
  unfold CrB
  refine Cr.ofZ (lo0 := [vI x]) (by decide) (Nat.le_of_ble_eq_true rfl) rfl (fun J hA hR => ?_)
  refine q_iload_n (j := 0) hA rfl dX9_isLane_0 ?_
  refine q_iconst hA dX9_isLane_1 ?_
  refine q_iconst hA dX9_isLane_2 ?_
  refine q_callSB (As := [vI x, vI 0, vI 3]) (st := []) hA l_X9_69 kX9_isWithin (zX9_isWithin (by first | assumption | omega | rfl) (by first | assumption | omega | rfl) (by first | assumption | omega | rfl)) dX9_isLane_3 rfl rfl (Nat.le_of_ble_eq_true rfl) (by omega) (fun h3 => ?_) (fun h3 => ?_)
  · exact hR 6 _ _ _ dX9_isLane_6 (Or.inr rfl) ⟨rfl, Or.inl ⟨(by omega), rfl⟩⟩
  · exact hR 6 _ _ _ dX9_isLane_6 (Or.inl rfl) ⟨rfl, Or.inr ⟨(by omega), rfl⟩⟩
