set_option maxHeartbeats 4000000 in
set_option maxRecDepth 100000 in
theorem zX7_has {g : Gm} {l : Launch} {D : Dat} {a : Nat} (hs : isStrip a) (ho : sOk D a) {p : Int} (rp : -2147483648 ≤ p ∧ p ≤ 2147483647) : CrB g l 1 mX7_has [vR a, vI p] D (0 ≤ p ∧ p < D a 6) := by
  unfold CrB
  refine Cr.ofZ (lo0 := [vR a, vI p]) (by decide) (Nat.le_of_ble_eq_true rfl) rfl (fun J hA hR => ?_)
  have hn := ho.n
  refine q_iload_n (j := 1) hA rfl dX7_has_0 ?_
  refine q_if_lt (tgt := 22) hA (by omega) dX7_has_1 (by decide) (fun h1 => ?_) (fun h1 => ?_)
  · refine q_iconst hA dX7_has_22 ?_
    exact hR 23 _ _ _ dX7_has_23 (Or.inl rfl) ⟨rfl, Or.inr ⟨(by omega), rfl⟩⟩
  · refine q_iload_n (j := 1) hA rfl dX7_has_4 ?_
    refine q_aload_n (j := 0) hA rfl dX7_has_5 ?_
    refine q_getI (x := D a 6) hA f_X7_30 dX7_has_6 (strS hs) (by decide) rfl ?_
    refine q_icmp_ge (tgt := 22) hA (by omega) (by omega) dX7_has_9 (by decide) (fun h9 => ?_) (fun h9 => ?_)
    · refine q_iconst hA dX7_has_22 ?_
      exact hR 23 _ _ _ dX7_has_23 (Or.inl rfl) ⟨rfl, Or.inr ⟨(by omega), rfl⟩⟩
    · refine q_iload_n (j := 1) hA rfl dX7_has_12 ?_
      refine q_bipush hA (by decide) dX7_has_13 ?_
      refine q_icmp_ge (tgt := 22) hA (by omega) (by omega) dX7_has_15 (by decide) (fun h15 => ?_) (fun h15 => ?_)
      · refine q_iconst hA dX7_has_22 ?_
        exact hR 23 _ _ _ dX7_has_23 (Or.inl rfl) ⟨rfl, Or.inr ⟨(by omega), rfl⟩⟩
      · refine q_iconst hA dX7_has_18 ?_
        refine q_goto (tgt := 23) hA dX7_has_19 (by decide) ?_
        exact hR 23 _ _ _ dX7_has_23 (Or.inr rfl) ⟨rfl, Or.inl ⟨(by omega), rfl⟩⟩
set_option maxHeartbeats 4000000 in
set_option maxRecDepth 100000 in
theorem zX7_areLinked {g : Gm} {l : Launch} {D : Dat} {a : Nat} (hs : isStrip a) (ho : sOk D a) {p : Int} {q : Int} (rp : -2147483648 ≤ p ∧ p ≤ 2147483647) (rq : -2147483648 ≤ q ∧ q ≤ 2147483647) : CrB g l 2 mX7_areLinked [vR a, vI p, vI q] D ((0 ≤ p ∧ p < D a 6) ∧ (0 ≤ q ∧ q < D a 6) ∧ tb (D (a + 6) p) q = true) := by
  unfold CrB
  refine Cr.ofZ (lo0 := [vR a, vI p, vI q]) (by decide) (Nat.le_of_ble_eq_true rfl) rfl (fun J hA hR => ?_)
  have hn := ho.n
  refine q_aload_n (j := 0) hA rfl dX7_areLinked_0 ?_
  refine q_iload_n (j := 1) hA rfl dX7_areLinked_1 ?_
  refine q_callVB (b := a) (As := [vI p]) (st := []) hA l_X7_65 kX7_has (zX7_has (by first | assumption | omega | rfl) (by first | assumption | omega | rfl) (by first | assumption | omega | rfl)) dX7_areLinked_2 rfl rfl (strS hs) (by decide) rfl (by decide) (by decide) (fun h2 => ?_) (fun h2 => ?_)
  · refine q_if_eq (tgt := 34) hA (by decide) dX7_areLinked_5 (by decide) (fun h5 => absurd h5 (by decide)) (fun h5 => ?_)
    refine q_aload_n (j := 0) hA rfl dX7_areLinked_8 ?_
    refine q_iload_n (j := 2) hA rfl dX7_areLinked_9 ?_
    refine q_callVB (b := a) (As := [vI q]) (st := []) hA l_X7_65 kX7_has (zX7_has (by first | assumption | omega | rfl) (by first | assumption | omega | rfl) (by first | assumption | omega | rfl)) dX7_areLinked_10 rfl rfl (strS hs) (by decide) rfl (by decide) (by decide) (fun h10 => ?_) (fun h10 => ?_)
    · refine q_if_eq (tgt := 34) hA (by decide) dX7_areLinked_13 (by decide) (fun h13 => absurd h13 (by decide)) (fun h13 => ?_)
      have hat := ho.at (p := p) (by omega)
      refine q_aload_n (j := 0) hA rfl dX7_areLinked_16 ?_
      refine q_getR hA f_X7_27 dX7_areLinked_17 (strS hs) (by decide) (strF5 hs) ?_
      refine q_iload_n (j := 1) hA rfl dX7_areLinked_20 ?_
      refine q_iald (x := D (a + 6) p) hA dX7_areLinked_21 (strS6 hs) (by omega) (by decide) rfl ?_
      refine q_iload_n (j := 2) hA rfl dX7_areLinked_22 ?_
      refine q_ishr hA dX7_areLinked_23 ?_
      refine q_iconst hA dX7_areLinked_24 ?_
      refine q_iand hA dX7_areLinked_25 ?_
      rw [show iAnd (iShr (D (a + 6) p) q) 1 = if tb (D (a + 6) p) q then 1 else 0 from bitT (by omega) (by omega)]
      refine q_iconst hA dX7_areLinked_26 ?_
      refine q_icmp_ne (tgt := 34) hA (by split <;> omega) (by omega) dX7_areLinked_27 (by decide) (fun h27 => ?_) (fun h27 => ?_)
      · refine q_iconst hA dX7_areLinked_34 ?_
        exact hR 35 _ _ _ dX7_areLinked_35 (Or.inl rfl) ⟨rfl, Or.inr ⟨(by first | omega | (refine ⟨h2, h10, ?_⟩; revert h27; cases tb (D (a + 6) p) q <;> simp) | (rintro ⟨z1, z2, z3⟩; first | exact h2 z1 | exact h10 z2 | (rw [z3] at h27; simp at h27))), rfl⟩⟩
      · refine q_iconst hA dX7_areLinked_30 ?_
        refine q_goto (tgt := 35) hA dX7_areLinked_31 (by decide) ?_
        exact hR 35 _ _ _ dX7_areLinked_35 (Or.inr rfl) ⟨rfl, Or.inl ⟨(by first | omega | (refine ⟨h2, h10, ?_⟩; revert h27; cases tb (D (a + 6) p) q <;> simp) | (rintro ⟨z1, z2, z3⟩; first | exact h2 z1 | exact h10 z2 | (rw [z3] at h27; simp at h27))), rfl⟩⟩
    · refine q_if_eq (tgt := 34) hA (by decide) dX7_areLinked_13 (by decide) (fun h13 => ?_) (fun h13 => absurd h13 (by decide))
      refine q_iconst hA dX7_areLinked_34 ?_
      exact hR 35 _ _ _ dX7_areLinked_35 (Or.inl rfl) ⟨rfl, Or.inr ⟨(by first | omega | (refine ⟨h2, h10, ?_⟩; revert h27; cases tb (D (a + 6) p) q <;> simp) | (rintro ⟨z1, z2, z3⟩; first | exact h2 z1 | exact h10 z2 | (rw [z3] at h27; simp at h27))), rfl⟩⟩
  · refine q_if_eq (tgt := 34) hA (by decide) dX7_areLinked_5 (by decide) (fun h5 => ?_) (fun h5 => absurd h5 (by decide))
    refine q_iconst hA dX7_areLinked_34 ?_
    exact hR 35 _ _ _ dX7_areLinked_35 (Or.inl rfl) ⟨rfl, Or.inr ⟨(by first | omega | (refine ⟨h2, h10, ?_⟩; revert h27; cases tb (D (a + 6) p) q <;> simp) | (rintro ⟨z1, z2, z3⟩; first | exact h2 z1 | exact h10 z2 | (rw [z3] at h27; simp at h27))), rfl⟩⟩
set_option maxHeartbeats 4000000 in
set_option maxRecDepth 100000 in
theorem zX7_isTorn {g : Gm} {l : Launch} {D : Dat} {a : Nat} (hs : isStrip a) (ho : sOk D a) {p : Int} (rp : -2147483648 ≤ p ∧ p ≤ 2147483647) : CrB g l 2 mX7_isTorn [vR a, vI p] D ((0 ≤ p ∧ p < D a 6) ∧ D (a + 3) p ≤ D (a + 4) p) := by
  unfold CrB
  refine Cr.ofZ (lo0 := [vR a, vI p]) (by decide) (Nat.le_of_ble_eq_true rfl) rfl (fun J hA hR => ?_)
  have hn := ho.n
  refine q_aload_n (j := 0) hA rfl dX7_isTorn_0 ?_
  refine q_iload_n (j := 1) hA rfl dX7_isTorn_1 ?_
  refine q_callVB (b := a) (As := [vI p]) (st := []) hA l_X7_65 kX7_has (zX7_has (by first | assumption | omega | rfl) (by first | assumption | omega | rfl) (by first | assumption | omega | rfl)) dX7_isTorn_2 rfl rfl (strS hs) (by decide) rfl (by decide) (by decide) (fun h2 => ?_) (fun h2 => ?_)
  · refine q_if_eq (tgt := 27) hA (by decide) dX7_isTorn_5 (by decide) (fun h5 => absurd h5 (by decide)) (fun h5 => ?_)
    have hat := ho.at (p := p) (by omega)
    refine q_aload_n (j := 0) hA rfl dX7_isTorn_8 ?_
    refine q_getR hA f_X7_21 dX7_isTorn_9 (strS hs) (by decide) (strF3 hs) ?_
    refine q_iload_n (j := 1) hA rfl dX7_isTorn_12 ?_
    refine q_iald (x := D (a + 4) p) hA dX7_isTorn_13 (strS4 hs) (by omega) (by decide) rfl ?_
    refine q_aload_n (j := 0) hA rfl dX7_isTorn_14 ?_
    refine q_getR hA f_X7_18 dX7_isTorn_15 (strS hs) (by decide) (strF2 hs) ?_
    refine q_iload_n (j := 1) hA rfl dX7_isTorn_18 ?_
    refine q_iald (x := D (a + 3) p) hA dX7_isTorn_19 (strS3 hs) (by omega) (by decide) rfl ?_
    refine q_icmp_lt (tgt := 27) hA (by omega) (by omega) dX7_isTorn_20 (by decide) (fun h20 => ?_) (fun h20 => ?_)
    · refine q_iconst hA dX7_isTorn_27 ?_
      exact hR 28 _ _ _ dX7_isTorn_28 (Or.inl rfl) ⟨rfl, Or.inr ⟨(by omega), rfl⟩⟩
    · refine q_iconst hA dX7_isTorn_23 ?_
      refine q_goto (tgt := 28) hA dX7_isTorn_24 (by decide) ?_
      exact hR 28 _ _ _ dX7_isTorn_28 (Or.inr rfl) ⟨rfl, Or.inl ⟨(by omega), rfl⟩⟩
  · refine q_if_eq (tgt := 27) hA (by decide) dX7_isTorn_5 (by decide) (fun h5 => ?_) (fun h5 => absurd h5 (by decide))
    refine q_iconst hA dX7_isTorn_27 ?_
    exact hR 28 _ _ _ dX7_isTorn_28 (Or.inl rfl) ⟨rfl, Or.inr ⟨(by omega), rfl⟩⟩

