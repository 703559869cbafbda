set_option maxHeartbeats 4000000 in
set_option maxRecDepth 100000 in
theorem zX7_has {g : Gm} {l : Launch} {D : Dat} {a : Nat} (hs : isStrip a) (ho : sOk D a) {p : Int} (rp : -2147483648 ≤ p ∧ p ≤ 2147483647) : CrB g l 1 mX7_has [vR a, vI p] D (0 ≤ p ∧ p < D a 6) := by
  unfold CrB
  refine Cr.ofZ (lo0 := [vR a, vI p]) (by decide) (Nat.le_of_ble_eq_true rfl) rfl (fun J hA hR => ?_)
  have hn := ho.n
  refine q_iload_n (j := 1) hA rfl dX7_has_0 ?_
  refine q_if_lt (tgt := 22) hA (by omega) dX7_has_1 (by decide) (fun h1 => ?_) (fun h1 => ?_)
  · refine q_iconst hA dX7_has_22 ?_
    exact hR 23 _ _ _ dX7_has_23 (Or.inl rfl) ⟨rfl, Or.inr ⟨(by omega), rfl⟩⟩
  · refine q_iload_n (j := 1) hA rfl dX7_has_4 ?_
    refine q_aload_n (j := 0) hA rfl dX7_has_5 ?_
    refine q_getI (x := D a 6) hA f_X7_30 dX7_has_6 (strS hs) (by decide) rfl ?_
    refine q_icmp_ge (tgt := 22) hA (by omega) (by omega) dX7_has_9 (by decide) (fun h9 => ?_) (fun h9 => ?_)
    · refine q_iconst hA dX7_has_22 ?_
      exact hR 23 _ _ _ dX7_has_23 (Or.inl rfl) ⟨rfl, Or.inr ⟨(by omega), rfl⟩⟩
    · refine q_iload_n (j := 1) hA rfl dX7_has_12 ?_
      refine q_bipush hA (by decide) dX7_has_13 ?_
      refine q_icmp_ge (tgt := 22) hA (by omega) (by omega) dX7_has_15 (by decide) (fun h15 => ?_) (fun h15 => ?_)
      · refine q_iconst hA dX7_has_22 ?_
        exact hR 23 _ _ _ dX7_has_23 (Or.inl rfl) ⟨rfl, Or.inr ⟨(by omega), rfl⟩⟩
      · refine q_iconst hA dX7_has_18 ?_
        refine q_goto (tgt := 23) hA dX7_has_19 (by decide) ?_
        exact hR 23 _ _ _ dX7_has_23 (Or.inr rfl) ⟨rfl, Or.inl ⟨(by omega), rfl⟩⟩
set_option maxHeartbeats 4000000 in
set_option maxRecDepth 100000 in
theorem zX7_areLinked {g : Gm} {l : Launch} {D : Dat} {a : Nat} (hs : isStrip a) (ho : sOk D a) {p : Int} {q : Int} (rp : -2147483648 ≤ p ∧ p ≤ 2147483647) (rq : -2147483648 ≤ q ∧ q ≤ 2147483647) : CrB g l 2 mX7_areLinked [vR a, vI p, vI q] D ((0 ≤ p ∧ p < D a 6) ∧ (0 ≤ q ∧ q < D a 6) ∧ tb (D (a + 6) p) q = true) := by
  unfold CrB
  refine Cr.ofZ (lo0 := [vR a, vI p, vI q]) (by decide) (Nat.le_of_ble_eq_true rfl) rfl (fun J hA hR => ?_)
  have hn := ho.n
  refine q_aload_n (j := 0) hA rfl dX7_areLinked_0 ?_
  refine q_iload_n (j := 1) hA rfl dX7_areLinked_1 ?_
  refine q_callVB (b := a) (As := [vI p]) (st := []) hA l_X7_65 kX7_has (zX7_has (by first | assumption | omega | rfl) (by first | assumption | omega | rfl) (by first | assumption | omega | rfl)) dX7_areLinked_2 rfl rfl (strS hs) (by decide) rfl (Nat.le_of_ble_eq_true rfl) (by omega) (fun h2 => ?_) (fun h2 => ?_)
  · refine q_if_eq (tgt := 34) hA (by decide) dX7_areLinked_5 (by decide) (fun h5 => absurd h5 (by decide)) (fun h5 => ?_)
    refine q_aload_n (j := 0) hA rfl dX7_areLinked_8 ?_
    refine q_iload_n (j := 2) hA rfl dX7_areLinked_9 ?_
    refine q_callVB (b := a) (As := [vI q]) (st := []) hA l_X7_65 kX7_has (zX7_has (by first | assumption | omega | rfl) (by first | assumption | omega | rfl) (by first | assumption | omega | rfl)) dX7_areLinked_10 rfl rfl (strS hs) (by decide) rfl (Nat.le_of_ble_eq_true rfl) (by omega) (fun h10 => ?_) (fun h10 => ?_)
    · refine q_if_eq (tgt := 34) hA (by decide) dX7_areLinked_13 (by decide) (fun h13 => absurd h13 (by decide)) (fun h13 => ?_)
      have hat := ho.at (p := p) (by omega)
      refine q_aload_n (j := 0) hA rfl dX7_areLinked_16 ?_
      refine q_getR hA f_X7_27 dX7_areLinked_17 (strS hs) (by decide) (strF5 hs) ?_
      refine q_iload_n (j := 1) hA rfl dX7_areLinked_20 ?_
      refine q_iald (x := D (a + 6) p) hA dX7_areLinked_21 (strS6 hs) (by omega) (by decide) rfl ?_
      refine q_iload_n (j := 2) hA rfl dX7_areLinked_22 ?_
      refine q_ishr hA dX7_areLinked_23 ?_
      refine q_iconst hA dX7_areLinked_24 ?_
      refine q_iand hA dX7_areLinked_25 ?_
      rw [show iAnd (iShr (D (a + 6) p) q) 1 = if tb (D (a + 6) p) q then 1 else 0 from bitT (by omega) (by omega)]
      refine q_iconst hA dX7_areLinked_26 ?_
      refine q_icmp_ne (tgt := 34) hA (by split <;> omega) (by omega) dX7_areLinked_27 (by decide) (fun h27 => ?_) (fun h27 => ?_)
      · refine q_iconst hA dX7_areLinked_34 ?_
        exact hR 35 _ _ _ dX7_areLinked_35 (Or.inl rfl) ⟨rfl, Or.inr ⟨(by first | omega | (refine ⟨h2, h10, ?_⟩; revert h27; cases tb (D (a + 6) p) q <;> simp) | (rintro ⟨z1, z2, z3⟩; first | exact h2 z1 | exact h10 z2 | (rw [z3] at h27; simp at h27))), rfl⟩⟩
      · refine q_iconst hA dX7_areLinked_30 ?_
        refine q_goto (tgt := 35) hA dX7_areLinked_31 (by decide) ?_
        exact hR 35 _ _ _ dX7_areLinked_35 (Or.inr rfl) ⟨rfl, Or.inl ⟨(by first | omega | (refine ⟨h2, h10, ?_⟩; revert h27; cases tb (D (a + 6) p) q <;> simp) | (rintro ⟨z1, z2, z3⟩; first | exact h2 z1 | exact h10 z2 | (rw [z3] at h27; simp at h27))), rfl⟩⟩
    · refine q_if_eq (tgt := 34) hA (by decide) dX7_areLinked_13 (by decide) (fun h13 => ?_) (fun h13 => absurd h13 (by decide))
      refine q_iconst hA dX7_areLinked_34 ?_
      exact hR 35 _ _ _ dX7_areLinked_35 (Or.inl rfl) ⟨rfl, Or.inr ⟨(by first | omega | (refine ⟨h2, h10, ?_⟩; revert h27; cases tb (D (a + 6) p) q <;> simp) | (rintro ⟨z1, z2, z3⟩; first | exact h2 z1 | exact h10 z2 | (rw [z3] at h27; simp at h27))), rfl⟩⟩
  · refine q_if_eq (tgt := 34) hA (by decide) dX7_areLinked_5 (by decide) (fun h5 => ?_) (fun h5 => absurd h5 (by decide))
    refine q_iconst hA dX7_areLinked_34 ?_
    exact hR 35 _ _ _ dX7_areLinked_35 (Or.inl rfl) ⟨rfl, Or.inr ⟨(by first | omega | (refine ⟨h2, h10, ?_⟩; revert h27; cases tb (D (a + 6) p) q <;> simp) | (rintro ⟨z1, z2, z3⟩; first | exact h2 z1 | exact h10 z2 | (rw [z3] at h27; simp at h27))), rfl⟩⟩
set_option maxHeartbeats 4000000 in
set_option maxRecDepth 100000 in
theorem zX7_isTorn {g : Gm} {l : Launch} {D : Dat} {a : Nat} (hs : isStrip a) (ho : sOk D a) {p : Int} (rp : -2147483648 ≤ p ∧ p ≤ 2147483647) : CrB g l 2 mX7_isTorn [vR a, vI p] D ((0 ≤ p ∧ p < D a 6) ∧ D (a + 3) p ≤ D (a + 4) p) := by
  unfold CrB
  refine Cr.ofZ (lo0 := [vR a, vI p]) (by decide) (Nat.le_of_ble_eq_true rfl) rfl (fun J hA hR => ?_)
  have hn := ho.n
  refine q_aload_n (j := 0) hA rfl dX7_isTorn_0 ?_
  refine q_iload_n (j := 1) hA rfl dX7_isTorn_1 ?_
  refine q_callVB (b := a) (As := [vI p]) (st := []) hA l_X7_65 kX7_has (zX7_has (by first | assumption | omega | rfl) (by first | assumption | omega | rfl) (by first | assumption | omega | rfl)) dX7_isTorn_2 rfl rfl (strS hs) (by decide) rfl (Nat.le_of_ble_eq_true rfl) (by omega) (fun h2 => ?_) (fun h2 => ?_)
  · refine q_if_eq (tgt := 27) hA (by decide) dX7_isTorn_5 (by decide) (fun h5 => absurd h5 (by decide)) (fun h5 => ?_)
    have hat := ho.at (p := p) (by omega)
    refine q_aload_n (j := 0) hA rfl dX7_isTorn_8 ?_
    refine q_getR hA f_X7_21 dX7_isTorn_9 (strS hs) (by decide) (strF3 hs) ?_
    refine q_iload_n (j := 1) hA rfl dX7_isTorn_12 ?_
    refine q_iald (x := D (a + 4) p) hA dX7_isTorn_13 (strS4 hs) (by omega) (by decide) rfl ?_
    refine q_aload_n (j := 0) hA rfl dX7_isTorn_14 ?_
    refine q_getR hA f_X7_18 dX7_isTorn_15 (strS hs) (by decide) (strF2 hs) ?_
    refine q_iload_n (j := 1) hA rfl dX7_isTorn_18 ?_
    refine q_iald (x := D (a + 3) p) hA dX7_isTorn_19 (strS3 hs) (by omega) (by decide) rfl ?_
    refine q_icmp_lt (tgt := 27) hA (by omega) (by omega) dX7_isTorn_20 (by decide) (fun h20 => ?_) (fun h20 => ?_)
    · refine q_iconst hA dX7_isTorn_27 ?_
      exact hR 28 _ _ _ dX7_isTorn_28 (Or.inl rfl) ⟨rfl, Or.inr ⟨(by omega), rfl⟩⟩
    · refine q_iconst hA dX7_isTorn_23 ?_
      refine q_goto (tgt := 28) hA dX7_isTorn_24 (by decide) ?_
      exact hR 28 _ _ _ dX7_isTorn_28 (Or.inr rfl) ⟨rfl, Or.inl ⟨(by omega), rfl⟩⟩
  · refine q_if_eq (tgt := 27) hA (by decide) dX7_isTorn_5 (by decide) (fun h5 => ?_) (fun h5 => absurd h5 (by decide))
    refine q_iconst hA dX7_isTorn_27 ?_
    exact hR 28 _ _ _ dX7_isTorn_28 (Or.inl rfl) ⟨rfl, Or.inr ⟨(by omega), rfl⟩⟩
set_option maxHeartbeats 4000000 in
set_option maxRecDepth 100000 in
theorem zX3_effort {g : Gm} {l : Launch} {D : Dat} {k : Int} {s : Int} (hk : 1 ≤ k ∧ k ≤ 5) (hsh : 0 ≤ s ∧ s ≤ 99) : CrP g l 2 mX3_effort [vI k, vI s] D (effK k s) := by
  unfold CrP
  refine Cr.ofI (lo0 := [vI k, vI s, vN]) (by decide) (Nat.le_of_ble_eq_true rfl) rfl (fun J hA hR => ?_)
  have hst := stV1_le hk
  refine q_iload_n (j := 0) hA rfl dX3_effort_0 ?_
  refine q_iconst hA dX3_effort_1 ?_
  refine q_icmp_lt (tgt := 10) hA (by omega) (by omega) dX3_effort_2 (by decide) (fun h2 => absurd h2 (by omega)) (fun h2 => ?_)
  refine q_iload_n (j := 0) hA rfl dX3_effort_5 ?_
  refine q_iconst hA dX3_effort_6 ?_
  refine q_icmp_le (tgt := 12) hA (by omega) (by omega) dX3_effort_7 (by decide) (fun h7 => ?_) (fun h7 => absurd h7 (by omega))
  refine q_gets (k := 1) hA (by decide) sf_X3_15 rfl dX3_effort_12 ?_
  refine q_iload_n (j := 0) hA rfl dX3_effort_15 ?_
  refine q_ialdS (k := 1) (x := stV 1 (k).toNat) hA (by decide) rfl dX3_effort_16 (by omega) rfl ?_
  refine q_istore_n (j := 2) (lo2 := [vI k, vI s, vI (stV 1 (k).toNat)]) hA dX3_effort_17 (by decide) rfl rfl ?_
  refine q_iload_n (j := 0) hA rfl dX3_effort_18 ?_
  refine q_iconst hA dX3_effort_19 ?_
  refine q_icmp_ne (tgt := 33) hA (by omega) (by omega) dX3_effort_20 (by decide) (fun h20 => ?_) (fun h20 => ?_)
  · refine q_iload_n (j := 2) hA rfl dX3_effort_33 ?_
    exact hR 34 _ _ _ dX3_effort_34 ⟨(by first | exact eff_fin hk hsh (Or.inl ⟨h20, rfl⟩) | exact eff_fin hk hsh (Or.inr ⟨h20, rfl⟩)), rfl⟩
  · refine q_iconst hA dX3_effort_23 ?_
    refine q_iload_n (j := 2) hA rfl dX3_effort_24 ?_
    refine q_iload_n (j := 1) hA rfl dX3_effort_25 ?_
    refine q_isub hA dX3_effort_26 ?_
    refine q_max hA mw_X3_18 (by omega) (by omega) (Nat.le_of_ble_eq_true rfl) (by omega) dX3_effort_27 ?_
    refine q_goto (tgt := 34) hA dX3_effort_30 (by decide) ?_
    exact hR 34 _ _ _ dX3_effort_34 ⟨(by first | exact eff_fin hk hsh (Or.inl ⟨h20, rfl⟩) | exact eff_fin hk hsh (Or.inr ⟨h20, rfl⟩)), rfl⟩
set_option maxHeartbeats 4000000 in
set_option maxRecDepth 100000 in
theorem zX3_wears {g : Gm} {l : Launch} {D : Dat} {k : Int} (hk : 1 ≤ k ∧ k ≤ 5) : CrP g l 1 mX3_wears [vI k] D (wearK k) := by
  unfold CrP
  refine Cr.ofI (lo0 := [vI k]) (by decide) (Nat.le_of_ble_eq_true rfl) rfl (fun J hA hR => ?_)
  refine q_iload_n (j := 0) hA rfl dX3_wears_0 ?_
  refine q_iconst hA dX3_wears_1 ?_
  refine q_icmp_lt (tgt := 10) hA (by omega) (by omega) dX3_wears_2 (by decide) (fun h2 => absurd h2 (by omega)) (fun h2 => ?_)
  refine q_iload_n (j := 0) hA rfl dX3_wears_5 ?_
  refine q_iconst hA dX3_wears_6 ?_
  refine q_icmp_le (tgt := 14) hA (by omega) (by omega) dX3_wears_7 (by decide) (fun h7 => ?_) (fun h7 => absurd h7 (by omega))
  refine q_gets (k := 2) hA (by decide) sf_X3_24 rfl dX3_wears_14 ?_
  refine q_iload_n (j := 0) hA rfl dX3_wears_17 ?_
  refine q_ialdS (k := 2) (x := stV 2 (k).toNat) hA (by decide) rfl dX3_wears_18 (by omega) rfl ?_
  exact hR 19 _ _ _ dX3_wears_19 ⟨(by exact wear_fin hk), rfl⟩
set_option maxHeartbeats 4000000 in
set_option maxRecDepth 100000 in
theorem zX7_effortOf {g : Gm} {l : Launch} {D : Dat} {a : Nat} (hs : isStrip a) (ho : sOk D a) {p : Int} (hp : 0 ≤ p ∧ p < D a 6) : CrP g l 3 mX7_effortOf [vR a, vI p] D (effK (D (a + 1) p) (D (a + 5) p)) := by
  unfold CrP
  refine Cr.ofI (lo0 := [vR a, vI p]) (by decide) (Nat.le_of_ble_eq_true rfl) rfl (fun J hA hR => ?_)
  have hn := ho.n
  have hat := ho.at (p := p) (by omega)
  have hat2 := hat.2.2.2.2.2.2 (by omega)
  refine q_aload_n (j := 0) hA rfl dX7_effortOf_0 ?_
  refine q_iload_n (j := 1) hA rfl dX7_effortOf_1 ?_
  refine q_callVB (b := a) (As := [vI p]) (st := []) hA l_X7_65 kX7_has (zX7_has (by first | assumption | omega | rfl) (by first | assumption | omega | rfl) (by first | assumption | omega | rfl)) dX7_effortOf_2 rfl rfl (strS hs) (by decide) rfl (Nat.le_of_ble_eq_true rfl) (by omega) (fun h2 => ?_) (fun h2 => absurd hp h2)
  refine q_if_eq (tgt := 26) hA (by decide) dX7_effortOf_5 (by decide) (fun h5 => absurd h5 (by decide)) (fun h5 => ?_)
  refine q_aload_n (j := 0) hA rfl dX7_effortOf_8 ?_
  refine q_getR hA f_X7_9 dX7_effortOf_9 (strS hs) (by decide) (strF0 hs) ?_
  refine q_iload_n (j := 1) hA rfl dX7_effortOf_12 ?_
  refine q_iald (x := D (a + 1) p) hA dX7_effortOf_13 (strS1 hs) (by omega) (by decide) rfl ?_
  refine q_aload_n (j := 0) hA rfl dX7_effortOf_14 ?_
  refine q_getR hA f_X7_24 dX7_effortOf_15 (strS hs) (by decide) (strF4 hs) ?_
  refine q_iload_n (j := 1) hA rfl dX7_effortOf_18 ?_
  refine q_iald (x := D (a + 5) p) hA dX7_effortOf_19 (strS5 hs) (by omega) (by decide) rfl ?_
  refine q_callSP (As := [vI (D (a + 1) p), vI (D (a + 5) p)]) (st := []) hA l_X7_89 kX3_effort (zX3_effort (by first | assumption | omega | rfl) (by first | assumption | omega | rfl)) dX7_effortOf_20 rfl rfl (Nat.le_of_ble_eq_true rfl) (by omega) ?_
  refine q_nmI (fun v20 ev20 => ?_)
  refine q_goto (tgt := 27) hA dX7_effortOf_23 (by decide) ?_
  exact hR 27 _ _ _ dX7_effortOf_27 ⟨(by assumption), rfl⟩
set_option maxHeartbeats 4000000 in
set_option maxRecDepth 100000 in
theorem zX7_third_L59 {g : Gm} {l : Launch} {D : Dat} {a : Nat} (hs : isStrip a) (ho : sOk D a) {p : Int} {q : Int} {s : Int} (rs : -2147483648 ≤ s ∧ s ≤ 2147483647) (hp : 0 ≤ p ∧ p < D a 6) (hq : 0 ≤ q ∧ q < D a 6) {m f t : Int} (hm : 0 ≤ m ∧ m ≤ 255) (hf : 0 ≤ f ∧ f < 8) (ht : 0 ≤ t ∧ t < 8) {J : JT} (hA : AX g l RX7 cX7_third 9 2 J) (hR : ReI cX7_third (fun v D1 => v = (thX (rowX D a) p q s) ∧ D1 = D) J) : ∀ (fuel : Nat) (k : Int), (1 ≤ k ∧ k ≤ 9) → (thX (rowX D a) p q s = thGo (D a 6) m f t (9 - k).toNat k) → 9 - k < (fuel : Int) → J 59 [vR a, vI p, vI q, vI s, vI m, vI f, vI t, vI k, vN] [] D := by
  intro fuel
  induction fuel with
  | zero => intro k hk hv hMs; exact absurd hMs (by omega)
  | succ fuel ih =>
    intro k hk hv hMs
    have hn := ho.n
    refine q_iload (j := 7) hA rfl dX7_third_59 ?_
    refine q_aload_n (j := 0) hA rfl dX7_third_61 ?_
    refine q_getI (x := D a 6) hA f_X7_30 dX7_third_62 (strS hs) (by decide) rfl ?_
    refine q_icmp_ge (tgt := 110) hA (by omega) (by omega) dX7_third_65 (by decide) (fun h65 => ?_) (fun h65 => ?_)
    · refine q_bipush hA (by decide) dX7_third_110 ?_
      exact hR 112 _ _ _ dX7_third_112 ⟨(by rw [hv, thGo_stop (by omega)]), rfl⟩
    · refine q_iload (j := 5) hA rfl dX7_third_68 ?_
      refine q_iload (j := 7) hA rfl dX7_third_70 ?_
      refine q_iadd hA dX7_third_72 ?_
      refine q_aload_n (j := 0) hA rfl dX7_third_73 ?_
      refine q_getI (x := D a 6) hA f_X7_30 dX7_third_74 (strS hs) (by decide) rfl ?_
      refine q_irem hA (by omega) (by omega) dX7_third_77 ?_
      refine q_nmI (fun b eb => ?_)
      refine q_istore (j := 8) (lo2 := [vR a, vI p, vI q, vI s, vI m, vI f, vI t, vI k, vI b]) hA dX7_third_78 (by decide) rfl rfl ?_
      have hb1 := Int.emod_nonneg (f + k) (show D a 6 ≠ 0 by omega)
      have hb2 := Int.emod_lt_of_pos (f + k) (show 0 < D a 6 by omega)
      refine q_iload (j := 8) hA rfl dX7_third_80 ?_
      refine q_iload (j := 6) hA rfl dX7_third_82 ?_
      refine q_icmp_ne (tgt := 90) hA (by omega) (by omega) dX7_third_84 (by decide) (fun h84 => ?_) (fun h84 => ?_)
      · refine q_iload (j := 4) hA rfl dX7_third_90 ?_
        refine q_iload (j := 8) hA rfl dX7_third_92 ?_
        refine q_ishr hA dX7_third_94 ?_
        refine q_iconst hA dX7_third_95 ?_
        refine q_iand hA dX7_third_96 ?_
        rw [show iAnd (iShr m b) 1 = if tb m b then 1 else 0 from bitT (by omega) (by omega)]
        refine q_iconst hA dX7_third_97 ?_
        refine q_icmp_ne (tgt := 104) hA (by split <;> omega) (by omega) dX7_third_98 (by decide) (fun h98 => ?_) (fun h98 => ?_)
        · refine q_iinc (j := 7) (lo2 := [vR a, vI p, vI q, vI s, vI m, vI f, vI t, vI (k + 1), vI b]) hA dX7_third_104 rfl (by decide) rfl rfl ?_
          refine q_goto (tgt := 59) hA dX7_third_107 (by decide) ?_
          refine q_fgt (lo2 := [vR a, vI p, vI q, vI s, vI m, vI f, vI t, vI (k + 1), vN]) hA ⟨Or.inr rfl, Or.inr rfl, Or.inr rfl, Or.inr rfl, Or.inr rfl, Or.inr rfl, Or.inr rfl, Or.inr rfl, Or.inl rfl, trivial⟩ ?_
          exact ih _ (by omega) (by rw [hv, thGo_step (by omega), if_neg (by omega), ← eb, if_neg (by omega), if_neg (by revert h98; cases tb m b <;> simp)]) (by omega)
        · refine q_iload (j := 8) hA rfl dX7_third_101 ?_
          exact hR 103 _ _ _ dX7_third_103 ⟨(by rw [hv, thGo_step (by omega), if_neg (by omega), ← eb, if_neg (by omega), if_pos (by revert h98; cases tb m b <;> simp)]), rfl⟩
      · refine q_bipush hA (by decide) dX7_third_87 ?_
        exact hR 89 _ _ _ dX7_third_89 ⟨(by rw [hv, thGo_step (by omega), if_neg (by omega), if_pos (by omega)]), rfl⟩
set_option maxHeartbeats 4000000 in
set_option maxRecDepth 100000 in
theorem zX7_third {g : Gm} {l : Launch} {D : Dat} {a : Nat} (hs : isStrip a) (ho : sOk D a) {p : Int} {q : Int} {s : Int} (rs : -2147483648 ≤ s ∧ s ≤ 2147483647) (hp : 0 ≤ p ∧ p < D a 6) (hq : 0 ≤ q ∧ q < D a 6) : CrP g l 2 mX7_third [vR a, vI p, vI q, vI s] D (thX (rowX D a) p q s) := by
  unfold CrP
  refine Cr.ofI (lo0 := [vR a, vI p, vI q, vI s, vN, vN, vN, vN, vN]) (by decide) (Nat.le_of_ble_eq_true rfl) rfl (fun J hA hR => ?_)
  have hn := ho.n
  have hat := ho.at (p := p) (by omega)
  have hat2 := ho.at (p := q) (by omega)
  have hbl := band_le (y := D (a + 6) q) hat.2.2.2.2.2.1
  refine q_aload_n (j := 0) hA rfl dX7_third_0 ?_
  refine q_iload_n (j := 1) hA rfl dX7_third_1 ?_
  refine q_callVB (b := a) (As := [vI p]) (st := []) hA l_X7_65 kX7_has (zX7_has (by first | assumption | omega | rfl) (by first | assumption | omega | rfl) (by first | assumption | omega | rfl)) dX7_third_2 rfl rfl (strS hs) (by decide) rfl (Nat.le_of_ble_eq_true rfl) (by omega) (fun h2 => ?_) (fun h2 => absurd hp h2)
  refine q_if_eq (tgt := 16) hA (by decide) dX7_third_5 (by decide) (fun h5 => absurd h5 (by decide)) (fun h5 => ?_)
  refine q_aload_n (j := 0) hA rfl dX7_third_8 ?_
  refine q_iload_n (j := 2) hA rfl dX7_third_9 ?_
  refine q_callVB (b := a) (As := [vI q]) (st := []) hA l_X7_65 kX7_has (zX7_has (by first | assumption | omega | rfl) (by first | assumption | omega | rfl) (by first | assumption | omega | rfl)) dX7_third_10 rfl rfl (strS hs) (by decide) rfl (Nat.le_of_ble_eq_true rfl) (by omega) (fun h10 => ?_) (fun h10 => absurd hq h10)
  refine q_if_ne (tgt := 19) hA (by decide) dX7_third_13 (by decide) (fun h13 => ?_) (fun h13 => absurd h13 (by decide))
  refine q_aload_n (j := 0) hA rfl dX7_third_19 ?_
  refine q_getR hA f_X7_27 dX7_third_20 (strS hs) (by decide) (strF5 hs) ?_
  refine q_iload_n (j := 1) hA rfl dX7_third_23 ?_
  refine q_iald (x := D (a + 6) p) hA dX7_third_24 (strS6 hs) (by omega) (by decide) rfl ?_
  refine q_aload_n (j := 0) hA rfl dX7_third_25 ?_
  refine q_getR hA f_X7_27 dX7_third_26 (strS hs) (by decide) (strF5 hs) ?_
  refine q_iload_n (j := 2) hA rfl dX7_third_29 ?_
  refine q_iald (x := D (a + 6) q) hA dX7_third_30 (strS6 hs) (by omega) (by decide) rfl ?_
  refine q_iand hA dX7_third_31 ?_
  rw [show iAnd (D (a + 6) p) (D (a + 6) q) = band (D (a + 6) p) (D (a + 6) q) from iAndB (by omega) (by omega)]
  refine q_istore (j := 4) (lo2 := [vR a, vI p, vI q, vI s, vI (band (D (a + 6) p) (D (a + 6) q)), vN, vN, vN, vN]) hA dX7_third_32 (by decide) rfl rfl ?_
  refine q_iload_n (j := 3) hA rfl dX7_third_34 ?_
  refine q_if_ne (tgt := 42) hA (by omega) dX7_third_35 (by decide) (fun h35 => ?_) (fun h35 => ?_)
  · refine q_iload_n (j := 2) hA rfl dX7_third_42 ?_
    refine q_istore (j := 5) (lo2 := [vR a, vI p, vI q, vI s, vI (band (D (a + 6) p) (D (a + 6) q)), vI q, vN, vN, vN]) hA dX7_third_43 (by decide) rfl rfl ?_
    refine q_iload_n (j := 3) hA rfl dX7_third_45 ?_
    refine q_if_ne (tgt := 53) hA (by omega) dX7_third_46 (by decide) (fun h46 => ?_) (fun h46 => ?_)
    · refine q_iload_n (j := 1) hA rfl dX7_third_53 ?_
      refine q_istore (j := 6) (lo2 := [vR a, vI p, vI q, vI s, vI (band (D (a + 6) p) (D (a + 6) q)), vI q, vI p, vN, vN]) hA dX7_third_54 (by decide) rfl rfl ?_
      refine q_iconst hA dX7_third_56 ?_
      refine q_istore (j := 7) (lo2 := [vR a, vI p, vI q, vI s, vI (band (D (a + 6) p) (D (a + 6) q)), vI q, vI p, vI 1, vN]) hA dX7_third_57 (by decide) rfl rfl ?_
      refine zX7_third_L59 (D := D) (a := a) (p := p) (q := q) (s := s) hs ho rs hp hq ((by first | assumption | omega | rfl)) ((by first | assumption | omega | rfl)) ((by first | assumption | omega | rfl)) hA hR 1000 _ (by omega) (by first | omega | (unfold thX; rw [xL (by omega), xL (by omega), xN]; first | rw [if_pos (by omega)]; rfl | rw [if_neg (by omega)]; rfl)) (by omega)
    · refine q_iload_n (j := 2) hA rfl dX7_third_49 ?_
      refine q_goto (tgt := 54) hA dX7_third_50 (by decide) ?_
      refine q_istore (j := 6) (lo2 := [vR a, vI p, vI q, vI s, vI (band (D (a + 6) p) (D (a + 6) q)), vI q, vI q, vN, vN]) hA dX7_third_54 (by decide) rfl rfl ?_
      refine q_iconst hA dX7_third_56 ?_
      refine q_istore (j := 7) (lo2 := [vR a, vI p, vI q, vI s, vI (band (D (a + 6) p) (D (a + 6) q)), vI q, vI q, vI 1, vN]) hA dX7_third_57 (by decide) rfl rfl ?_
      refine zX7_third_L59 (D := D) (a := a) (p := p) (q := q) (s := s) hs ho rs hp hq ((by first | assumption | omega | rfl)) ((by first | assumption | omega | rfl)) ((by first | assumption | omega | rfl)) hA hR 1000 _ (by omega) (by first | omega | (unfold thX; rw [xL (by omega), xL (by omega), xN]; first | rw [if_pos (by omega)]; rfl | rw [if_neg (by omega)]; rfl)) (by omega)
  · refine q_iload_n (j := 1) hA rfl dX7_third_38 ?_
    refine q_goto (tgt := 43) hA dX7_third_39 (by decide) ?_
    refine q_istore (j := 5) (lo2 := [vR a, vI p, vI q, vI s, vI (band (D (a + 6) p) (D (a + 6) q)), vI p, vN, vN, vN]) hA dX7_third_43 (by decide) rfl rfl ?_
    refine q_iload_n (j := 3) hA rfl dX7_third_45 ?_
    refine q_if_ne (tgt := 53) hA (by omega) dX7_third_46 (by decide) (fun h46 => ?_) (fun h46 => ?_)
    · refine q_iload_n (j := 1) hA rfl dX7_third_53 ?_
      refine q_istore (j := 6) (lo2 := [vR a, vI p, vI q, vI s, vI (band (D (a + 6) p) (D (a + 6) q)), vI p, vI p, vN, vN]) hA dX7_third_54 (by decide) rfl rfl ?_
      refine q_iconst hA dX7_third_56 ?_
      refine q_istore (j := 7) (lo2 := [vR a, vI p, vI q, vI s, vI (band (D (a + 6) p) (D (a + 6) q)), vI p, vI p, vI 1, vN]) hA dX7_third_57 (by decide) rfl rfl ?_
      refine zX7_third_L59 (D := D) (a := a) (p := p) (q := q) (s := s) hs ho rs hp hq ((by first | assumption | omega | rfl)) ((by first | assumption | omega | rfl)) ((by first | assumption | omega | rfl)) hA hR 1000 _ (by omega) (by first | omega | (unfold thX; rw [xL (by omega), xL (by omega), xN]; first | rw [if_pos (by omega)]; rfl | rw [if_neg (by omega)]; rfl)) (by omega)
    · refine q_iload_n (j := 2) hA rfl dX7_third_49 ?_
      refine q_goto (tgt := 54) hA dX7_third_50 (by decide) ?_
      refine q_istore (j := 6) (lo2 := [vR a, vI p, vI q, vI s, vI (band (D (a + 6) p) (D (a + 6) q)), vI p, vI q, vN, vN]) hA dX7_third_54 (by decide) rfl rfl ?_
      refine q_iconst hA dX7_third_56 ?_
      refine q_istore (j := 7) (lo2 := [vR a, vI p, vI q, vI s, vI (band (D (a + 6) p) (D (a + 6) q)), vI p, vI q, vI 1, vN]) hA dX7_third_57 (by decide) rfl rfl ?_
      refine zX7_third_L59 (D := D) (a := a) (p := p) (q := q) (s := s) hs ho rs hp hq ((by first | assumption | omega | rfl)) ((by first | assumption | omega | rfl)) ((by first | assumption | omega | rfl)) hA hR 1000 _ (by omega) (by first | omega | (unfold thX; rw [xL (by omega), xL (by omega), xN]; first | rw [if_pos (by omega)]; rfl | rw [if_neg (by omega)]; rfl)) (by omega)
set_option maxHeartbeats 4000000 in
set_option maxRecDepth 100000 in
theorem zX7_reset {g : Gm} {l : Launch} {D : Dat} {a : Nat} (hs : isStrip a) : CrV g l 1 mX7_reset [vR a] D (fun D1 => rowX D1 a = resetR (rowX D a) ∧ frm a 7 D D1) := by
  refine Cr.ofV (lo0 := [vR a]) (by decide) (Nat.le_of_ble_eq_true rfl) rfl (fun J hA hR => ?_)
  refine q_aload_n (j := 0) hA rfl dX7_reset_0 ?_
  refine q_iconst hA dX7_reset_1 ?_
  refine q_putI hA f_X7_30 dX7_reset_2 (strS hs) (by decide) ?_
  show J _ _ _ (upD D a 6 0)
  refine q_aload_n (j := 0) hA rfl dX7_reset_5 ?_
  refine q_iconst hA dX7_reset_6 ?_
  refine q_putI hA f_X7_34 dX7_reset_7 (strS hs) (by decide) ?_
  show J _ _ _ (upD (upD D a 6 0) a 7 0)
  refine q_aload_n (j := 0) hA rfl dX7_reset_10 ?_
  refine q_iconst hA dX7_reset_11 ?_
  refine q_putI hA f_X7_37 dX7_reset_12 (strS hs) (by decide) ?_
  show J _ _ _ (upD (upD (upD D a 6 0) a 7 0) a 8 0)
  refine q_aload_n (j := 0) hA rfl dX7_reset_15 ?_
  refine q_iconst hA dX7_reset_16 ?_
  refine q_putI hA f_X7_40 dX7_reset_17 (strS hs) (by decide) ?_
  show J _ _ _ (upD (upD (upD (upD D a 6 0) a 7 0) a 8 0) a 9 0)
  exact hR 20 _ _ dX7_reset_20 ⟨(by rw [rx_e, rx_b, rx_f, rx_n]; rfl), (by repeat (first | exact frm.rf | assumption | refine frm.up ?_ (by omega) | refine frm.cp ?_ (by omega)))⟩
set_option maxHeartbeats 4000000 in
set_option maxRecDepth 100000 in
theorem zX7_takeFrom {g : Gm} {l : Launch} {D : Dat} {a : Nat} (hs : isStrip a) {b : Nat} (hsb : isStrip b) (hab : a ≠ b) : CrV g l 1 mX7_takeFrom [vR a, vR b] D (fun D1 => rowX D1 a = rowX D b ∧ frm a 7 D D1) := by
  refine Cr.ofV (lo0 := [vR a, vR b]) (by decide) (Nat.le_of_ble_eq_true rfl) rfl (fun J hA hR => ?_)
  have hap := strAp hs hsb
  refine q_aload_n (j := 1) hA rfl dX7_takeFrom_0 ?_
  refine q_getR hA f_X7_9 dX7_takeFrom_1 (strS hsb) (by decide) (strF0 hsb) ?_
  refine q_iconst hA dX7_takeFrom_4 ?_
  refine q_aload_n (j := 0) hA rfl dX7_takeFrom_5 ?_
  refine q_getR hA f_X7_9 dX7_takeFrom_6 (strS hs) (by decide) (strF0 hs) ?_
  refine q_iconst hA dX7_takeFrom_9 ?_
  refine q_bipush hA (by decide) dX7_takeFrom_10 ?_
  refine q_copyi hA cw_X7_43 (strS1 hsb) (strS1 hs) (by omega) (by omega) (by decide) (Nat.le_of_ble_eq_true rfl) (by omega) dX7_takeFrom_12 ?_
  refine q_aload_n (j := 1) hA rfl dX7_takeFrom_15 ?_
  refine q_getR hA f_X7_15 dX7_takeFrom_16 (strS hsb) (by decide) (strF1 hsb) ?_
  refine q_iconst hA dX7_takeFrom_19 ?_
  refine q_aload_n (j := 0) hA rfl dX7_takeFrom_20 ?_
  refine q_getR hA f_X7_15 dX7_takeFrom_21 (strS hs) (by decide) (strF1 hs) ?_
  refine q_iconst hA dX7_takeFrom_24 ?_
  refine q_bipush hA (by decide) dX7_takeFrom_25 ?_
  refine q_copyi hA cw_X7_43 (strS2 hsb) (strS2 hs) (by omega) (by omega) (by decide) (Nat.le_of_ble_eq_true rfl) (by omega) dX7_takeFrom_27 ?_
  refine q_aload_n (j := 1) hA rfl dX7_takeFrom_30 ?_
  refine q_getR hA f_X7_18 dX7_takeFrom_31 (strS hsb) (by decide) (strF2 hsb) ?_
  refine q_iconst hA dX7_takeFrom_34 ?_
  refine q_aload_n (j := 0) hA rfl dX7_takeFrom_35 ?_
  refine q_getR hA f_X7_18 dX7_takeFrom_36 (strS hs) (by decide) (strF2 hs) ?_
  refine q_iconst hA dX7_takeFrom_39 ?_
  refine q_bipush hA (by decide) dX7_takeFrom_40 ?_
  refine q_copyi hA cw_X7_43 (strS3 hsb) (strS3 hs) (by omega) (by omega) (by decide) (Nat.le_of_ble_eq_true rfl) (by omega) dX7_takeFrom_42 ?_
  refine q_aload_n (j := 1) hA rfl dX7_takeFrom_45 ?_
  refine q_getR hA f_X7_21 dX7_takeFrom_46 (strS hsb) (by decide) (strF3 hsb) ?_
  refine q_iconst hA dX7_takeFrom_49 ?_
  refine q_aload_n (j := 0) hA rfl dX7_takeFrom_50 ?_
  refine q_getR hA f_X7_21 dX7_takeFrom_51 (strS hs) (by decide) (strF3 hs) ?_
  refine q_iconst hA dX7_takeFrom_54 ?_
  refine q_bipush hA (by decide) dX7_takeFrom_55 ?_
  refine q_copyi hA cw_X7_43 (strS4 hsb) (strS4 hs) (by omega) (by omega) (by decide) (Nat.le_of_ble_eq_true rfl) (by omega) dX7_takeFrom_57 ?_
  refine q_aload_n (j := 1) hA rfl dX7_takeFrom_60 ?_
  refine q_getR hA f_X7_24 dX7_takeFrom_61 (strS hsb) (by decide) (strF4 hsb) ?_
  refine q_iconst hA dX7_takeFrom_64 ?_
  refine q_aload_n (j := 0) hA rfl dX7_takeFrom_65 ?_
  refine q_getR hA f_X7_24 dX7_takeFrom_66 (strS hs) (by decide) (strF4 hs) ?_
  refine q_iconst hA dX7_takeFrom_69 ?_
  refine q_bipush hA (by decide) dX7_takeFrom_70 ?_
  refine q_copyi hA cw_X7_43 (strS5 hsb) (strS5 hs) (by omega) (by omega) (by decide) (Nat.le_of_ble_eq_true rfl) (by omega) dX7_takeFrom_72 ?_
  refine q_aload_n (j := 1) hA rfl dX7_takeFrom_75 ?_
  refine q_getR hA f_X7_27 dX7_takeFrom_76 (strS hsb) (by decide) (strF5 hsb) ?_
  refine q_iconst hA dX7_takeFrom_79 ?_
  refine q_aload_n (j := 0) hA rfl dX7_takeFrom_80 ?_
  refine q_getR hA f_X7_27 dX7_takeFrom_81 (strS hs) (by decide) (strF5 hs) ?_
  refine q_iconst hA dX7_takeFrom_84 ?_
  refine q_bipush hA (by decide) dX7_takeFrom_85 ?_
  refine q_copyi hA cw_X7_43 (strS6 hsb) (strS6 hs) (by omega) (by omega) (by decide) (Nat.le_of_ble_eq_true rfl) (by omega) dX7_takeFrom_87 ?_
  refine q_nmD (fun E eE => ?_)
  refine q_aload_n (j := 0) hA rfl dX7_takeFrom_90 ?_
  refine q_aload_n (j := 1) hA rfl dX7_takeFrom_91 ?_
  refine q_getI (x := E b 6) hA f_X7_30 dX7_takeFrom_92 (strS hsb) (by decide) rfl ?_
  refine q_putI hA f_X7_30 dX7_takeFrom_95 (strS hs) (by decide) ?_
  show J _ _ _ (upD E a 6 (E b 6))
  refine q_aload_n (j := 0) hA rfl dX7_takeFrom_98 ?_
  refine q_aload_n (j := 1) hA rfl dX7_takeFrom_99 ?_
  refine q_getI (x := E b 7) hA f_X7_34 dX7_takeFrom_100 (strS hsb) (by decide) ((upD_n (Or.inl (by omega))).trans (rfl)) ?_
  refine q_putI hA f_X7_34 dX7_takeFrom_103 (strS hs) (by decide) ?_
  show J _ _ _ (upD (upD E a 6 (E b 6)) a 7 (E b 7))
  refine q_aload_n (j := 0) hA rfl dX7_takeFrom_106 ?_
  refine q_aload_n (j := 1) hA rfl dX7_takeFrom_107 ?_
  refine q_getI (x := E b 8) hA f_X7_37 dX7_takeFrom_108 (strS hsb) (by decide) ((upD_n (Or.inl (by omega))).trans ((upD_n (Or.inl (by omega))).trans (rfl))) ?_
  refine q_putI hA f_X7_37 dX7_takeFrom_111 (strS hs) (by decide) ?_
  show J _ _ _ (upD (upD (upD E a 6 (E b 6)) a 7 (E b 7)) a 8 (E b 8))
  refine q_aload_n (j := 0) hA rfl dX7_takeFrom_114 ?_
  refine q_aload_n (j := 1) hA rfl dX7_takeFrom_115 ?_
  refine q_getI (x := E b 9) hA f_X7_40 dX7_takeFrom_116 (strS hsb) (by decide) ((upD_n (Or.inl (by omega))).trans ((upD_n (Or.inl (by omega))).trans ((upD_n (Or.inl (by omega))).trans (rfl)))) ?_
  refine q_putI hA f_X7_40 dX7_takeFrom_119 (strS hs) (by decide) ?_
  show J _ _ _ (upD (upD (upD (upD E a 6 (E b 6)) a 7 (E b 7)) a 8 (E b 8)) a 9 (E b 9))
  exact hR 122 _ _ dX7_takeFrom_122 ⟨(by exact take_row (by omega) eE), (by (repeat (first | exact frm.rf | assumption | refine frm.up ?_ (by omega))); rw [eE]; repeat (first | exact frm.rf | assumption | refine frm.up ?_ (by omega) | refine frm.cp ?_ (by omega)))⟩
set_option maxHeartbeats 4000000 in
set_option maxRecDepth 100000 in
theorem zX7_isMissing {g : Gm} {l : Launch} {D : Dat} {a : Nat} (hs : isStrip a) (ho : sOk D a) : CrB g l 1 mX7_isMissing [vR a] D (D a 6 = 0) := by
  unfold CrB
  refine Cr.ofZ (lo0 := [vR a]) (by decide) (Nat.le_of_ble_eq_true rfl) rfl (fun J hA hR => ?_)
  have hn := ho.n
  refine q_aload_n (j := 0) hA rfl dX7_isMissing_0 ?_
  refine q_getI (x := D a 6) hA f_X7_30 dX7_isMissing_1 (strS hs) (by decide) rfl ?_
  refine q_if_ne (tgt := 11) hA (by omega) dX7_isMissing_4 (by decide) (fun h4 => ?_) (fun h4 => ?_)
  · refine q_iconst hA dX7_isMissing_11 ?_
    exact hR 12 _ _ _ dX7_isMissing_12 (Or.inl rfl) ⟨rfl, Or.inr ⟨(by omega), rfl⟩⟩
  · refine q_iconst hA dX7_isMissing_7 ?_
    refine q_goto (tgt := 12) hA dX7_isMissing_8 (by decide) ?_
    exact hR 12 _ _ _ dX7_isMissing_12 (Or.inr rfl) ⟨rfl, Or.inl ⟨(by omega), rfl⟩⟩
set_option maxHeartbeats 4000000 in
set_option maxRecDepth 100000 in
theorem zX7_areNeighbours {g : Gm} {l : Launch} {D : Dat} {a : Nat} (hs : isStrip a) (ho : sOk D a) {p : Int} {q : Int} (hp : 0 ≤ p ∧ p < 8) (hq : 0 ≤ q ∧ q < 8) : CrB g l 1 mX7_areNeighbours [vR a, vI p, vI q] D (p - q = 1 ∨ q - p = 1 ∨ p - q = D a 6 - 1 ∨ q - p = D a 6 - 1) := by
  unfold CrB
  refine Cr.ofZ (lo0 := [vR a, vI p, vI q, vN]) (by decide) (Nat.le_of_ble_eq_true rfl) rfl (fun J hA hR => ?_)
  have hn := ho.n
  refine q_iload_n (j := 1) hA rfl dX7_areNeighbours_0 ?_
  refine q_iload_n (j := 2) hA rfl dX7_areNeighbours_1 ?_
  refine q_isub hA dX7_areNeighbours_2 ?_
  refine q_abs hA mw_X7_69 (by omega) (Nat.le_of_ble_eq_true rfl) (by omega) dX7_areNeighbours_3 ?_
  refine q_nmI (fun t et => ?_)
  refine q_istore_n (j := 3) (lo2 := [vR a, vI p, vI q, vI t]) hA dX7_areNeighbours_6 (by decide) rfl rfl ?_
  have ht2 : (0 ≤ p - q ∧ t = p - q) ∨ (p - q < 0 ∧ t = q - p) := by rw [et]; split <;> omega
  refine q_iload_n (j := 3) hA rfl dX7_areNeighbours_7 ?_
  refine q_iconst hA dX7_areNeighbours_8 ?_
  refine q_icmp_eq (tgt := 22) hA (by omega) (by omega) dX7_areNeighbours_9 (by decide) (fun h9 => ?_) (fun h9 => ?_)
  · refine q_iconst hA dX7_areNeighbours_22 ?_
    refine q_goto (tgt := 27) hA dX7_areNeighbours_23 (by decide) ?_
    exact hR 27 _ _ _ dX7_areNeighbours_27 (Or.inr rfl) ⟨rfl, Or.inl ⟨(by omega), rfl⟩⟩
  · refine q_iload_n (j := 3) hA rfl dX7_areNeighbours_12 ?_
    refine q_aload_n (j := 0) hA rfl dX7_areNeighbours_13 ?_
    refine q_getI (x := D a 6) hA f_X7_30 dX7_areNeighbours_14 (strS hs) (by decide) rfl ?_
    refine q_iconst hA dX7_areNeighbours_17 ?_
    refine q_isub hA dX7_areNeighbours_18 ?_
    refine q_icmp_ne (tgt := 26) hA (by omega) (by omega) dX7_areNeighbours_19 (by decide) (fun h19 => ?_) (fun h19 => ?_)
    · refine q_iconst hA dX7_areNeighbours_26 ?_
      exact hR 27 _ _ _ dX7_areNeighbours_27 (Or.inl rfl) ⟨rfl, Or.inr ⟨(by omega), rfl⟩⟩
    · refine q_iconst hA dX7_areNeighbours_22 ?_
      refine q_goto (tgt := 27) hA dX7_areNeighbours_23 (by decide) ?_
      exact hR 27 _ _ _ dX7_areNeighbours_27 (Or.inr rfl) ⟨rfl, Or.inl ⟨(by omega), rfl⟩⟩
set_option maxHeartbeats 4000000 in
set_option maxRecDepth 100000 in
theorem zX7_isFold {g : Gm} {l : Launch} {D : Dat} {a : Nat} (hs : isStrip a) (ho : sOk D a) {p : Int} {q : Int} (hp : 0 ≤ p ∧ p < D a 6) (hq : 0 ≤ q ∧ q < D a 6) : CrB g l 3 mX7_isFold [vR a, vI p, vI q] D (tb (D (a + 6) p) q = true ∧ ¬ (p - q = 1 ∨ q - p = 1 ∨ p - q = D a 6 - 1 ∨ q - p = D a 6 - 1)) := by
  unfold CrB
  refine Cr.ofZ (lo0 := [vR a, vI p, vI q]) (by decide) (Nat.le_of_ble_eq_true rfl) rfl (fun J hA hR => ?_)
  have hn := ho.n
  refine q_aload_n (j := 0) hA rfl dX7_isFold_0 ?_
  refine q_iload_n (j := 1) hA rfl dX7_isFold_1 ?_
  refine q_iload_n (j := 2) hA rfl dX7_isFold_2 ?_
  refine q_callVB (b := a) (As := [vI p, vI q]) (st := []) hA l_X7_75 kX7_areLinked (zX7_areLinked (by first | assumption | omega | rfl) (by first | assumption | omega | rfl) (by first | assumption | omega | rfl) (by first | assumption | omega | rfl)) dX7_isFold_3 rfl rfl (strS hs) (by decide) rfl (Nat.le_of_ble_eq_true rfl) (by omega) (fun h3 => ?_) (fun h3 => ?_)
  · refine q_if_eq (tgt := 22) hA (by decide) dX7_isFold_6 (by decide) (fun h6 => absurd h6 (by decide)) (fun h6 => ?_)
    refine q_aload_n (j := 0) hA rfl dX7_isFold_9 ?_
    refine q_iload_n (j := 1) hA rfl dX7_isFold_10 ?_
    refine q_iload_n (j := 2) hA rfl dX7_isFold_11 ?_
    refine q_callVB (b := a) (As := [vI p, vI q]) (st := []) hA l_X7_79 kX7_areNeighbours (zX7_areNeighbours (by first | assumption | omega | rfl) (by first | assumption | omega | rfl) (by first | assumption | omega | rfl) (by first | assumption | omega | rfl)) dX7_isFold_12 rfl rfl (strS hs) (by decide) rfl (Nat.le_of_ble_eq_true rfl) (by omega) (fun h12 => ?_) (fun h12 => ?_)
    · refine q_if_ne (tgt := 22) hA (by decide) dX7_isFold_15 (by decide) (fun h15 => ?_) (fun h15 => absurd h15 (by decide))
      refine q_iconst hA dX7_isFold_22 ?_
      exact hR 23 _ _ _ dX7_isFold_23 (Or.inl rfl) ⟨rfl, Or.inr ⟨(by first | exact ⟨h3.2.2, h12⟩ | exact fun z => h3 ⟨hp, hq, z.1⟩ | exact fun z => z.2 h12), rfl⟩⟩
    · refine q_if_ne (tgt := 22) hA (by decide) dX7_isFold_15 (by decide) (fun h15 => absurd h15 (by decide)) (fun h15 => ?_)
      refine q_iconst hA dX7_isFold_18 ?_
      refine q_goto (tgt := 23) hA dX7_isFold_19 (by decide) ?_
      exact hR 23 _ _ _ dX7_isFold_23 (Or.inr rfl) ⟨rfl, Or.inl ⟨(by first | exact ⟨h3.2.2, h12⟩ | exact fun z => h3 ⟨hp, hq, z.1⟩ | exact fun z => z.2 h12), rfl⟩⟩
  · refine q_if_eq (tgt := 22) hA (by decide) dX7_isFold_6 (by decide) (fun h6 => ?_) (fun h6 => absurd h6 (by decide))
    refine q_iconst hA dX7_isFold_22 ?_
    exact hR 23 _ _ _ dX7_isFold_23 (Or.inl rfl) ⟨rfl, Or.inr ⟨(by first | exact ⟨h3.2.2, h12⟩ | exact fun z => h3 ⟨hp, hq, z.1⟩ | exact fun z => z.2 h12), rfl⟩⟩
set_option maxHeartbeats 4000000 in
set_option maxRecDepth 100000 in
theorem zX7_isShowing {g : Gm} {l : Launch} {D : Dat} {a : Nat} (hs : isStrip a) (ho : sOk D a) {p : Int} {q : Int} (hp : 0 ≤ p ∧ p < D a 6) (hq : 0 ≤ q ∧ q < D a 6) : CrB g l 1 mX7_isShowing [vR a, vI p, vI q] D ((D a 7 = p ∧ D a 8 = q) ∨ (D a 7 = q ∧ D a 8 = p)) := by
  unfold CrB
  refine Cr.ofZ (lo0 := [vR a, vI p, vI q]) (by decide) (Nat.le_of_ble_eq_true rfl) rfl (fun J hA hR => ?_)
  have hn := ho.n
  have hf := ho.f
  have hb := ho.b
  refine q_aload_n (j := 0) hA rfl dX7_isShowing_0 ?_
  refine q_getI (x := D a 7) hA f_X7_34 dX7_isShowing_1 (strS hs) (by decide) rfl ?_
  refine q_iload_n (j := 1) hA rfl dX7_isShowing_4 ?_
  refine q_icmp_ne (tgt := 16) hA (by omega) (by omega) dX7_isShowing_5 (by decide) (fun h5 => ?_) (fun h5 => ?_)
  · refine q_aload_n (j := 0) hA rfl dX7_isShowing_16 ?_
    refine q_getI (x := D a 7) hA f_X7_34 dX7_isShowing_17 (strS hs) (by decide) rfl ?_
    refine q_iload_n (j := 2) hA rfl dX7_isShowing_20 ?_
    refine q_icmp_ne (tgt := 36) hA (by omega) (by omega) dX7_isShowing_21 (by decide) (fun h21 => ?_) (fun h21 => ?_)
    · refine q_iconst hA dX7_isShowing_36 ?_
      exact hR 37 _ _ _ dX7_isShowing_37 (Or.inl rfl) ⟨rfl, Or.inr ⟨(by omega), rfl⟩⟩
    · refine q_aload_n (j := 0) hA rfl dX7_isShowing_24 ?_
      refine q_getI (x := D a 8) hA f_X7_37 dX7_isShowing_25 (strS hs) (by decide) rfl ?_
      refine q_iload_n (j := 1) hA rfl dX7_isShowing_28 ?_
      refine q_icmp_ne (tgt := 36) hA (by omega) (by omega) dX7_isShowing_29 (by decide) (fun h29 => ?_) (fun h29 => ?_)
      · refine q_iconst hA dX7_isShowing_36 ?_
        exact hR 37 _ _ _ dX7_isShowing_37 (Or.inl rfl) ⟨rfl, Or.inr ⟨(by omega), rfl⟩⟩
      · refine q_iconst hA dX7_isShowing_32 ?_
        refine q_goto (tgt := 37) hA dX7_isShowing_33 (by decide) ?_
        exact hR 37 _ _ _ dX7_isShowing_37 (Or.inr rfl) ⟨rfl, Or.inl ⟨(by omega), rfl⟩⟩
  · refine q_aload_n (j := 0) hA rfl dX7_isShowing_8 ?_
    refine q_getI (x := D a 8) hA f_X7_37 dX7_isShowing_9 (strS hs) (by decide) rfl ?_
    refine q_iload_n (j := 2) hA rfl dX7_isShowing_12 ?_
    refine q_icmp_eq (tgt := 32) hA (by omega) (by omega) dX7_isShowing_13 (by decide) (fun h13 => ?_) (fun h13 => ?_)
    · refine q_iconst hA dX7_isShowing_32 ?_
      refine q_goto (tgt := 37) hA dX7_isShowing_33 (by decide) ?_
      exact hR 37 _ _ _ dX7_isShowing_37 (Or.inr rfl) ⟨rfl, Or.inl ⟨(by omega), rfl⟩⟩
    · refine q_aload_n (j := 0) hA rfl dX7_isShowing_16 ?_
      refine q_getI (x := D a 7) hA f_X7_34 dX7_isShowing_17 (strS hs) (by decide) rfl ?_
      refine q_iload_n (j := 2) hA rfl dX7_isShowing_20 ?_
      refine q_icmp_ne (tgt := 36) hA (by omega) (by omega) dX7_isShowing_21 (by decide) (fun h21 => ?_) (fun h21 => ?_)
      · refine q_iconst hA dX7_isShowing_36 ?_
        exact hR 37 _ _ _ dX7_isShowing_37 (Or.inl rfl) ⟨rfl, Or.inr ⟨(by omega), rfl⟩⟩
      · refine q_aload_n (j := 0) hA rfl dX7_isShowing_24 ?_
        refine q_getI (x := D a 8) hA f_X7_37 dX7_isShowing_25 (strS hs) (by decide) rfl ?_
        refine q_iload_n (j := 1) hA rfl dX7_isShowing_28 ?_
        refine q_icmp_ne (tgt := 36) hA (by omega) (by omega) dX7_isShowing_29 (by decide) (fun h29 => ?_) (fun h29 => ?_)
        · refine q_iconst hA dX7_isShowing_36 ?_
          exact hR 37 _ _ _ dX7_isShowing_37 (Or.inl rfl) ⟨rfl, Or.inr ⟨(by omega), rfl⟩⟩
        · refine q_iconst hA dX7_isShowing_32 ?_
          refine q_goto (tgt := 37) hA dX7_isShowing_33 (by decide) ?_
          exact hR 37 _ _ _ dX7_isShowing_37 (Or.inr rfl) ⟨rfl, Or.inl ⟨(by omega), rfl⟩⟩
set_option maxHeartbeats 4000000 in
set_option maxRecDepth 100000 in
theorem zX7_join {g : Gm} {l : Launch} {D : Dat} {a : Nat} (hs : isStrip a) (ho : sOk D a) {p : Int} {q : Int} (hp : 0 ≤ p ∧ p < D a 6) (hq : 0 ≤ q ∧ q < D a 6) : CrV g l 2 mX7_join [vR a, vI p, vI q] D (fun D1 => rowX D1 a = joinR (rowX D a) p q ∧ frm a 7 D D1) := by
  refine Cr.ofV (lo0 := [vR a, vI p, vI q]) (by decide) (Nat.le_of_ble_eq_true rfl) rfl (fun J hA hR => ?_)
  have hn := ho.n
  have hat := ho.at (p := p) (by omega)
  have hat2 := ho.at (p := q) (by omega)
  refine q_aload_n (j := 0) hA rfl dX7_join_0 ?_
  refine q_iload_n (j := 1) hA rfl dX7_join_1 ?_
  refine q_callVB (b := a) (As := [vI p]) (st := []) hA l_X7_65 kX7_has (zX7_has (by first | assumption | omega | rfl) (by first | assumption | omega | rfl) (by first | assumption | omega | rfl)) dX7_join_2 rfl rfl (strS hs) (by decide) rfl (Nat.le_of_ble_eq_true rfl) (by omega) (fun h2 => ?_) (fun h2 => absurd hp h2)
  refine q_if_eq (tgt := 40) hA (by decide) dX7_join_5 (by decide) (fun h5 => absurd h5 (by decide)) (fun h5 => ?_)
  refine q_aload_n (j := 0) hA rfl dX7_join_8 ?_
  refine q_iload_n (j := 2) hA rfl dX7_join_9 ?_
  refine q_callVB (b := a) (As := [vI q]) (st := []) hA l_X7_65 kX7_has (zX7_has (by first | assumption | omega | rfl) (by first | assumption | omega | rfl) (by first | assumption | omega | rfl)) dX7_join_10 rfl rfl (strS hs) (by decide) rfl (Nat.le_of_ble_eq_true rfl) (by omega) (fun h10 => ?_) (fun h10 => absurd hq h10)
  refine q_if_eq (tgt := 40) hA (by decide) dX7_join_13 (by decide) (fun h13 => absurd h13 (by decide)) (fun h13 => ?_)
  refine q_aload_n (j := 0) hA rfl dX7_join_16 ?_
  refine q_getR hA f_X7_27 dX7_join_17 (strS hs) (by decide) (strF5 hs) ?_
  refine q_iload_n (j := 1) hA rfl dX7_join_20 ?_
  refine q_dup2IR hA dX7_join_21 ?_
  refine q_iald (x := D (a + 6) p) hA dX7_join_22 (strS6 hs) (by omega) (by decide) rfl ?_
  refine q_iconst hA dX7_join_23 ?_
  refine q_iload_n (j := 2) hA rfl dX7_join_24 ?_
  refine q_ishl hA dX7_join_25 ?_
  refine q_ior hA dX7_join_26 ?_
  rw [show iOr (D (a + 6) p) (iShl 1 q) = sb (D (a + 6) p) q from or8 (by omega) (by omega)]
  refine q_iast hA dX7_join_27 (strS6 hs) (by omega) (by decide) ?_
  refine q_nmD (fun E eE => ?_)
  have hE : 0 ≤ E (a + 6) q ∧ E (a + 6) q ≤ 255 := by
    have h1 := ho.setL (p := p) (v := sb (D (a + 6) p) q) (rowX_len _ _) (by omega) (sb_in (by omega) (by omega))
    rw [← rx_L (by omega), ← eE] at h1
    exact (sOk.at (D := E) (a := a) h1 (p := q) (by omega)).2.2.2.2.2.1
  refine q_aload_n (j := 0) hA rfl dX7_join_28 ?_
  refine q_getR hA f_X7_27 dX7_join_29 (strS hs) (by decide) (strF5 hs) ?_
  refine q_iload_n (j := 2) hA rfl dX7_join_32 ?_
  refine q_dup2IR hA dX7_join_33 ?_
  refine q_iald (x := E (a + 6) q) hA dX7_join_34 (strS6 hs) (by omega) (by decide) rfl ?_
  refine q_iconst hA dX7_join_35 ?_
  refine q_iload_n (j := 1) hA rfl dX7_join_36 ?_
  refine q_ishl hA dX7_join_37 ?_
  refine q_ior hA dX7_join_38 ?_
  rw [show iOr (E (a + 6) q) (iShl 1 p) = sb (E (a + 6) q) p from or8 (by omega) (by omega)]
  refine q_iast hA dX7_join_39 (strS6 hs) (by omega) (by decide) ?_
  exact hR 40 _ _ dX7_join_40 ⟨(by rw [rx_L (by omega), eE, rx_L (by omega)]; unfold joinR; rw [xL (by omega)]; congr 2; rw [← rx_L (by omega), xL (by omega)]), (by rw [eE]; repeat (first | exact frm.rf | assumption | refine frm.up ?_ (by omega) | refine frm.cp ?_ (by omega)))⟩
set_option maxHeartbeats 4000000 in
set_option maxRecDepth 100000 in
theorem zX7_part {g : Gm} {l : Launch} {D : Dat} {a : Nat} (hs : isStrip a) (ho : sOk D a) {p : Int} {q : Int} (hp : 0 ≤ p ∧ p < D a 6) (hq : 0 ≤ q ∧ q < D a 6) : CrV g l 2 mX7_part [vR a, vI p, vI q] D (fun D1 => rowX D1 a = partR (rowX D a) p q ∧ frm a 7 D D1) := by
  refine Cr.ofV (lo0 := [vR a, vI p, vI q]) (by decide) (Nat.le_of_ble_eq_true rfl) rfl (fun J hA hR => ?_)
  have hn := ho.n
  have hat := ho.at (p := p) (by omega)
  have hat2 := ho.at (p := q) (by omega)
  refine q_aload_n (j := 0) hA rfl dX7_part_0 ?_
  refine q_iload_n (j := 1) hA rfl dX7_part_1 ?_
  refine q_callVB (b := a) (As := [vI p]) (st := []) hA l_X7_65 kX7_has (zX7_has (by first | assumption | omega | rfl) (by first | assumption | omega | rfl) (by first | assumption | omega | rfl)) dX7_part_2 rfl rfl (strS hs) (by decide) rfl (Nat.le_of_ble_eq_true rfl) (by omega) (fun h2 => ?_) (fun h2 => absurd hp h2)
  refine q_if_eq (tgt := 44) hA (by decide) dX7_part_5 (by decide) (fun h5 => absurd h5 (by decide)) (fun h5 => ?_)
  refine q_aload_n (j := 0) hA rfl dX7_part_8 ?_
  refine q_iload_n (j := 2) hA rfl dX7_part_9 ?_
  refine q_callVB (b := a) (As := [vI q]) (st := []) hA l_X7_65 kX7_has (zX7_has (by first | assumption | omega | rfl) (by first | assumption | omega | rfl) (by first | assumption | omega | rfl)) dX7_part_10 rfl rfl (strS hs) (by decide) rfl (Nat.le_of_ble_eq_true rfl) (by omega) (fun h10 => ?_) (fun h10 => absurd hq h10)
  refine q_if_eq (tgt := 44) hA (by decide) dX7_part_13 (by decide) (fun h13 => absurd h13 (by decide)) (fun h13 => ?_)
  refine q_aload_n (j := 0) hA rfl dX7_part_16 ?_
  refine q_getR hA f_X7_27 dX7_part_17 (strS hs) (by decide) (strF5 hs) ?_
  refine q_iload_n (j := 1) hA rfl dX7_part_20 ?_
  refine q_dup2IR hA dX7_part_21 ?_
  refine q_iald (x := D (a + 6) p) hA dX7_part_22 (strS6 hs) (by omega) (by decide) rfl ?_
  refine q_iconst hA dX7_part_23 ?_
  refine q_iload_n (j := 2) hA rfl dX7_part_24 ?_
  refine q_ishl hA dX7_part_25 ?_
  refine q_iconst hA dX7_part_26 ?_
  refine q_ixor hA dX7_part_27 ?_
  refine q_iand hA dX7_part_28 ?_
  rw [show iAnd (D (a + 6) p) (iXor (iShl 1 q) (-1)) = cb (D (a + 6) p) q from andN (by omega) (by omega)]
  refine q_iast hA dX7_part_29 (strS6 hs) (by omega) (by decide) ?_
  refine q_nmD (fun E eE => ?_)
  have hE : 0 ≤ E (a + 6) q ∧ E (a + 6) q ≤ 255 := by
    have h1 := ho.setL (p := p) (v := cb (D (a + 6) p) q) (rowX_len _ _) (by omega) (cb_in (by omega))
    rw [← rx_L (by omega), ← eE] at h1
    exact (sOk.at (D := E) (a := a) h1 (p := q) (by omega)).2.2.2.2.2.1
  refine q_aload_n (j := 0) hA rfl dX7_part_30 ?_
  refine q_getR hA f_X7_27 dX7_part_31 (strS hs) (by decide) (strF5 hs) ?_
  refine q_iload_n (j := 2) hA rfl dX7_part_34 ?_
  refine q_dup2IR hA dX7_part_35 ?_
  refine q_iald (x := E (a + 6) q) hA dX7_part_36 (strS6 hs) (by omega) (by decide) rfl ?_
  refine q_iconst hA dX7_part_37 ?_
  refine q_iload_n (j := 1) hA rfl dX7_part_38 ?_
  refine q_ishl hA dX7_part_39 ?_
  refine q_iconst hA dX7_part_40 ?_
  refine q_ixor hA dX7_part_41 ?_
  refine q_iand hA dX7_part_42 ?_
  rw [show iAnd (E (a + 6) q) (iXor (iShl 1 p) (-1)) = cb (E (a + 6) q) p from andN (by omega) (by omega)]
  refine q_iast hA dX7_part_43 (strS6 hs) (by omega) (by decide) ?_
  exact hR 44 _ _ dX7_part_44 ⟨(by rw [rx_L (by omega), eE, rx_L (by omega)]; unfold partR; rw [xL (by omega)]; congr 2; rw [← rx_L (by omega), xL (by omega)]), (by rw [eE]; repeat (first | exact frm.rf | assumption | refine frm.up ?_ (by omega) | refine frm.cp ?_ (by omega)))⟩
set_option maxHeartbeats 4000000 in
set_option maxRecDepth 100000 in
theorem zX7_layRing_L2 {g : Gm} {l : Launch} {D : Dat} {a : Nat} (hs : isStrip a) (ho : sOk D a) (hn3 : 3 ≤ D a 6)   {J : JT} (hA : AX g l RX7 cX7_layRing 2 3 J) (hR : ReV cX7_layRing (fun D1 => rowX D1 a = ringR (rowX D a) (D a 6).toNat ∧ frm a 7 D D1) J) (hx : ∀ (k : Int) (E : Dat), (0 ≤ k ∧ k ≤ 8) → (rowX E a = clrR (rowX D a) k.toNat) → (frm a 7 D E) → (k = 8) → J 21 [vR a, vI k] [] E) : ∀ (fuel : Nat) (k : Int) (E : Dat), (0 ≤ k ∧ k ≤ 8) → (rowX E a = clrR (rowX D a) k.toNat) → (frm a 7 D E) → 8 - k < (fuel : Int) → J 2 [vR a, vI k] [] E := by
  intro fuel
  induction fuel with
  | zero => intro k E hk he hf hMs; exact absurd hMs (by omega)
  | succ fuel ih =>
    intro k E hk he hf hMs
    refine q_iload_n (j := 1) hA rfl dX7_layRing_2 ?_
    refine q_bipush hA (by decide) dX7_layRing_3 ?_
    refine q_icmp_ge (tgt := 21) hA (by omega) (by omega) dX7_layRing_5 (by decide) (fun h5 => ?_) (fun h5 => ?_)
    · exact hx _ _ hk he hf (by omega)
    · refine q_aload_n (j := 0) hA rfl dX7_layRing_8 ?_
      refine q_getR hA f_X7_27 dX7_layRing_9 (strS hs) (by decide) (strF5 hs) ?_
      refine q_iload_n (j := 1) hA rfl dX7_layRing_12 ?_
      refine q_iconst hA dX7_layRing_13 ?_
      refine q_iast hA dX7_layRing_14 (strS6 hs) (by omega) (by decide) ?_
      refine q_iinc (j := 1) (lo2 := [vR a, vI (k + 1)]) hA dX7_layRing_15 rfl (by decide) rfl rfl ?_
      refine q_goto (tgt := 2) hA dX7_layRing_18 (by decide) ?_
      exact ih _ _ (by omega) (by rw [rx_L (p := k) (by omega), he, show (k + 1).toNat = k.toNat + 1 by omega]; rfl) (by repeat (first | exact frm.rf | assumption | refine frm.up ?_ (by omega) | refine frm.cp ?_ (by omega))) (by omega)
set_option maxHeartbeats 4000000 in
set_option maxRecDepth 100000 in
theorem zX7_layRing_L23 {g : Gm} {l : Launch} {D : Dat} {a : Nat} (hs : isStrip a) (ho : sOk D a) (hn3 : 3 ≤ D a 6)   {J : JT} (hA : AX g l RX7 cX7_layRing 2 3 J) (hR : ReV cX7_layRing (fun D1 => rowX D1 a = ringR (rowX D a) (D a 6).toNat ∧ frm a 7 D D1) J) : ∀ (fuel : Nat) (k : Int) (E : Dat), (0 ≤ k ∧ k ≤ D a 6) → (rowX E a = ringR (rowX D a) k.toNat) → (frm a 7 D E) → D a 6 - k < (fuel : Int) → J 23 [vR a, vI k] [] E := by
  intro fuel
  induction fuel with
  | zero => intro k E hk he hf hMs; exact absurd hMs (by omega)
  | succ fuel ih =>
    intro k E hk he hf hMs
    have hn := ho.n
    have hE6 : E a 6 = D a 6 := by rw [← xN E a, he]; exact ringR_lo (rowX_len _ _) _ (by decide)
    have hoE : sOk E a := by unfold sOk; rw [he]; exact ringR_ok ho (rowX_len _ _) (by rw [xN]; omega) _ (by rw [xN]; omega)
    have hb1 := Int.emod_nonneg (k + 1) (show D a 6 ≠ 0 by omega)
    have hb2 := Int.emod_lt_of_pos (k + 1) (show 0 < D a 6 by omega)
    refine q_iload_n (j := 1) hA rfl dX7_layRing_23 ?_
    refine q_aload_n (j := 0) hA rfl dX7_layRing_24 ?_
    refine q_getI (x := D a 6) hA f_X7_30 dX7_layRing_25 (strS hs) (by decide) hE6 ?_
    refine q_icmp_ge (tgt := 50) hA (by omega) (by omega) dX7_layRing_28 (by decide) (fun h28 => ?_) (fun h28 => ?_)
    · exact hR 50 _ _ dX7_layRing_50 ⟨(by rw [he]; congr 1; omega), hf⟩
    · refine q_aload_n (j := 0) hA rfl dX7_layRing_31 ?_
      refine q_iload_n (j := 1) hA rfl dX7_layRing_32 ?_
      refine q_iload_n (j := 1) hA rfl dX7_layRing_33 ?_
      refine q_iconst hA dX7_layRing_34 ?_
      refine q_iadd hA dX7_layRing_35 ?_
      refine q_aload_n (j := 0) hA rfl dX7_layRing_36 ?_
      refine q_getI (x := D a 6) hA f_X7_30 dX7_layRing_37 (strS hs) (by decide) hE6 ?_
      refine q_irem hA (by omega) (by omega) dX7_layRing_40 ?_
      refine q_callVV (b := a) (As := [vI k, vI ((k + 1) % (D a 6))]) (st := []) hA l_X7_61 kX7_join (zX7_join (by first | assumption | omega | rfl) (by first | assumption | omega | rfl) (by first | assumption | omega | rfl) (by first | assumption | omega | rfl)) dX7_layRing_41 rfl rfl (strS hs) (by decide) rfl (Nat.le_of_ble_eq_true rfl) (by omega) (fun D41 q41 => ?_)
      refine q_iinc (j := 1) (lo2 := [vR a, vI (k + 1)]) hA dX7_layRing_44 rfl (by decide) rfl rfl ?_
      refine q_goto (tgt := 23) hA dX7_layRing_47 (by decide) ?_
      exact ih _ _ (by omega) (by rw [q41.1, he, show (k + 1).toNat = k.toNat + 1 by omega, ringR, xN, show ((k.toNat : Nat) : Int) = k by omega]) (by exact hf.tr q41.2) (by omega)
set_option maxHeartbeats 4000000 in
set_option maxRecDepth 100000 in
theorem zX7_layRing {g : Gm} {l : Launch} {D : Dat} {a : Nat} (hs : isStrip a) (ho : sOk D a) (hn3 : 3 ≤ D a 6) : CrV g l 3 mX7_layRing [vR a] D (fun D1 => rowX D1 a = ringR (rowX D a) (D a 6).toNat ∧ frm a 7 D D1) := by
  refine Cr.ofV (lo0 := [vR a, vN]) (by decide) (Nat.le_of_ble_eq_true rfl) rfl (fun J hA hR => ?_)
  have hn := ho.n
  refine q_iconst hA dX7_layRing_0 ?_
  refine q_istore_n (j := 1) (lo2 := [vR a, vI 0]) hA dX7_layRing_1 (by decide) rfl rfl ?_
  refine zX7_layRing_L2 (D := D) (a := a) hs ho hn3  hA hR (fun k E hk he hf hx => ?_) 1000 _ _ (by omega) (by rfl) (by exact frm.rf) (by omega)
  refine q_iconst hA dX7_layRing_21 ?_
  refine q_istore_n (j := 1) (lo2 := [vR a, vI 0]) hA dX7_layRing_22 (by decide) rfl rfl ?_
  refine zX7_layRing_L23 (D := D) (a := a) hs ho hn3  hA hR 1000 _ _ (by omega) (by rw [he, hx]; rfl) (by assumption) (by omega)
set_option maxHeartbeats 4000000 in
set_option maxRecDepth 100000 in
theorem zX7_addPicture {g : Gm} {l : Launch} {D : Dat} {a : Nat} (hs : isStrip a) (ho : sOk D a) {k : Int} {w : Int} {b : Int} (hn8 : D a 6 < 8) : CrV g l 1 mX7_addPicture [vR a, vI k, vI w, vI b] D (fun D1 => rowX D1 a = addR (rowX D a) k w b ∧ frm a 7 D D1) := by
  refine Cr.ofV (lo0 := [vR a, vI k, vI w, vI b]) (by decide) (Nat.le_of_ble_eq_true rfl) rfl (fun J hA hR => ?_)
  have hn := ho.n
  refine q_aload_n (j := 0) hA rfl dX7_addPicture_0 ?_
  refine q_getI (x := D a 6) hA f_X7_30 dX7_addPicture_1 (strS hs) (by decide) rfl ?_
  refine q_if_lt (tgt := 16) hA (by omega) dX7_addPicture_4 (by decide) (fun h4 => absurd h4 (by omega)) (fun h4 => ?_)
  refine q_aload_n (j := 0) hA rfl dX7_addPicture_7 ?_
  refine q_getI (x := D a 6) hA f_X7_30 dX7_addPicture_8 (strS hs) (by decide) rfl ?_
  refine q_bipush hA (by decide) dX7_addPicture_11 ?_
  refine q_icmp_lt (tgt := 17) hA (by omega) (by omega) dX7_addPicture_13 (by decide) (fun h13 => ?_) (fun h13 => absurd h13 (by omega))
  refine q_aload_n (j := 0) hA rfl dX7_addPicture_17 ?_
  refine q_getR hA f_X7_9 dX7_addPicture_18 (strS hs) (by decide) (strF0 hs) ?_
  refine q_aload_n (j := 0) hA rfl dX7_addPicture_21 ?_
  refine q_getI (x := D a 6) hA f_X7_30 dX7_addPicture_22 (strS hs) (by decide) rfl ?_
  refine q_iload_n (j := 1) hA rfl dX7_addPicture_25 ?_
  refine q_iast hA dX7_addPicture_26 (strS1 hs) (by omega) (by decide) ?_
  refine q_aload_n (j := 0) hA rfl dX7_addPicture_27 ?_
  refine q_getR hA f_X7_15 dX7_addPicture_28 (strS hs) (by decide) (strF1 hs) ?_
  refine q_aload_n (j := 0) hA rfl dX7_addPicture_31 ?_
  refine q_getI (x := D a 6) hA f_X7_30 dX7_addPicture_32 (strS hs) (by decide) ((upD_n (Or.inl (by omega))).trans (rfl)) ?_
  refine q_iload_n (j := 2) hA rfl dX7_addPicture_35 ?_
  refine q_iast hA dX7_addPicture_36 (strS2 hs) (by omega) (by decide) ?_
  refine q_aload_n (j := 0) hA rfl dX7_addPicture_37 ?_
  refine q_getR hA f_X7_18 dX7_addPicture_38 (strS hs) (by decide) (strF2 hs) ?_
  refine q_aload_n (j := 0) hA rfl dX7_addPicture_41 ?_
  refine q_getI (x := D a 6) hA f_X7_30 dX7_addPicture_42 (strS hs) (by decide) ((upD_n (Or.inl (by omega))).trans ((upD_n (Or.inl (by omega))).trans (rfl))) ?_
  refine q_iload_n (j := 3) hA rfl dX7_addPicture_45 ?_
  refine q_iast hA dX7_addPicture_46 (strS3 hs) (by omega) (by decide) ?_
  refine q_aload_n (j := 0) hA rfl dX7_addPicture_47 ?_
  refine q_getR hA f_X7_21 dX7_addPicture_48 (strS hs) (by decide) (strF3 hs) ?_
  refine q_aload_n (j := 0) hA rfl dX7_addPicture_51 ?_
  refine q_getI (x := D a 6) hA f_X7_30 dX7_addPicture_52 (strS hs) (by decide) ((upD_n (Or.inl (by omega))).trans ((upD_n (Or.inl (by omega))).trans ((upD_n (Or.inl (by omega))).trans (rfl)))) ?_
  refine q_iconst hA dX7_addPicture_55 ?_
  refine q_iast hA dX7_addPicture_56 (strS4 hs) (by omega) (by decide) ?_
  refine q_aload_n (j := 0) hA rfl dX7_addPicture_57 ?_
  refine q_getR hA f_X7_24 dX7_addPicture_58 (strS hs) (by decide) (strF4 hs) ?_
  refine q_aload_n (j := 0) hA rfl dX7_addPicture_61 ?_
  refine q_getI (x := D a 6) hA f_X7_30 dX7_addPicture_62 (strS hs) (by decide) ((upD_n (Or.inl (by omega))).trans ((upD_n (Or.inl (by omega))).trans ((upD_n (Or.inl (by omega))).trans ((upD_n (Or.inl (by omega))).trans (rfl))))) ?_
  refine q_iconst hA dX7_addPicture_65 ?_
  refine q_iast hA dX7_addPicture_66 (strS5 hs) (by omega) (by decide) ?_
  refine q_aload_n (j := 0) hA rfl dX7_addPicture_67 ?_
  refine q_dupR hA dX7_addPicture_68 ?_
  refine q_getI (x := D a 6) hA f_X7_30 dX7_addPicture_69 (strS hs) (by decide) ((upD_n (Or.inl (by omega))).trans ((upD_n (Or.inl (by omega))).trans ((upD_n (Or.inl (by omega))).trans ((upD_n (Or.inl (by omega))).trans ((upD_n (Or.inl (by omega))).trans (rfl)))))) ?_
  refine q_iconst hA dX7_addPicture_72 ?_
  refine q_iadd hA dX7_addPicture_73 ?_
  refine q_putI hA f_X7_30 dX7_addPicture_74 (strS hs) (by decide) ?_
  show J _ _ _ (upD (upD (upD (upD (upD (upD D (a + 1) (D a 6) k) (a + 2) (D a 6) w) (a + 3) (D a 6) b) (a + 4) (D a 6) 0) (a + 5) (D a 6) 0) a 6 ((D a 6) + 1))
  exact hR 77 _ _ dX7_addPicture_77 ⟨(by rw [rx_n, rx_Sh (by omega), rx_We (by omega), rx_Be (by omega), rx_W (by omega), rx_K (by omega)]; rfl), (by repeat (first | exact frm.rf | assumption | refine frm.up ?_ (by omega) | refine frm.cp ?_ (by omega)))⟩
set_option maxHeartbeats 4000000 in
set_option maxRecDepth 100000 in
theorem zX7_comesBy {g : Gm} {l : Launch} {D : Dat} {a : Nat} (hs : isStrip a) (ho : sOk D a) {m : Int} (hm : 0 ≤ m ∧ m ≤ 2) (hf : 0 ≤ D a 7 ∧ D a 7 < D a 6) (hb : 0 ≤ D a 8 ∧ D a 8 < D a 6) : CrP g l 3 mX7_comesBy [vR a, vI m] D (comesR (rowX D a) m) := by
  unfold CrP
  refine Cr.ofI (lo0 := [vR a, vI m, vN]) (by decide) (Nat.le_of_ble_eq_true rfl) rfl (fun J hA hR => ?_)
  have hn := ho.n
  refine q_iload_n (j := 1) hA rfl dX7_comesBy_0 ?_
  refine q_iconst hA dX7_comesBy_1 ?_
  refine q_icmp_ne (tgt := 10) hA (by omega) (by omega) dX7_comesBy_2 (by decide) (fun h2 => ?_) (fun h2 => ?_)
  · refine q_aload_n (j := 0) hA rfl dX7_comesBy_10 ?_
    refine q_aload_n (j := 0) hA rfl dX7_comesBy_11 ?_
    refine q_getI (x := D a 7) hA f_X7_34 dX7_comesBy_12 (strS hs) (by decide) rfl ?_
    refine q_aload_n (j := 0) hA rfl dX7_comesBy_15 ?_
    refine q_getI (x := D a 8) hA f_X7_37 dX7_comesBy_16 (strS hs) (by decide) rfl ?_
    refine q_iload_n (j := 1) hA rfl dX7_comesBy_19 ?_
    refine q_callVP (b := a) (As := [vI (D a 7), vI (D a 8), vI m]) (st := []) hA l_X7_91 kX7_third (zX7_third (by first | assumption | omega | rfl) (by first | assumption | omega | rfl) (by first | assumption | omega | rfl) (by first | assumption | omega | rfl) (by first | assumption | omega | rfl)) dX7_comesBy_20 rfl rfl (strS hs) (by decide) rfl (Nat.le_of_ble_eq_true rfl) (by omega) ?_
    refine q_nmI (fun v20 ev20 => ?_)
    refine q_istore_n (j := 2) (lo2 := [vR a, vI m, vI v20]) hA dX7_comesBy_23 (by decide) rfl rfl ?_
    have hv := thX_in (r := rowX D a) (a := D a 7) (b := D a 8) (s := m) (by rw [xN]; omega)
    rw [← ev20, xN] at hv
    refine q_aload_n (j := 0) hA rfl dX7_comesBy_24 ?_
    refine q_iload_n (j := 2) hA rfl dX7_comesBy_25 ?_
    refine q_callVB (b := a) (As := [vI v20]) (st := []) hA l_X7_95 kX7_isTorn (zX7_isTorn (by first | assumption | omega | rfl) (by first | assumption | omega | rfl) (by first | assumption | omega | rfl)) dX7_comesBy_26 rfl rfl (strS hs) (by decide) rfl (Nat.le_of_ble_eq_true rfl) (by omega) (fun h26 => ?_) (fun h26 => ?_)
    · refine q_if_eq (tgt := 37) hA (by decide) dX7_comesBy_29 (by decide) (fun h29 => absurd h29 (by decide)) (fun h29 => ?_)
      refine q_bipush hA (by decide) dX7_comesBy_32 ?_
      refine q_goto (tgt := 38) hA dX7_comesBy_34 (by decide) ?_
      exact hR 38 _ _ _ dX7_comesBy_38 ⟨(by unfold comesR; rw [if_neg (by omega), xF, xB, ← ev20]; first | rw [if_pos ⟨by rw [hasP, xN]; exact h26.1, by rw [xBe (by omega), xWe (by omega)]; exact h26.2⟩] | rw [if_neg (by rintro ⟨z1, z2⟩; rw [hasP, xN] at z1; exact h26 ⟨z1, by rw [xBe (by omega), xWe (by omega)] at z2; exact z2⟩)]), rfl⟩
    · refine q_if_eq (tgt := 37) hA (by decide) dX7_comesBy_29 (by decide) (fun h29 => ?_) (fun h29 => absurd h29 (by decide))
      refine q_iload_n (j := 2) hA rfl dX7_comesBy_37 ?_
      exact hR 38 _ _ _ dX7_comesBy_38 ⟨(by unfold comesR; rw [if_neg (by omega), xF, xB, ← ev20]; first | rw [if_pos ⟨by rw [hasP, xN]; exact h26.1, by rw [xBe (by omega), xWe (by omega)]; exact h26.2⟩] | rw [if_neg (by rintro ⟨z1, z2⟩; rw [hasP, xN] at z1; exact h26 ⟨z1, by rw [xBe (by omega), xWe (by omega)] at z2; exact z2⟩)]), rfl⟩
  · refine q_aload_n (j := 0) hA rfl dX7_comesBy_5 ?_
    refine q_getI (x := D a 8) hA f_X7_37 dX7_comesBy_6 (strS hs) (by decide) rfl ?_
    exact hR 9 _ _ _ dX7_comesBy_9 ⟨(by unfold comesR; rw [if_pos (by omega)]; rfl), rfl⟩
set_option maxHeartbeats 4000000 in
set_option maxRecDepth 100000 in
theorem zX7_mayDo {g : Gm} {l : Launch} {D : Dat} {a : Nat} (hs : isStrip a) (ho : sOk D a) {m : Int} (hm : 0 ≤ m ∧ m ≤ 2) (hf : 0 ≤ D a 7 ∧ D a 7 < D a 6) (hb : 0 ≤ D a 8 ∧ D a 8 < D a 6) : CrB g l 4 mX7_mayDo [vR a, vI m] D (0 ≤ comesR (rowX D a) m) := by
  unfold CrB
  refine Cr.ofZ (lo0 := [vR a, vI m]) (by decide) (Nat.le_of_ble_eq_true rfl) rfl (fun J hA hR => ?_)
  have hn := ho.n
  refine q_aload_n (j := 0) hA rfl dX7_mayDo_0 ?_
  refine q_iload_n (j := 1) hA rfl dX7_mayDo_1 ?_
  refine q_callVP (b := a) (As := [vI m]) (st := []) hA l_X7_98 kX7_comesBy (zX7_comesBy (by first | assumption | omega | rfl) (by first | assumption | omega | rfl) (by first | assumption | omega | rfl) (by first | assumption | omega | rfl) (by first | assumption | omega | rfl)) dX7_mayDo_2 rfl rfl (strS hs) (by decide) rfl (Nat.le_of_ble_eq_true rfl) (by omega) ?_
  refine q_nmI (fun v ev => ?_)
  have hv := comesR_in (r := rowX D a) (m := m) (by rw [xN]; omega) (by rw [xN, xB]; exact hb)
  rw [← ev, xN] at hv
  refine q_if_lt (tgt := 12) hA (by omega) dX7_mayDo_5 (by decide) (fun h5 => ?_) (fun h5 => ?_)
  · refine q_iconst hA dX7_mayDo_12 ?_
    exact hR 13 _ _ _ dX7_mayDo_13 (Or.inl rfl) ⟨rfl, Or.inr ⟨(by rw [← ev]; omega), rfl⟩⟩
  · refine q_iconst hA dX7_mayDo_8 ?_
    refine q_goto (tgt := 13) hA dX7_mayDo_9 (by decide) ?_
    exact hR 13 _ _ _ dX7_mayDo_13 (Or.inr rfl) ⟨rfl, Or.inl ⟨(by rw [← ev]; omega), rfl⟩⟩
