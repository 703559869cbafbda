set_option maxHeartbeats 4000000 in
set_option maxRecDepth 100000 in
theorem zX7_has {g : Gm} {l : Launch} {D : Dat} {a : Nat} (hs : isStrip a) (ho : sOk D a) {p : Int} (rp : -2147483648 ≤ p ∧ p ≤ 2147483647) : CrB g l 1 mX7_has [vR a, vI p] D (0 ≤ p ∧ p < D a 6) := by
  unfold CrB
  refine Cr.ofZ (lo0 := [vR a, vI p]) (by decide) (Nat.le_of_ble_eq_true rfl) rfl (fun J hA hR => ?_)
  have hn := ho.n
  refine q_iload_n (j := 1) hA rfl dX7_has_0 ?_
  refine q_if_lt (tgt := 22) hA (by omega) dX7_has_1 (by decide) (fun h1 => ?_) (fun h1 => ?_)
  · refine q_iconst hA dX7_has_22 ?_
    exact hR 23 _ _ _ dX7_has_23 (Or.inl rfl) ⟨rfl, Or.inr ⟨(by omega), rfl⟩⟩
  · refine q_iload_n (j := 1) hA rfl dX7_has_4 ?_
    refine q_aload_n (j := 0) hA rfl dX7_has_5 ?_
    refine q_getI (x := D a 6) hA f_X7_30 dX7_has_6 (strS hs) (by decide) rfl ?_
    refine q_icmp_ge (tgt := 22) hA (by omega) (by omega) dX7_has_9 (by decide) (fun h9 => ?_) (fun h9 => ?_)
    · refine q_iconst hA dX7_has_22 ?_
      exact hR 23 _ _ _ dX7_has_23 (Or.inl rfl) ⟨rfl, Or.inr ⟨(by omega), rfl⟩⟩
    · refine q_iload_n (j := 1) hA rfl dX7_has_12 ?_
      refine q_bipush hA (by decide) dX7_has_13 ?_
      refine q_icmp_ge (tgt := 22) hA (by omega) (by omega) dX7_has_15 (by decide) (fun h15 => ?_) (fun h15 => ?_)
      · refine q_iconst hA dX7_has_22 ?_
        exact hR 23 _ _ _ dX7_has_23 (Or.inl rfl) ⟨rfl, Or.inr ⟨(by omega), rfl⟩⟩
      · refine q_iconst hA dX7_has_18 ?_
        refine q_goto (tgt := 23) hA dX7_has_19 (by decide) ?_
        exact hR 23 _ _ _ dX7_has_23 (Or.inr rfl) ⟨rfl, Or.inl ⟨(by omega), rfl⟩⟩
set_option maxHeartbeats 4000000 in
set_option maxRecDepth 100000 in
theorem zX7_areLinked {g : Gm} {l : Launch} {D : Dat} {a : Nat} (hs : isStrip a) (ho : sOk D a) {p : Int} {q : Int} (rp : -2147483648 ≤ p ∧ p ≤ 2147483647) (rq : -2147483648 ≤ q ∧ q ≤ 2147483647) : CrB g l 2 mX7_areLinked [vR a, vI p, vI q] D ((0 ≤ p ∧ p < D a 6) ∧ (0 ≤ q ∧ q < D a 6) ∧ tb (D (a + 6) p) q = true) := by
  unfold CrB
  refine Cr.ofZ (lo0 := [vR a, vI p, vI q]) (by decide) (Nat.le_of_ble_eq_true rfl) rfl (fun J hA hR => ?_)
  have hn := ho.n
  refine q_aload_n (j := 0) hA rfl dX7_areLinked_0 ?_
  refine q_iload_n (j := 1) hA rfl dX7_areLinked_1 ?_
  refine q_callVB (b := a) (As := [vI p]) (st := []) hA l_X7_65 kX7_has (zX7_has (by first | assumption | omega | rfl) (by first | assumption | omega | rfl) (by first | assumption | omega | rfl)) dX7_areLinked_2 rfl rfl (strS hs) (by decide) rfl (by decide) (by decide) (fun h2 => ?_) (fun h2 => ?_)
  · refine q_if_eq (tgt := 34) hA (by decide) dX7_areLinked_5 (by decide) (fun h5 => absurd h5 (by decide)) (fun h5 => ?_)
    refine q_aload_n (j := 0) hA rfl dX7_areLinked_8 ?_
    refine q_iload_n (j := 2) hA rfl dX7_areLinked_9 ?_
    refine q_callVB (b := a) (As := [vI q]) (st := []) hA l_X7_65 kX7_has (zX7_has (by first | assumption | omega | rfl) (by first | assumption | omega | rfl) (by first | assumption | omega | rfl)) dX7_areLinked_10 rfl rfl (strS hs) (by decide) rfl (by decide) (by decide) (fun h10 => ?_) (fun h10 => ?_)
    · refine q_if_eq (tgt := 34) hA (by decide) dX7_areLinked_13 (by decide) (fun h13 => absurd h13 (by decide)) (fun h13 => ?_)
      have hat := ho.at (p := p) (by omega)
      refine q_aload_n (j := 0) hA rfl dX7_areLinked_16 ?_
      refine q_getR hA f_X7_27 dX7_areLinked_17 (strS hs) (by decide) (strF5 hs) ?_
      refine q_iload_n (j := 1) hA rfl dX7_areLinked_20 ?_
      refine q_iald (x := D (a + 6) p) hA dX7_areLinked_21 (strS6 hs) (by omega) (by decide) rfl ?_
      refine q_iload_n (j := 2) hA rfl dX7_areLinked_22 ?_
      refine q_ishr hA dX7_areLinked_23 ?_
      refine q_iconst hA dX7_areLinked_24 ?_
      refine q_iand hA dX7_areLinked_25 ?_
      rw [show iAnd (iShr (D (a + 6) p) q) 1 = if tb (D (a + 6) p) q then 1 else 0 from bitT (by omega) (by omega)]
      refine q_iconst hA dX7_areLinked_26 ?_
      refine q_icmp_ne (tgt := 34) hA (by split <;> omega) (by omega) dX7_areLinked_27 (by decide) (fun h27 => ?_) (fun h27 => ?_)
      · refine q_iconst hA dX7_areLinked_34 ?_
        exact hR 35 _ _ _ dX7_areLinked_35 (Or.inl rfl) ⟨rfl, Or.inr ⟨(by first | omega | (refine ⟨h2, h10, ?_⟩; revert h27; cases tb (D (a + 6) p) q <;> simp) | (rintro ⟨z1, z2, z3⟩; first | exact h2 z1 | exact h10 z2 | (rw [z3] at h27; simp at h27))), rfl⟩⟩
      · refine q_iconst hA dX7_areLinked_30 ?_
        refine q_goto (tgt := 35) hA dX7_areLinked_31 (by decide) ?_
        exact hR 35 _ _ _ dX7_areLinked_35 (Or.inr rfl) ⟨rfl, Or.inl ⟨(by first | omega | (refine ⟨h2, h10, ?_⟩; revert h27; cases tb (D (a + 6) p) q <;> simp) | (rintro ⟨z1, z2, z3⟩; first | exact h2 z1 | exact h10 z2 | (rw [z3] at h27; simp at h27))), rfl⟩⟩
    · refine q_if_eq (tgt := 34) hA (by decide) dX7_areLinked_13 (by decide) (fun h13 => ?_) (fun h13 => absurd h13 (by decide))
      refine q_iconst hA dX7_areLinked_34 ?_
      exact hR 35 _ _ _ dX7_areLinked_35 (Or.inl rfl) ⟨rfl, Or.inr ⟨(by first | omega | (refine ⟨h2, h10, ?_⟩; revert h27; cases tb (D (a + 6) p) q <;> simp) | (rintro ⟨z1, z2, z3⟩; first | exact h2 z1 | exact h10 z2 | (rw [z3] at h27; simp at h27))), rfl⟩⟩
  · refine q_if_eq (tgt := 34) hA (by decide) dX7_areLinked_5 (by decide) (fun h5 => ?_) (fun h5 => absurd h5 (by decide))
    refine q_iconst hA dX7_areLinked_34 ?_
    exact hR 35 _ _ _ dX7_areLinked_35 (Or.inl rfl) ⟨rfl, Or.inr ⟨(by first | omega | (refine ⟨h2, h10, ?_⟩; revert h27; cases tb (D (a + 6) p) q <;> simp) | (rintro ⟨z1, z2, z3⟩; first | exact h2 z1 | exact h10 z2 | (rw [z3] at h27; simp at h27))), rfl⟩⟩
set_option maxHeartbeats 4000000 in
set_option maxRecDepth 100000 in
theorem zX7_isTorn {g : Gm} {l : Launch} {D : Dat} {a : Nat} (hs : isStrip a) (ho : sOk D a) {p : Int} (rp : -2147483648 ≤ p ∧ p ≤ 2147483647) : CrB g l 2 mX7_isTorn [vR a, vI p] D ((0 ≤ p ∧ p < D a 6) ∧ D (a + 3) p ≤ D (a + 4) p) := by
  unfold CrB
  refine Cr.ofZ (lo0 := [vR a, vI p]) (by decide) (Nat.le_of_ble_eq_true rfl) rfl (fun J hA hR => ?_)
  have hn := ho.n
  refine q_aload_n (j := 0) hA rfl dX7_isTorn_0 ?_
  refine q_iload_n (j := 1) hA rfl dX7_isTorn_1 ?_
  refine q_callVB (b := a) (As := [vI p]) (st := []) hA l_X7_65 kX7_has (zX7_has (by first | assumption | omega | rfl) (by first | assumption | omega | rfl) (by first | assumption | omega | rfl)) dX7_isTorn_2 rfl rfl (strS hs) (by decide) rfl (by decide) (by decide) (fun h2 => ?_) (fun h2 => ?_)
  · refine q_if_eq (tgt := 27) hA (by decide) dX7_isTorn_5 (by decide) (fun h5 => absurd h5 (by decide)) (fun h5 => ?_)
    have hat := ho.at (p := p) (by omega)
    refine q_aload_n (j := 0) hA rfl dX7_isTorn_8 ?_
    refine q_getR hA f_X7_21 dX7_isTorn_9 (strS hs) (by decide) (strF3 hs) ?_
    refine q_iload_n (j := 1) hA rfl dX7_isTorn_12 ?_
    refine q_iald (x := D (a + 4) p) hA dX7_isTorn_13 (strS4 hs) (by omega) (by decide) rfl ?_
    refine q_aload_n (j := 0) hA rfl dX7_isTorn_14 ?_
    refine q_getR hA f_X7_18 dX7_isTorn_15 (strS hs) (by decide) (strF2 hs) ?_
    refine q_iload_n (j := 1) hA rfl dX7_isTorn_18 ?_
    refine q_iald (x := D (a + 3) p) hA dX7_isTorn_19 (strS3 hs) (by omega) (by decide) rfl ?_
    refine q_icmp_lt (tgt := 27) hA (by omega) (by omega) dX7_isTorn_20 (by decide) (fun h20 => ?_) (fun h20 => ?_)
    · refine q_iconst hA dX7_isTorn_27 ?_
      exact hR 28 _ _ _ dX7_isTorn_28 (Or.inl rfl) ⟨rfl, Or.inr ⟨(by omega), rfl⟩⟩
    · refine q_iconst hA dX7_isTorn_23 ?_
      refine q_goto (tgt := 28) hA dX7_isTorn_24 (by decide) ?_
      exact hR 28 _ _ _ dX7_isTorn_28 (Or.inr rfl) ⟨rfl, Or.inl ⟨(by omega), rfl⟩⟩
  · refine q_if_eq (tgt := 27) hA (by decide) dX7_isTorn_5 (by decide) (fun h5 => ?_) (fun h5 => absurd h5 (by decide))
    refine q_iconst hA dX7_isTorn_27 ?_
    exact hR 28 _ _ _ dX7_isTorn_28 (Or.inl rfl) ⟨rfl, Or.inr ⟨(by omega), rfl⟩⟩
set_option maxHeartbeats 4000000 in
set_option maxRecDepth 100000 in
theorem zX3_effort {g : Gm} {l : Launch} {D : Dat} {k : Int} {s : Int} (hk : 1 ≤ k ∧ k ≤ 5) (hsh : 0 ≤ s ∧ s ≤ 99) : CrP g l 2 mX3_effort [vI k, vI s] D (effK k s) := by
  unfold CrP
  refine Cr.ofI (lo0 := [vI k, vI s, vN]) (by decide) (Nat.le_of_ble_eq_true rfl) rfl (fun J hA hR => ?_)
  have hst := stV1_le hk
  refine q_iload_n (j := 0) hA rfl dX3_effort_0 ?_
  refine q_iconst hA dX3_effort_1 ?_
  refine q_icmp_lt (tgt := 10) hA (by omega) (by omega) dX3_effort_2 (by decide) (fun h2 => absurd h2 (by omega)) (fun h2 => ?_)
  refine q_iload_n (j := 0) hA rfl dX3_effort_5 ?_
  refine q_iconst hA dX3_effort_6 ?_
  refine q_icmp_le (tgt := 12) hA (by omega) (by omega) dX3_effort_7 (by decide) (fun h7 => ?_) (fun h7 => absurd h7 (by omega))
  refine q_gets (k := 1) hA (by decide) sf_X3_15 rfl dX3_effort_12 ?_
  refine q_iload_n (j := 0) hA rfl dX3_effort_15 ?_
  refine q_ialdS (k := 1) (x := stV 1 (k).toNat) hA (by decide) rfl dX3_effort_16 (by omega) rfl ?_
  refine q_istore_n (j := 2) (lo2 := [vI k, vI s, vI (stV 1 (k).toNat)]) hA dX3_effort_17 (by decide) rfl rfl ?_
  refine q_iload_n (j := 0) hA rfl dX3_effort_18 ?_
  refine q_iconst hA dX3_effort_19 ?_
  refine q_icmp_ne (tgt := 33) hA (by omega) (by omega) dX3_effort_20 (by decide) (fun h20 => ?_) (fun h20 => ?_)
  · refine q_iload_n (j := 2) hA rfl dX3_effort_33 ?_
    exact hR 34 _ _ _ dX3_effort_34 ⟨(by first | exact eff_fin hk hsh (Or.inl ⟨h20, rfl⟩) | exact eff_fin hk hsh (Or.inr ⟨h20, rfl⟩)), rfl⟩
  · refine q_iconst hA dX3_effort_23 ?_
    refine q_iload_n (j := 2) hA rfl dX3_effort_24 ?_
    refine q_iload_n (j := 1) hA rfl dX3_effort_25 ?_
    refine q_isub hA dX3_effort_26 ?_
    refine q_max hA mw_X3_18 (by omega) (by omega) (by decide) (by decide) dX3_effort_27 ?_
    refine q_goto (tgt := 34) hA dX3_effort_30 (by decide) ?_
    exact hR 34 _ _ _ dX3_effort_34 ⟨(by first | exact eff_fin hk hsh (Or.inl ⟨h20, rfl⟩) | exact eff_fin hk hsh (Or.inr ⟨h20, rfl⟩)), rfl⟩
set_option maxHeartbeats 4000000 in
set_option maxRecDepth 100000 in
theorem zX3_wears {g : Gm} {l : Launch} {D : Dat} {k : Int} (hk : 1 ≤ k ∧ k ≤ 5) : CrP g l 1 mX3_wears [vI k] D (wearK k) := by
  unfold CrP
  refine Cr.ofI (lo0 := [vI k]) (by decide) (Nat.le_of_ble_eq_true rfl) rfl (fun J hA hR => ?_)
  refine q_iload_n (j := 0) hA rfl dX3_wears_0 ?_
  refine q_iconst hA dX3_wears_1 ?_
  refine q_icmp_lt (tgt := 10) hA (by omega) (by omega) dX3_wears_2 (by decide) (fun h2 => absurd h2 (by omega)) (fun h2 => ?_)
  refine q_iload_n (j := 0) hA rfl dX3_wears_5 ?_
  refine q_iconst hA dX3_wears_6 ?_
  refine q_icmp_le (tgt := 14) hA (by omega) (by omega) dX3_wears_7 (by decide) (fun h7 => ?_) (fun h7 => absurd h7 (by omega))
  refine q_gets (k := 2) hA (by decide) sf_X3_24 rfl dX3_wears_14 ?_
  refine q_iload_n (j := 0) hA rfl dX3_wears_17 ?_
  refine q_ialdS (k := 2) (x := stV 2 (k).toNat) hA (by decide) rfl dX3_wears_18 (by omega) rfl ?_
  exact hR 19 _ _ _ dX3_wears_19 ⟨(by exact wear_fin hk), rfl⟩
set_option maxHeartbeats 4000000 in
set_option maxRecDepth 100000 in
theorem zX7_effortOf {g : Gm} {l : Launch} {D : Dat} {a : Nat} (hs : isStrip a) (ho : sOk D a) {p : Int} (hp : 0 ≤ p ∧ p < D a 6) : CrP g l 3 mX7_effortOf [vR a, vI p] D (effK (D (a + 1) p) (D (a + 5) p)) := by
  unfold CrP
  refine Cr.ofI (lo0 := [vR a, vI p]) (by decide) (Nat.le_of_ble_eq_true rfl) rfl (fun J hA hR => ?_)
  have hn := ho.n
  have hat := ho.at (p := p) (by omega)
  have hat2 := hat.2.2.2.2.2.2 (by omega)
  refine q_aload_n (j := 0) hA rfl dX7_effortOf_0 ?_
  refine q_iload_n (j := 1) hA rfl dX7_effortOf_1 ?_
  refine q_callVB (b := a) (As := [vI p]) (st := []) hA l_X7_65 kX7_has (zX7_has (by first | assumption | omega | rfl) (by first | assumption | omega | rfl) (by first | assumption | omega | rfl)) dX7_effortOf_2 rfl rfl (strS hs) (by decide) rfl (by decide) (by decide) (fun h2 => ?_) (fun h2 => absurd hp h2)
  refine q_if_eq (tgt := 26) hA (by decide) dX7_effortOf_5 (by decide) (fun h5 => absurd h5 (by decide)) (fun h5 => ?_)
  refine q_aload_n (j := 0) hA rfl dX7_effortOf_8 ?_
  refine q_getR hA f_X7_9 dX7_effortOf_9 (strS hs) (by decide) (strF0 hs) ?_
  refine q_iload_n (j := 1) hA rfl dX7_effortOf_12 ?_
  refine q_iald (x := D (a + 1) p) hA dX7_effortOf_13 (strS1 hs) (by omega) (by decide) rfl ?_
  refine q_aload_n (j := 0) hA rfl dX7_effortOf_14 ?_
  refine q_getR hA f_X7_24 dX7_effortOf_15 (strS hs) (by decide) (strF4 hs) ?_
  refine q_iload_n (j := 1) hA rfl dX7_effortOf_18 ?_
  refine q_iald (x := D (a + 5) p) hA dX7_effortOf_19 (strS5 hs) (by omega) (by decide) rfl ?_
  refine q_callSP (As := [vI (D (a + 1) p), vI (D (a + 5) p)]) (st := []) hA l_X7_89 kX3_effort (zX3_effort (by first | assumption | omega | rfl) (by first | assumption | omega | rfl)) dX7_effortOf_20 rfl rfl (by decide) (by decide) ?_
  refine q_nmI (fun v20 ev20 => ?_)
  refine q_goto (tgt := 27) hA dX7_effortOf_23 (by decide) ?_
  exact hR 27 _ _ _ dX7_effortOf_27 ⟨(by assumption), rfl⟩
set_option maxHeartbeats 4000000 in
set_option maxRecDepth 100000 in
theorem zX7_third_L59 {g : Gm} {l : Launch} {D : Dat} {a : Nat} (hs : isStrip a) (ho : sOk D a) {p : Int} {q : Int} {s : Int} (rs : -2147483648 ≤ s ∧ s ≤ 2147483647) (hp : 0 ≤ p ∧ p < D a 6) (hq : 0 ≤ q ∧ q < D a 6) {m f t : Int} (hm : 0 ≤ m ∧ m ≤ 255) (hf : 0 ≤ f ∧ f < 8) (ht : 0 ≤ t ∧ t < 8) {J : JT} (hA : AX g l RX7 cX7_third 9 2 J) (hR : ReI cX7_third (fun v D1 => v = thX (rowX D a) p q s ∧ D1 = D) J) : ∀ (fuel : Nat) (k : Int), 1 ≤ k ∧ k ≤ 9 → thX (rowX D a) p q s = thGo (D a 6) m f t (9 - k).toNat k → 9 - k < (fuel : Int) → J 59 [vR a, vI p, vI q, vI s, vI m, vI f, vI t, vI k, vN] [] D := by
  intro fuel
  induction fuel with
  | zero => intro k hk hv hm; exact absurd hm (by omega)
  | succ fuel ih =>
    intro k hk hv hm
    have hn := ho.n
    refine q_iload (j := 7) hA rfl dX7_third_59 ?_
    refine q_aload_n (j := 0) hA rfl dX7_third_61 ?_
    refine q_getI (x := D a 6) hA f_X7_30 dX7_third_62 (strS hs) (by decide) rfl ?_
    refine q_icmp_ge (tgt := 110) hA (by omega) (by omega) dX7_third_65 (by decide) (fun h65 => ?_) (fun h65 => ?_)
    · refine q_bipush hA (by decide) dX7_third_110 ?_
      exact hR 112 _ _ _ dX7_third_112 ⟨(by rw [hv, thGo_stop (by omega)]), rfl⟩
    · refine q_iload (j := 5) hA rfl dX7_third_68 ?_
      refine q_iload (j := 7) hA rfl dX7_third_70 ?_
      refine q_iadd hA dX7_third_72 ?_
      refine q_aload_n (j := 0) hA rfl dX7_third_73 ?_
      refine q_getI (x := D a 6) hA f_X7_30 dX7_third_74 (strS hs) (by decide) rfl ?_
      refine q_irem hA (by omega) (by omega) dX7_third_77 ?_
      refine q_nmI (fun b eb => ?_)
      refine q_istore (j := 8) (lo2 := [vR a, vI p, vI q, vI s, vI m, vI f, vI t, vI k, vI b]) hA dX7_third_78 (by decide) rfl rfl ?_
      have hb1 := Int.emod_nonneg (f + k) (show D a 6 ≠ 0 by omega)
      have hb2 := Int.emod_lt_of_pos (f + k) (show 0 < D a 6 by omega)
      refine q_iload (j := 8) hA rfl dX7_third_80 ?_
      refine q_iload (j := 6) hA rfl dX7_third_82 ?_
      refine q_icmp_ne (tgt := 90) hA (by omega) (by omega) dX7_third_84 (by decide) (fun h84 => ?_) (fun h84 => ?_)
      · refine q_iload (j := 4) hA rfl dX7_third_90 ?_
        refine q_iload (j := 8) hA rfl dX7_third_92 ?_
        refine q_ishr hA dX7_third_94 ?_
        refine q_iconst hA dX7_third_95 ?_
        refine q_iand hA dX7_third_96 ?_
        rw [show iAnd (iShr m b) 1 = if tb m b then 1 else 0 from bitT (by omega) (by omega)]
        refine q_iconst hA dX7_third_97 ?_
        refine q_icmp_ne (tgt := 104) hA (by split <;> omega) (by omega) dX7_third_98 (by decide) (fun h98 => ?_) (fun h98 => ?_)
        · refine q_iinc (j := 7) (lo2 := [vR a, vI p, vI q, vI s, vI m, vI f, vI t, vI (k + 1), vI b]) hA dX7_third_104 rfl (by decide) rfl rfl ?_
          refine q_goto (tgt := 59) hA dX7_third_107 (by decide) ?_
          refine q_fgt (lo2 := [vR a, vI p, vI q, vI s, vI m, vI f, vI t, vI (k + 1), vN]) hA ⟨Or.inr rfl, Or.inr rfl, Or.inr rfl, Or.inr rfl, Or.inr rfl, Or.inr rfl, Or.inr rfl, Or.inr rfl, Or.inl rfl, trivial⟩ ?_
          exact ih _ (by omega) (by rw [hv, thGo_step (by omega), if_neg (by omega), ← eb, if_neg (by omega), if_neg (by revert h98; cases tb m b <;> simp)]) (by omega)
        · refine q_iload (j := 8) hA rfl dX7_third_101 ?_
          exact hR 103 _ _ _ dX7_third_103 ⟨(by rw [hv, thGo_step (by omega), if_neg (by omega), ← eb, if_neg (by omega), if_pos (by revert h98; cases tb m b <;> simp)]), rfl⟩
      · refine q_bipush hA (by decide) dX7_third_87 ?_
        exact hR 89 _ _ _ dX7_third_89 ⟨(by rw [hv, thGo_step (by omega), if_neg (by omega), if_pos (by omega)]), rfl⟩
set_option maxHeartbeats 4000000 in
set_option maxRecDepth 100000 in
theorem zX7_third {g : Gm} {l : Launch} {D : Dat} {a : Nat} (hs : isStrip a) (ho : sOk D a) {p : Int} {q : Int} {s : Int} (rs : -2147483648 ≤ s ∧ s ≤ 2147483647) (hp : 0 ≤ p ∧ p < D a 6) (hq : 0 ≤ q ∧ q < D a 6) : CrP g l 2 mX7_third [vR a, vI p, vI q, vI s] D (thX (rowX D a) p q s) := by
  unfold CrP
  refine Cr.ofI (lo0 := [vR a, vI p, vI q, vI s, vN, vN, vN, vN, vN]) (by decide) (Nat.le_of_ble_eq_true rfl) rfl (fun J hA hR => ?_)
  have hn := ho.n
  have hat := ho.at (p := p) (by omega)
  have hat2 := ho.at (p := q) (by omega)
  have hbl := band_le (y := D (a + 6) q) hat.2.2.2.2.2.1
  refine q_aload_n (j := 0) hA rfl dX7_third_0 ?_
  refine q_iload_n (j := 1) hA rfl dX7_third_1 ?_
  refine q_callVB (b := a) (As := [vI p]) (st := []) hA l_X7_65 kX7_has (zX7_has (by first | assumption | omega | rfl) (by first | assumption | omega | rfl) (by first | assumption | omega | rfl)) dX7_third_2 rfl rfl (strS hs) (by decide) rfl (by decide) (by decide) (fun h2 => ?_) (fun h2 => absurd hp h2)
  refine q_if_eq (tgt := 16) hA (by decide) dX7_third_5 (by decide) (fun h5 => absurd h5 (by decide)) (fun h5 => ?_)
  refine q_aload_n (j := 0) hA rfl dX7_third_8 ?_
  refine q_iload_n (j := 2) hA rfl dX7_third_9 ?_
  refine q_callVB (b := a) (As := [vI q]) (st := []) hA l_X7_65 kX7_has (zX7_has (by first | assumption | omega | rfl) (by first | assumption | omega | rfl) (by first | assumption | omega | rfl)) dX7_third_10 rfl rfl (strS hs) (by decide) rfl (by decide) (by decide) (fun h10 => ?_) (fun h10 => absurd hq h10)
  refine q_if_ne (tgt := 19) hA (by decide) dX7_third_13 (by decide) (fun h13 => ?_) (fun h13 => absurd h13 (by decide))
  refine q_aload_n (j := 0) hA rfl dX7_third_19 ?_
  refine q_getR hA f_X7_27 dX7_third_20 (strS hs) (by decide) (strF5 hs) ?_
  refine q_iload_n (j := 1) hA rfl dX7_third_23 ?_
  refine q_iald (x := D (a + 6) p) hA dX7_third_24 (strS6 hs) (by omega) (by decide) rfl ?_
  refine q_aload_n (j := 0) hA rfl dX7_third_25 ?_
  refine q_getR hA f_X7_27 dX7_third_26 (strS hs) (by decide) (strF5 hs) ?_
  refine q_iload_n (j := 2) hA rfl dX7_third_29 ?_
  refine q_iald (x := D (a + 6) q) hA dX7_third_30 (strS6 hs) (by omega) (by decide) rfl ?_
  refine q_iand hA dX7_third_31 ?_
  rw [show iAnd (D (a + 6) p) (D (a + 6) q) = band (D (a + 6) p) (D (a + 6) q) from iAndB (by omega) (by omega)]
  refine q_istore (j := 4) (lo2 := [vR a, vI p, vI q, vI s, vI (band (D (a + 6) p) (D (a + 6) q)), vN, vN, vN, vN]) hA dX7_third_32 (by decide) rfl rfl ?_
  refine q_iload_n (j := 3) hA rfl dX7_third_34 ?_
  refine q_if_ne (tgt := 42) hA (by omega) dX7_third_35 (by decide) (fun h35 => ?_) (fun h35 => ?_)
  · refine q_iload_n (j := 2) hA rfl dX7_third_42 ?_
    refine q_istore (j := 5) (lo2 := [vR a, vI p, vI q, vI s, vI (band (D (a + 6) p) (D (a + 6) q)), vI q, vN, vN, vN]) hA dX7_third_43 (by decide) rfl rfl ?_
    refine q_iload_n (j := 3) hA rfl dX7_third_45 ?_
    refine q_if_ne (tgt := 53) hA (by omega) dX7_third_46 (by decide) (fun h46 => ?_) (fun h46 => ?_)
    · refine q_iload_n (j := 1) hA rfl dX7_third_53 ?_
      refine q_istore (j := 6) (lo2 := [vR a, vI p, vI q, vI s, vI (band (D (a + 6) p) (D (a + 6) q)), vI q, vI p, vN, vN]) hA dX7_third_54 (by decide) rfl rfl ?_
      refine q_iconst hA dX7_third_56 ?_
      refine q_istore (j := 7) (lo2 := [vR a, vI p, vI q, vI s, vI (band (D (a + 6) p) (D (a + 6) q)), vI q, vI p, vI 1, vN]) hA dX7_third_57 (by decide) rfl rfl ?_
      refine zX7_third_L59 (D := D) (a := a) (p := p) (q := q) (s := s) hs ho rs hp hq ((by first | assumption | omega | rfl)) ((by first | assumption | omega | rfl)) ((by first | assumption | omega | rfl)) hA hR 1000 _ (by omega) (by first | omega | (unfold thX; rw [xL (by omega), xL (by omega), xN]; first | rw [if_pos (by omega)]; rfl | rw [if_neg (by omega)]; rfl)) (by omega)
    · refine q_iload_n (j := 2) hA rfl dX7_third_49 ?_
      refine q_goto (tgt := 54) hA dX7_third_50 (by decide) ?_
      refine q_istore (j := 6) (lo2 := [vR a, vI p, vI q, vI s, vI (band (D (a + 6) p) (D (a + 6) q)), vI q, vI q, vN, vN]) hA dX7_third_54 (by decide) rfl rfl ?_
      refine q_iconst hA dX7_third_56 ?_
      refine q_istore (j := 7) (lo2 := [vR a, vI p, vI q, vI s, vI (band (D (a + 6) p) (D (a + 6) q)), vI q, vI q, vI 1, vN]) hA dX7_third_57 (by decide) rfl rfl ?_
      refine zX7_third_L59 (D := D) (a := a) (p := p) (q := q) (s := s) hs ho rs hp hq ((by first | assumption | omega | rfl)) ((by first | assumption | omega | rfl)) ((by first | assumption | omega | rfl)) hA hR 1000 _ (by omega) (by first | omega | (unfold thX; rw [xL (by omega), xL (by omega), xN]; first | rw [if_pos (by omega)]; rfl | rw [if_neg (by omega)]; rfl)) (by omega)
  · refine q_iload_n (j := 1) hA rfl dX7_third_38 ?_
    refine q_goto (tgt := 43) hA dX7_third_39 (by decide) ?_
    refine q_istore (j := 5) (lo2 := [vR a, vI p, vI q, vI s, vI (band (D (a + 6) p) (D (a + 6) q)), vI p, vN, vN, vN]) hA dX7_third_43 (by decide) rfl rfl ?_
    refine q_iload_n (j := 3) hA rfl dX7_third_45 ?_
    refine q_if_ne (tgt := 53) hA (by omega) dX7_third_46 (by decide) (fun h46 => ?_) (fun h46 => ?_)
    · refine q_iload_n (j := 1) hA rfl dX7_third_53 ?_
      refine q_istore (j := 6) (lo2 := [vR a, vI p, vI q, vI s, vI (band (D (a + 6) p) (D (a + 6) q)), vI p, vI p, vN, vN]) hA dX7_third_54 (by decide) rfl rfl ?_
      refine q_iconst hA dX7_third_56 ?_
      refine q_istore (j := 7) (lo2 := [vR a, vI p, vI q, vI s, vI (band (D (a + 6) p) (D (a + 6) q)), vI p, vI p, vI 1, vN]) hA dX7_third_57 (by decide) rfl rfl ?_
      refine zX7_third_L59 (D := D) (a := a) (p := p) (q := q) (s := s) hs ho rs hp hq ((by first | assumption | omega | rfl)) ((by first | assumption | omega | rfl)) ((by first | assumption | omega | rfl)) hA hR 1000 _ (by omega) (by first | omega | (unfold thX; rw [xL (by omega), xL (by omega), xN]; first | rw [if_pos (by omega)]; rfl | rw [if_neg (by omega)]; rfl)) (by omega)
    · refine q_iload_n (j := 2) hA rfl dX7_third_49 ?_
      refine q_goto (tgt := 54) hA dX7_third_50 (by decide) ?_
      refine q_istore (j := 6) (lo2 := [vR a, vI p, vI q, vI s, vI (band (D (a + 6) p) (D (a + 6) q)), vI p, vI q, vN, vN]) hA dX7_third_54 (by decide) rfl rfl ?_
      refine q_iconst hA dX7_third_56 ?_
      refine q_istore (j := 7) (lo2 := [vR a, vI p, vI q, vI s, vI (band (D (a + 6) p) (D (a + 6) q)), vI p, vI q, vI 1, vN]) hA dX7_third_57 (by decide) rfl rfl ?_
      refine zX7_third_L59 (D := D) (a := a) (p := p) (q := q) (s := s) hs ho rs hp hq ((by first | assumption | omega | rfl)) ((by first | assumption | omega | rfl)) ((by first | assumption | omega | rfl)) hA hR 1000 _ (by omega) (by first | omega | (unfold thX; rw [xL (by omega), xL (by omega), xN]; first | rw [if_pos (by omega)]; rfl | rw [if_neg (by omega)]; rfl)) (by omega)

