set_option maxHeartbeats 4000000 in
set_option maxRecDepth 100000 in
theorem zX0_greatestPart_L4 {g : Gm} {l : Launch} {D : Dat} {s : Int} (hs : 0 ≤ s ∧ s ≤ 1) (hp : ∀ k : Int, 0 ≤ k → k ≤ 8 → 0 ≤ D 260 (s * 9 + k) ∧ D 260 (s * 9 + k) ≤ 1000)   {J : JT} (hA : AX g l RX0 cX0_greatestPart 4 1 J) (hR : ReI cX0_greatestPart (fun v D1 => v = (mx9 (fun k => D 260 (s * 9 + k)) 9) ∧ D1 = D) J) : ∀ (fuel : Nat) (mo : Int) (k : Int), (0 ≤ k ∧ k ≤ 9) → (mo = mx9 (fun k => D 260 (s * 9 + k)) k.toNat) → 9 - k < (fuel : Int) → J 4 [vR 247, vI s, vI mo, vI k] [] D := by
  intro fuel
  induction fuel with
  | zero => intro mo k hk hm hMs; exact absurd hMs (by omega)
  | succ fuel ih =>
    intro mo k hk hm hMs
    have hmi := mx9_in (g := fun k => D 260 (s * 9 + k)) (B := 1000) (by omega) (fun k k0 k1 => hp k k0 (by omega)) k.toNat (by omega)
    rw [← hm] at hmi
    refine q_iload_n (j := 3) hA rfl dX0_greatestPart_4 ?_
    refine q_bipush hA (by decide) dX0_greatestPart_5 ?_
    refine q_icmp_ge (tgt := 32) hA (by omega) (by omega) dX0_greatestPart_7 (by decide) (fun h7 => ?_) (fun h7 => ?_)
    · refine q_iload_n (j := 2) hA rfl dX0_greatestPart_32 ?_
      exact hR 33 _ _ _ dX0_greatestPart_33 ⟨(by rw [hm, show k = 9 by omega]; rfl), rfl⟩
    · refine q_iload_n (j := 2) hA rfl dX0_greatestPart_10 ?_
      refine q_aload_n (j := 0) hA rfl dX0_greatestPart_11 ?_
      refine q_getR hA f_X0_34 dX0_greatestPart_12 sx_247 (by decide) fx_247_6 ?_
      refine q_iload_n (j := 1) hA rfl dX0_greatestPart_15 ?_
      refine q_bipush hA (by decide) dX0_greatestPart_16 ?_
      refine q_imul hA dX0_greatestPart_18 ?_
      refine q_iload_n (j := 3) hA rfl dX0_greatestPart_19 ?_
      refine q_iadd hA dX0_greatestPart_20 ?_
      have hpk := hp k (by omega) (by omega)
      refine q_iald (x := D 260 ((s * 9) + k)) hA dX0_greatestPart_21 sx_260 (by omega) (by decide) rfl ?_
      refine q_max hA mw_X0_119 (by omega) (by omega) (Nat.le_of_ble_eq_true rfl) (by omega) dX0_greatestPart_22 ?_
      refine q_nmI (fun mx emx => ?_)
      refine q_istore_n (j := 2) (lo2 := [vR 247, vI s, vI mx, vI k]) hA dX0_greatestPart_25 (by decide) rfl rfl ?_
      refine q_iinc (j := 3) (lo2 := [vR 247, vI s, vI mx, vI (k + 1)]) hA dX0_greatestPart_26 rfl (by decide) rfl rfl ?_
      refine q_goto (tgt := 4) hA dX0_greatestPart_29 (by decide) ?_
      exact ih _ _ (by omega) (by rw [mx9_step (by omega), ← hm]; exact emx) (by omega)
set_option maxHeartbeats 4000000 in
set_option maxRecDepth 100000 in
theorem zX0_greatestPart {g : Gm} {l : Launch} {D : Dat} {s : Int} (hs : 0 ≤ s ∧ s ≤ 1) (hp : ∀ k : Int, 0 ≤ k → k ≤ 8 → 0 ≤ D 260 (s * 9 + k) ∧ D 260 (s * 9 + k) ≤ 1000) : CrP g l 1 mX0_greatestPart [vR 247, vI s] D (mx9 (fun k => D 260 (s * 9 + k)) 9) := by
  unfold CrP
  refine Cr.ofI (lo0 := [vR 247, vI s, vN, vN]) (by decide) (Nat.le_of_ble_eq_true rfl) rfl (fun J hA hR => ?_)
  refine q_iconst hA dX0_greatestPart_0 ?_
  refine q_istore_n (j := 2) (lo2 := [vR 247, vI s, vI 0, vN]) hA dX0_greatestPart_1 (by decide) rfl rfl ?_
  refine q_iconst hA dX0_greatestPart_2 ?_
  refine q_istore_n (j := 3) (lo2 := [vR 247, vI s, vI 0, vI 0]) hA dX0_greatestPart_3 (by decide) rfl rfl ?_
  refine zX0_greatestPart_L4 (D := D) (s := s) hs hp  hA hR 1000 _ _ (by omega) (by rfl) (by omega)
set_option maxHeartbeats 4000000 in
set_option maxRecDepth 100000 in
theorem zX0_bestTry {g : Gm} {l : Launch} {D : Dat} (hp : ∀ s k : Int, 0 ≤ s → s ≤ 1 → 0 ≤ k → k ≤ 8 → 0 ≤ D 260 (s * 9 + k) ∧ D 260 (s * 9 + k) ≤ 1000) (h13 : 0 ≤ D 247 13 ∧ D 247 13 ≤ 1000) : CrP g l 2 mX0_bestTry [vR 247] D (if D 247 13 = 0 then -4 else if mx9 (fun k => D 260 (1 * 9 + k)) 9 < mx9 (fun k => D 260 (0 * 9 + k)) 9 then 1 else 0) := by
  unfold CrP
  refine Cr.ofI (lo0 := [vR 247]) (by decide) (Nat.le_of_ble_eq_true rfl) rfl (fun J hA hR => ?_)
  refine q_aload_n (j := 0) hA rfl dX0_bestTry_0 ?_
  refine q_getI (x := D 247 13) hA f_X0_71 dX0_bestTry_1 sx_247 (by decide) rfl ?_
  refine q_if_ne (tgt := 10) hA (by omega) dX0_bestTry_4 (by decide) (fun h4 => ?_) (fun h4 => ?_)
  · refine q_aload_n (j := 0) hA rfl dX0_bestTry_10 ?_
    refine q_iconst hA dX0_bestTry_11 ?_
    refine q_callVP (b := 247) (As := [vI 1]) (st := []) hA l_X0_116 kX0_greatestPart (zX0_greatestPart (s := 1) (by omega) (fun k k0 k1 => hp 1 k (by omega) (by omega) k0 k1)) dX0_bestTry_12 rfl rfl sx_247 (by decide) rfl (Nat.le_of_ble_eq_true rfl) (by omega) ?_
    refine q_nmI (fun g1 eg1 => ?_)
    refine q_aload_n (j := 0) hA rfl dX0_bestTry_15 ?_
    refine q_iconst hA dX0_bestTry_16 ?_
    refine q_callVP (b := 247) (As := [vI 0]) (st := [vI g1]) hA l_X0_116 kX0_greatestPart (zX0_greatestPart (s := 0) (by omega) (fun k k0 k1 => hp 0 k (by omega) (by omega) k0 k1)) dX0_bestTry_17 rfl rfl sx_247 (by decide) rfl (Nat.le_of_ble_eq_true rfl) (by omega) ?_
    refine q_nmI (fun g0 eg0 => ?_)
    have i1 := mx9_in (g := fun k => D 260 (1 * 9 + k)) (B := 1000) (by omega) (fun k k0 k1 => hp 1 k (by omega) (by omega) k0 (by omega)) 9 (by omega)
    have i0 := mx9_in (g := fun k => D 260 (0 * 9 + k)) (B := 1000) (by omega) (fun k k0 k1 => hp 0 k (by omega) (by omega) k0 (by omega)) 9 (by omega)
    rw [← eg1] at i1
    rw [← eg0] at i0
    refine q_icmp_ge (tgt := 27) hA (by omega) (by omega) dX0_bestTry_20 (by decide) (fun h20 => ?_) (fun h20 => ?_)
    · refine q_iconst hA dX0_bestTry_27 ?_
      exact hR 28 _ _ _ dX0_bestTry_28 ⟨(by rw [if_neg (by omega), ← eg1, ← eg0]; first | rw [if_pos (by omega)] | rw [if_neg (by omega)]), rfl⟩
    · refine q_iconst hA dX0_bestTry_23 ?_
      refine q_goto (tgt := 28) hA dX0_bestTry_24 (by decide) ?_
      exact hR 28 _ _ _ dX0_bestTry_28 ⟨(by rw [if_neg (by omega), ← eg1, ← eg0]; first | rw [if_pos (by omega)] | rw [if_neg (by omega)]), rfl⟩
  · refine q_bipush hA (by decide) dX0_bestTry_7 ?_
    exact hR 9 _ _ _ dX0_bestTry_9 ⟨(by rw [if_pos (by omega)]), rfl⟩
set_option maxHeartbeats 4000000 in
set_option maxRecDepth 100000 in
theorem zX0_goThroughAll_L7 {g : Gm} {l : Launch} {D : Dat} {n : Nat} {f : Int → Int} {o m : Int} (hn8 : 3 ≤ n ∧ n ≤ 8) (ho : sOk D 248) (hmn : 0 ≤ m ∧ m ≤ 8) (hh : hrdM D f o m) (hwh : whB f (n : Int) o m.toNat = true) {N : Int} (hN : N = (n : Int))   {J : JT} (hA : AX g l RX0 cX0_goThroughAll 3 11 J) (hR : ReV cX0_goThroughAll (fun D1 => D1 247 13 = (((triN n).countP (fun L => decide (gsX (LI L) (n : Int) f o m ≠ -4)) : Nat) : Int) ∧ (∀ s k : Int, 0 ≤ s → s ≤ 1 → 0 ≤ k → k ≤ 8 → D1 260 (s * 9 + k) = (((triN n).countP (fun L => decide (ouX s (LI L) (n : Int) f o m = k)) : Nat) : Int)) ∧ sOk D1 248 ∧ (∀ c, c ≠ 247 → (c < 248 ∨ 261 ≤ c) → D1 c = D c) ∧ ∀ j : Int, j ≠ 7 → j ≠ 11 → j ≠ 12 → j ≠ 13 → D1 247 j = D 247 j) J) (hx : ∀ (k : Int) (E : Dat), (0 ≤ k ∧ k ≤ 18) → (∀ i : Int, 0 ≤ i → i < k → E 260 i = 0) → (E 247 13 = 0) → ((∀ c, c ≠ 247 → c ≠ 260 → E c = D c) ∧ ∀ j : Int, j ≠ 13 → E 247 j = D 247 j) → (k = 18) → J 29 [vR 247, vI N, vI k] [] E) : ∀ (fuel : Nat) (k : Int) (E : Dat), (0 ≤ k ∧ k ≤ 18) → (∀ i : Int, 0 ≤ i → i < k → E 260 i = 0) → (E 247 13 = 0) → ((∀ c, c ≠ 247 → c ≠ 260 → E c = D c) ∧ ∀ j : Int, j ≠ 13 → E 247 j = D 247 j) → 18 - k < (fuel : Int) → J 7 [vR 247, vI N, vI k] [] E := by
  intro fuel
  induction fuel with
  | zero => intro k E hk he hz13 hf hMs; exact absurd hMs (by omega)
  | succ fuel ih =>
    intro k E hk he hz13 hf hMs
    refine q_iload_n (j := 2) hA rfl dX0_goThroughAll_7 ?_
    refine q_aload_n (j := 0) hA rfl dX0_goThroughAll_8 ?_
    refine q_getR hA f_X0_34 dX0_goThroughAll_9 sx_247 (by decide) fx_247_6 ?_
    refine q_alen hA (Or.inl rfl) dX0_goThroughAll_12 sx_260 ?_
    show J _ _ (vI 18 :: _) _
    refine q_icmp_ge (tgt := 29) hA (by omega) (by omega) dX0_goThroughAll_13 (by decide) (fun h13 => ?_) (fun h13 => ?_)
    · exact hx _ _ hk he hz13 hf (by omega)
    · refine q_aload_n (j := 0) hA rfl dX0_goThroughAll_16 ?_
      refine q_getR hA f_X0_34 dX0_goThroughAll_17 sx_247 (by decide) fx_247_6 ?_
      refine q_iload_n (j := 2) hA rfl dX0_goThroughAll_20 ?_
      refine q_iconst hA dX0_goThroughAll_21 ?_
      refine q_iast hA dX0_goThroughAll_22 sx_260 (by omega) (by decide) ?_
      refine q_iinc (j := 2) (lo2 := [vR 247, vI N, vI (k + 1)]) hA dX0_goThroughAll_23 rfl (by decide) rfl rfl ?_
      refine q_goto (tgt := 7) hA dX0_goThroughAll_26 (by decide) ?_
      exact ih _ _ (by omega) (by intro i i1 i2; by_cases h : i = k; (subst h; exact upD_s); (rw [upD_n (Or.inr h)]; exact he i i1 (by omega))) (by exact (upD_n (Or.inl (by omega))).trans hz13) (by exact ⟨fun c c1 c2 => (upD_other c2).trans (hf.1 c c1 c2), fun j hj => (upD_n (Or.inl (by omega))).trans (hf.2 j hj)⟩) (by omega)
set_option maxHeartbeats 4000000 in
set_option maxRecDepth 100000 in
theorem zX0_goThroughAll {g : Gm} {l : Launch} {D : Dat} {n : Nat} {f : Int → Int} {o m : Int} (hn8 : 3 ≤ n ∧ n ≤ 8) (ho : sOk D 248) (hmn : 0 ≤ m ∧ m ≤ 8) (hh : hrdM D f o m) (hwh : whB f (n : Int) o m.toNat = true) {N : Int} (hN : N = (n : Int)) : CrV g l 11 mX0_goThroughAll [vR 247, vI N] D (fun D1 => D1 247 13 = (((triN n).countP (fun L => decide (gsX (LI L) (n : Int) f o m ≠ -4)) : Nat) : Int) ∧ (∀ s k : Int, 0 ≤ s → s ≤ 1 → 0 ≤ k → k ≤ 8 → D1 260 (s * 9 + k) = (((triN n).countP (fun L => decide (ouX s (LI L) (n : Int) f o m = k)) : Nat) : Int)) ∧ sOk D1 248 ∧ (∀ c, c ≠ 247 → (c < 248 ∨ 261 ≤ c) → D1 c = D c) ∧ ∀ j : Int, j ≠ 7 → j ≠ 11 → j ≠ 12 → j ≠ 13 → D1 247 j = D 247 j) := by
  refine Cr.ofV (lo0 := [vR 247, vI N, vN]) (by decide) (Nat.le_of_ble_eq_true rfl) rfl (fun J hA hR => ?_)
  refine q_aload_n (j := 0) hA rfl dX0_goThroughAll_0 ?_
  refine q_iconst hA dX0_goThroughAll_1 ?_
  refine q_putI hA f_X0_71 dX0_goThroughAll_2 sx_247 (by decide) ?_
  show J _ _ _ (upD D 247 13 0)
  refine q_iconst hA dX0_goThroughAll_5 ?_
  refine q_istore_n (j := 2) (lo2 := [vR 247, vI N, vI 0]) hA dX0_goThroughAll_6 (by decide) rfl rfl ?_
  refine zX0_goThroughAll_L7 (D := D) (n := n) (f := f) (o := o) (m := m) (N := N) hn8 ho hmn hh hwh hN  hA hR (fun k E hk he hz13 hf hk18 => ?_) 1000 _ _ (by omega) (by intro i i1 i2; omega) (by exact upD_s) (by exact ⟨fun c c1 _ => upD_other c1, fun j hj => upD_n (Or.inr hj)⟩) (by omega)
  have oE : sOk E 248 := by unfold sOk; rw [show rowX E 248 = rowX D 248 from by unfold rowX; rw [hf.1 248 (by omega) (by omega), hf.1 (248 + 1) (by omega) (by omega), hf.1 (248 + 2) (by omega) (by omega), hf.1 (248 + 3) (by omega) (by omega), hf.1 (248 + 4) (by omega) (by omega), hf.1 (248 + 5) (by omega) (by omega), hf.1 (248 + 6) (by omega) (by omega)]]; exact ho
  refine q_aload_n (j := 0) hA rfl dX0_goThroughAll_29 ?_
  refine q_getR hA f_X0_12 dX0_goThroughAll_30 sx_247 (by decide) fx_247_0 ?_
  refine q_iload_n (j := 1) hA rfl dX0_goThroughAll_33 ?_
  refine q_callVV (b := 248) (As := [vI N]) (st := []) hA l_X0_74 kX7_beBare (zX7_beBare isS248 oE (by omega)) dX0_goThroughAll_34 rfl rfl (strS isS248) (by decide) rfl (Nat.le_of_ble_eq_true rfl) (by omega) (fun D34 q34 => ?_)
  have m34 : mrow (rowX D34 248) n (rgN n n) := bare_m (rowX_len _ _) oE (by omega) (by rw [q34.1, hN, Int.toNat_natCast])
  have n34 : D34 248 6 = (n : Int) := by rw [← xN D34 248]; exact m34.2.2.1
  refine q_aload_n (j := 0) hA rfl dX0_goThroughAll_37 ?_
  refine q_callVV (b := 247) (As := []) (st := []) hA l_X0_78 kX0_listPairs (zX0_listPairs m34.2.1 (by omega)) dX0_goThroughAll_38 rfl rfl sx_247 (by decide) rfl (Nat.le_of_ble_eq_true rfl) (by omega) (fun D38 q38 => ?_)
  rw [n34, Int.toNat_natCast] at q38
  obtain ⟨p1, p2, p3, p4, p5⟩ := q38
  have r38 : rowX D38 248 = rowX D34 248 := by unfold rowX; rw [p4 248 (by omega) (by omega) (by omega) (by omega), p4 (248 + 1) (by omega) (by omega) (by omega) (by omega), p4 (248 + 2) (by omega) (by omega) (by omega) (by omega), p4 (248 + 3) (by omega) (by omega) (by omega) (by omega), p4 (248 + 4) (by omega) (by omega) (by omega) (by omega), p4 (248 + 5) (by omega) (by omega) (by omega) (by omega), p4 (248 + 6) (by omega) (by omega) (by omega) (by omega)]
  have m38 : mrow (rowX D38 248) n (rgN n n) := by rw [r38]; exact m34
  have h34 : ∀ c, (c < 248 ∨ 255 ≤ c) → D34 c = E c := fun c c1 => q34.2 c (by omega)
  have h38 : hrdM D38 f o m := hrdM_c hh (fun j hj => by rw [p5 j (by omega), h34 247 (by omega)]; exact hf.2 j (by omega)) (by rw [p4 258 (by omega) (by omega) (by omega) (by omega), h34 258 (by omega)]; exact hf.1 258 (by omega) (by omega)) (by rw [p4 259 (by omega) (by omega) (by omega) (by omega), h34 259 (by omega)]; exact hf.1 259 (by omega) (by omega))
  have hple := prs_le (n := n) (by omega)
  refine q_aload_n (j := 0) hA rfl dX0_goThroughAll_41 ?_
  refine q_iconst hA dX0_goThroughAll_42 ?_
  refine q_iconst hA dX0_goThroughAll_43 ?_
  refine q_iload_n (j := 1) hA rfl dX0_goThroughAll_44 ?_
  refine q_iconst hA dX0_goThroughAll_45 ?_
  refine q_isub hA dX0_goThroughAll_46 ?_
  refine q_callVV (b := 247) (As := [vI 0, vI 0, vI (N - 3)]) (st := []) hA l_X0_81 kX0_choose (zX0_choose (bn := 0) (L := rgN n n) hn8 hmn hwh (by omega) (by omega) rfl (by omega) m38 ⟨h38, p1, p2, p3⟩) dX0_goThroughAll_47 rfl rfl sx_247 (by decide) rfl (Nat.le_of_ble_eq_true rfl) (by omega) (fun D47 q47 => ?_)
  rw [show (0 : Int).toNat = 0 from rfl, ch_tri hn8 (by omega)] at q47
  obtain ⟨c1, c2, c3⟩ := q47
  exact hR 50 _ _ dX0_goThroughAll_50 (by refine ⟨?_, fun s k s0 s1 k0 k1 => ?_, c1.2.1, fun c d1 d2 => ?_, fun j j1 j2 j3 j4 => ?_⟩; (rw [c2.1, p5 13 (by omega), h34 247 (by omega), hz13, Int.zero_add]); (rw [c2.2 s k s0 s1 k0 k1, p4 260 (by omega) (by omega) (by omega) (by omega), h34 260 (by omega), he _ (by omega) (by omega), Int.zero_add]); (rw [c3.1 c d1 (by omega) (by omega), p4 c d1 (by omega) (by omega) (by omega), h34 c (by omega)]; exact hf.1 c d1 (by omega)); (rw [c3.2 j j2 j3 j4, p5 j j1, h34 247 (by omega)]; exact hf.2 j j4))
