set_option maxHeartbeats 4000000 in
set_option maxRecDepth 100000 in
theorem zX4_lengthBy {g : Gm} {l : Launch} {D : Dat} {r : Row} (hnx : ∀ z m : Int, 0 ≤ z → z < 64 → 0 ≤ m → m ≤ 2 → D 191 (z * 3 + m) = nxR r z m) (hr : r = rowX D 11) (ho : sOk D 11) (hsy : sym r) (hlr : lrg (D 192)) {z : Int} {m : Int} (hz : 0 ≤ z ∧ z < 64) (hm : 0 ≤ m ∧ m ≤ 2) : CrP g l 4 mX4_lengthBy [vR 190, vR 11, vI z, vI m] D (lenX r (D 192) z m) := by
  unfold CrP
  refine Cr.ofI (lo0 := [vR 190, vR 11, vI z, vI m, vN, vN]) (by decide) (Nat.le_of_ble_eq_true rfl) rfl (fun J hA hR => ?_)
  have hn8 : rN r ≤ 8 := by rw [hr, xN]; exact ho.n.2
  have hok : rOk r := by rw [hr]; exact ho
  refine q_aload_n (j := 0) hA rfl dX4_lengthBy_0 ?_
  refine q_iload_n (j := 2) hA rfl dX4_lengthBy_1 ?_
  refine q_iload_n (j := 3) hA rfl dX4_lengthBy_2 ?_
  refine q_callVP (b := 190) (As := [vI z, vI m]) (st := []) hA l_X4_67 kX4_behind (zX4_behind hnx (by omega) (by omega)) dX4_lengthBy_3 rfl rfl sx_190 (by decide) rfl (Nat.le_of_ble_eq_true rfl) (by omega) ?_
  refine q_nmI (fun y ey => ?_)
  have hyi := bhR_in (r := r) (z := z) (m := m) hn8
  rw [← ey] at hyi
  refine q_istore (j := 4) (lo2 := [vR 190, vR 11, vI z, vI m, vI y, vN]) hA dX4_lengthBy_6 (by decide) rfl rfl ?_
  refine q_iload (j := 4) hA rfl dX4_lengthBy_8 ?_
  refine q_if_lt (tgt := 20) hA (by omega) dX4_lengthBy_10 (by decide) (fun h10 => ?_) (fun h10 => ?_)
  · refine q_ldc hA c_X4_70 dX4_lengthBy_20 ?_
    exact hR 22 _ _ _ dX4_lengthBy_22 ⟨(by have hcl : cstL 100 1000000 r (D 192) z m = 1000000 := (by unfold cstL; rw [← ey, if_pos (by omega)]); unfold lenX; rw [hcl, if_neg (by omega)]), rfl⟩
  · refine q_iload (j := 4) hA rfl dX4_lengthBy_13 ?_
    refine q_bipush hA (by decide) dX4_lengthBy_15 ?_
    refine q_icmp_lt (tgt := 23) hA (by omega) (by omega) dX4_lengthBy_17 (by decide) (fun h17 => ?_) (fun h17 => absurd h17 (by omega))
    refine q_iload_n (j := 3) hA rfl dX4_lengthBy_23 ?_
    refine q_iconst hA dX4_lengthBy_24 ?_
    refine q_icmp_ne (tgt := 32) hA (by omega) (by omega) dX4_lengthBy_25 (by decide) (fun h25 => ?_) (fun h25 => ?_)
    · refine q_aload_n (j := 1) hA rfl dX4_lengthBy_32 ?_
      refine q_iload (j := 4) hA rfl dX4_lengthBy_33 ?_
      refine q_callSP (As := [vI y]) (st := [vR 11]) hA l_X4_47 kX4_frontOf (zX4_frontOf (by omega)) dX4_lengthBy_35 rfl rfl (Nat.le_of_ble_eq_true rfl) (by omega) ?_
      refine q_nmI (fun f ef => ?_)
      have hzy := (bh_zok hsy hn8 (show 0 ≤ bhR r z m by rw [← ey]; omega)).2
      rw [← ey] at hzy
      have hfr : 0 ≤ f ∧ f < D 11 6 := by have h1 := hzy.2.1; rw [hr, xN] at h1; omega
      refine q_callVP (b := 11) (As := [vI f]) (st := []) hA l_X4_83 kX7_effortOf (zX7_effortOf isS11 ho hfr) dX4_lengthBy_38 rfl rfl (strS isS11) (by decide) rfl (Nat.le_of_ble_eq_true rfl) (by omega) ?_
      refine q_nmI (fun ev eev => ?_)
      refine q_nmI (fun e5 ee5 => ?_)
      refine q_istore (j := 5) (lo2 := [vR 190, vR 11, vI z, vI m, vI y, vI e5]) hA dX4_lengthBy_41 (by decide) rfl rfl ?_
      have hly := hlr y (by omega) (by omega)
      have hst : e5 * 100 + 1 = stepC 100 r z m := by unfold stepC; rw [← ey]; first | (rw [if_pos (by omega), ee5]; rfl) | (rw [if_neg (by omega), ee5, eev, ← ef, hr, xK (by have := ho.n; omega), xSh (by have := ho.n; omega)]; omega)
      have hsi := stepC_in (u := 100) (r := r) (z := z) (m := m) (by omega) hok (by rw [← ey]; omega)
      refine q_ldc hA c_X4_70 dX4_lengthBy_43 ?_
      refine q_iload (j := 5) hA rfl dX4_lengthBy_45 ?_
      refine q_bipush hA (by decide) dX4_lengthBy_47 ?_
      refine q_imul hA dX4_lengthBy_49 ?_
      refine q_iconst hA dX4_lengthBy_50 ?_
      refine q_iadd hA dX4_lengthBy_51 ?_
      refine q_aload_n (j := 0) hA rfl dX4_lengthBy_52 ?_
      refine q_getR hA f_X4_15 dX4_lengthBy_53 sx_190 (by decide) fx_190_1 ?_
      refine q_iload (j := 4) hA rfl dX4_lengthBy_56 ?_
      refine q_iald (x := D 192 y) hA dX4_lengthBy_58 sx_192 (by omega) (by decide) rfl ?_
      refine q_iadd hA dX4_lengthBy_59 ?_
      refine q_min hA mw_X4_78 (by omega) (by omega) (Nat.le_of_ble_eq_true rfl) (by omega) dX4_lengthBy_60 ?_
      exact hR 63 _ _ _ dX4_lengthBy_63 ⟨(by have hcl : cstL 100 1000000 r (D 192) z m = e5 * 100 + 1 + D 192 y := (by unfold cstL; rw [← ey, if_neg (by omega), ← hst]); unfold lenX; rw [hcl]), rfl⟩
    · refine q_iconst hA dX4_lengthBy_28 ?_
      refine q_goto (tgt := 41) hA dX4_lengthBy_29 (by decide) ?_
      refine q_nmI (fun e5 ee5 => ?_)
      refine q_istore (j := 5) (lo2 := [vR 190, vR 11, vI z, vI m, vI y, vI e5]) hA dX4_lengthBy_41 (by decide) rfl rfl ?_
      have hly := hlr y (by omega) (by omega)
      have hst : e5 * 100 + 1 = stepC 100 r z m := by unfold stepC; rw [← ey]; first | (rw [if_pos (by omega), ee5]; rfl) | (rw [if_neg (by omega), ee5, eev, ← ef, hr, xK (by have := ho.n; omega), xSh (by have := ho.n; omega)]; omega)
      have hsi := stepC_in (u := 100) (r := r) (z := z) (m := m) (by omega) hok (by rw [← ey]; omega)
      refine q_ldc hA c_X4_70 dX4_lengthBy_43 ?_
      refine q_iload (j := 5) hA rfl dX4_lengthBy_45 ?_
      refine q_bipush hA (by decide) dX4_lengthBy_47 ?_
      refine q_imul hA dX4_lengthBy_49 ?_
      refine q_iconst hA dX4_lengthBy_50 ?_
      refine q_iadd hA dX4_lengthBy_51 ?_
      refine q_aload_n (j := 0) hA rfl dX4_lengthBy_52 ?_
      refine q_getR hA f_X4_15 dX4_lengthBy_53 sx_190 (by decide) fx_190_1 ?_
      refine q_iload (j := 4) hA rfl dX4_lengthBy_56 ?_
      refine q_iald (x := D 192 y) hA dX4_lengthBy_58 sx_192 (by omega) (by decide) rfl ?_
      refine q_iadd hA dX4_lengthBy_59 ?_
      refine q_min hA mw_X4_78 (by omega) (by omega) (Nat.le_of_ble_eq_true rfl) (by omega) dX4_lengthBy_60 ?_
      exact hR 63 _ _ _ dX4_lengthBy_63 ⟨(by have hcl : cstL 100 1000000 r (D 192) z m = e5 * 100 + 1 + D 192 y := (by unfold cstL; rw [← ey, if_neg (by omega), ← hst]); unfold lenX; rw [hcl]), rfl⟩
set_option maxHeartbeats 4000000 in
set_option maxRecDepth 100000 in
theorem zX4_leastOver_L6 {g : Gm} {l : Launch} {D : Dat} {r : Row} (hnx : ∀ z m : Int, 0 ≤ z → z < 64 → 0 ≤ m → m ≤ 2 → D 191 (z * 3 + m) = nxR r z m) (hr : r = rowX D 11) (ho : sOk D 11) (hsy : sym r) (hlr : lrg (D 192)) {z : Int} (hz : 0 ≤ z ∧ z < 64)   {J : JT} (hA : AX g l RX4 cX4_leastOver 5 5 J) (hR : ReI cX4_leastOver (fun v D1 => v = (lsX r (D 192) z 3) ∧ D1 = D) J) : ∀ (fuel : Nat) (b : Int) (m : Int), (0 ≤ m ∧ m ≤ 3) → (b = lsX r (D 192) z m.toNat) → 3 - m < (fuel : Int) → J 6 [vR 190, vR 11, vI z, vI b, vI m] [] D := by
  intro fuel
  induction fuel with
  | zero => intro b m hm hv hMs; exact absurd hMs (by omega)
  | succ fuel ih =>
    intro b m hm hv hMs
    have hok : rOk r := by rw [hr]; exact ho
    have hbi := lsX_in (z := z) hok hlr m.toNat
    rw [← hv] at hbi
    refine q_iload (j := 4) hA rfl dX4_leastOver_6 ?_
    refine q_iconst hA dX4_leastOver_8 ?_
    refine q_icmp_ge (tgt := 31) hA (by omega) (by omega) dX4_leastOver_9 (by decide) (fun h9 => ?_) (fun h9 => ?_)
    · refine q_iload_n (j := 3) hA rfl dX4_leastOver_31 ?_
      exact hR 32 _ _ _ dX4_leastOver_32 ⟨(by rw [hv, show m = 3 by omega]; rfl), rfl⟩
    · refine q_iload_n (j := 3) hA rfl dX4_leastOver_12 ?_
      refine q_aload_n (j := 0) hA rfl dX4_leastOver_13 ?_
      refine q_aload_n (j := 1) hA rfl dX4_leastOver_14 ?_
      refine q_iload_n (j := 2) hA rfl dX4_leastOver_15 ?_
      refine q_iload (j := 4) hA rfl dX4_leastOver_16 ?_
      refine q_callVP (b := 190) (As := [vR 11, vI z, vI m]) (st := [vI b]) hA l_X4_75 kX4_lengthBy (zX4_lengthBy hnx hr ho hsy hlr (by omega) (by omega)) dX4_leastOver_18 rfl rfl sx_190 (by decide) rfl (Nat.le_of_ble_eq_true rfl) (by omega) ?_
      refine q_nmI (fun le ele => ?_)
      have hli := lenX_in (z := z) (m := m) hok hlr
      rw [← ele] at hli
      refine q_min hA mw_X4_78 (by omega) (by omega) (Nat.le_of_ble_eq_true rfl) (by omega) dX4_leastOver_21 ?_
      refine q_nmI (fun mn emn => ?_)
      refine q_istore_n (j := 3) (lo2 := [vR 190, vR 11, vI z, vI mn, vI m]) hA dX4_leastOver_24 (by decide) rfl rfl ?_
      refine q_iinc (j := 4) (lo2 := [vR 190, vR 11, vI z, vI mn, vI (m + 1)]) hA dX4_leastOver_25 rfl (by decide) rfl rfl ?_
      refine q_goto (tgt := 6) hA dX4_leastOver_28 (by decide) ?_
      exact ih _ _ (by omega) (by rw [lsX_step (by omega), ← hv, ← ele]; exact emn) (by omega)
set_option maxHeartbeats 4000000 in
set_option maxRecDepth 100000 in
theorem zX4_leastOver {g : Gm} {l : Launch} {D : Dat} {r : Row} (hnx : ∀ z m : Int, 0 ≤ z → z < 64 → 0 ≤ m → m ≤ 2 → D 191 (z * 3 + m) = nxR r z m) (hr : r = rowX D 11) (ho : sOk D 11) (hsy : sym r) (hlr : lrg (D 192)) {z : Int} (hz : 0 ≤ z ∧ z < 64) : CrP g l 5 mX4_leastOver [vR 190, vR 11, vI z] D (lsX r (D 192) z 3) := by
  unfold CrP
  refine Cr.ofI (lo0 := [vR 190, vR 11, vI z, vN, vN]) (by decide) (Nat.le_of_ble_eq_true rfl) rfl (fun J hA hR => ?_)
  have hn8 : rN r ≤ 8 := by rw [hr, xN]; exact ho.n.2
  have hok : rOk r := by rw [hr]; exact ho
  refine q_ldc hA c_X4_70 dX4_leastOver_0 ?_
  refine q_istore_n (j := 3) (lo2 := [vR 190, vR 11, vI z, vI 1000000, vN]) hA dX4_leastOver_2 (by decide) rfl rfl ?_
  refine q_iconst hA dX4_leastOver_3 ?_
  refine q_istore (j := 4) (lo2 := [vR 190, vR 11, vI z, vI 1000000, vI 0]) hA dX4_leastOver_4 (by decide) rfl rfl ?_
  refine zX4_leastOver_L6 (D := D) (r := r) (z := z) hnx hr ho hsy hlr hz  hA hR 1000 _ _ (by omega) (by rfl) (by omega)
set_option maxHeartbeats 4000000 in
set_option maxRecDepth 100000 in
theorem zX4_measure_L2 {g : Gm} {l : Launch} {D : Dat} {r : Row} (hnx : ∀ z m : Int, 0 ≤ z → z < 64 → 0 ≤ m → m ≤ 2 → D 191 (z * 3 + m) = nxR r z m) (hr : r = rowX D 11) (ho : sOk D 11) (hsy : sym r) {p : Int} (rp : -2147483648 ≤ p ∧ p ≤ 2147483647)   {J : JT} (hA : AX g l RX4 cX4_measure 7 6 J) (hR : ReV cX4_measure (fun D1 => mDist r p 100 1000000 (D1 192) ∧ frm 192 1 D D1) J) (hx : ∀ (k : Int) (E : Dat), (0 ≤ k ∧ k ≤ 64) → (∀ i : Int, 0 ≤ i → i < k → E 192 i = if i / 8 = p then 0 else 1000000) → (frm 192 1 D E) → (k = 64) → J 34 [vR 190, vR 11, vI p, vI k, vN, vN, vN] [] E) : ∀ (fuel : Nat) (k : Int) (E : Dat), (0 ≤ k ∧ k ≤ 64) → (∀ i : Int, 0 ≤ i → i < k → E 192 i = if i / 8 = p then 0 else 1000000) → (frm 192 1 D E) → 64 - k < (fuel : Int) → J 2 [vR 190, vR 11, vI p, vI k, vN, vN, vN] [] E := by
  intro fuel
  induction fuel with
  | zero => intro k E hk he hf hMs; exact absurd hMs (by omega)
  | succ fuel ih =>
    intro k E hk he hf hMs
    refine q_iload_n (j := 3) hA rfl dX4_measure_2 ?_
    refine q_bipush hA (by decide) dX4_measure_3 ?_
    refine q_icmp_ge (tgt := 34) hA (by omega) (by omega) dX4_measure_5 (by decide) (fun h5 => ?_) (fun h5 => ?_)
    · exact hx _ _ hk he hf (by omega)
    · refine q_aload_n (j := 0) hA rfl dX4_measure_8 ?_
      refine q_getR hA f_X4_15 dX4_measure_9 sx_190 (by decide) fx_190_1 ?_
      refine q_iload_n (j := 3) hA rfl dX4_measure_12 ?_
      refine q_iload_n (j := 3) hA rfl dX4_measure_13 ?_
      refine q_callSP (As := [vI k]) (st := [vI k, vR 192]) hA l_X4_47 kX4_frontOf (zX4_frontOf (by omega)) dX4_measure_14 rfl rfl (Nat.le_of_ble_eq_true rfl) (by omega) ?_
      refine q_nmI (fun f ef => ?_)
      refine q_iload_n (j := 2) hA rfl dX4_measure_17 ?_
      refine q_icmp_ne (tgt := 25) hA (by omega) (by omega) dX4_measure_18 (by decide) (fun h18 => ?_) (fun h18 => ?_)
      · refine q_ldc hA c_X4_70 dX4_measure_25 ?_
        refine q_iast hA dX4_measure_27 sx_192 (by omega) (by decide) ?_
        refine q_iinc (j := 3) (lo2 := [vR 190, vR 11, vI p, vI (k + 1), vN, vN, vN]) hA dX4_measure_28 rfl (by decide) rfl rfl ?_
        refine q_goto (tgt := 2) hA dX4_measure_31 (by decide) ?_
        exact ih _ _ (by omega) (by intro i i1 i2; by_cases h : i = k; (subst h; rw [upD_s]; first | rw [if_pos (by omega)] | rw [if_neg (by omega)]); (rw [upD_n (Or.inr h)]; exact he i i1 (by omega))) (by exact hf.up (by omega)) (by omega)
      · refine q_iconst hA dX4_measure_21 ?_
        refine q_goto (tgt := 27) hA dX4_measure_22 (by decide) ?_
        refine q_iast hA dX4_measure_27 sx_192 (by omega) (by decide) ?_
        refine q_iinc (j := 3) (lo2 := [vR 190, vR 11, vI p, vI (k + 1), vN, vN, vN]) hA dX4_measure_28 rfl (by decide) rfl rfl ?_
        refine q_goto (tgt := 2) hA dX4_measure_31 (by decide) ?_
        exact ih _ _ (by omega) (by intro i i1 i2; by_cases h : i = k; (subst h; rw [upD_s]; first | rw [if_pos (by omega)] | rw [if_neg (by omega)]); (rw [upD_n (Or.inr h)]; exact he i i1 (by omega))) (by exact hf.up (by omega)) (by omega)
set_option maxHeartbeats 4000000 in
set_option maxRecDepth 100000 in
theorem zX4_measure_L55 {g : Gm} {l : Launch} {D : Dat} {r : Row} (hnx : ∀ z m : Int, 0 ≤ z → z < 64 → 0 ≤ m → m ≤ 2 → D 191 (z * 3 + m) = nxR r z m) (hr : r = rowX D 11) (ho : sOk D 11) (hsy : sym r) {p : Int} (rp : -2147483648 ≤ p ∧ p ≤ 2147483647) {sw : Int} (hsw : 0 ≤ sw ∧ sw < 64) {J : JT} (hA : AX g l RX4 cX4_measure 7 6 J) (hR : ReV cX4_measure (fun D1 => mDist r p 100 1000000 (D1 192) ∧ frm 192 1 D D1) J) (hx : ∀ (ch : Int) (u : Int) (E : Dat), (0 ≤ u ∧ u ≤ 64) → (ch = 0 ∨ ch = 1) → (meI r p 100 1000000 (E 192)) → (∀ y : Int, 0 ≤ y → y < 64 → wkB r p (E 192) sw y) → (∀ y : Int, 0 ≤ y → y < u → wkB r p (E 192) (sw + 1) y) → (ch = 0 → ∀ z : Int, zOk r z → z < u → meF r 100 (E 192) z) → (frm 192 1 D E) → (u = 64) → J 100 [vR 190, vR 11, vI p, vI ch, vI sw, vI u, vN] [] E) : ∀ (fuel : Nat) (ch : Int) (u : Int) (E : Dat), (0 ≤ u ∧ u ≤ 64) → (ch = 0 ∨ ch = 1) → (meI r p 100 1000000 (E 192)) → (∀ y : Int, 0 ≤ y → y < 64 → wkB r p (E 192) sw y) → (∀ y : Int, 0 ≤ y → y < u → wkB r p (E 192) (sw + 1) y) → (ch = 0 → ∀ z : Int, zOk r z → z < u → meF r 100 (E 192) z) → (frm 192 1 D E) → 64 - u < (fuel : Int) → J 55 [vR 190, vR 11, vI p, vI ch, vI sw, vI u, vN] [] E := by
  intro fuel
  induction fuel with
  | zero => intro ch u E hu hch hI hB hB2 hfx hf hMs; exact absurd hMs (by omega)
  | succ fuel ih =>
    intro ch u E hu hch hI hB hB2 hfx hf hMs
    have hok : rOk r := by rw [hr]; exact ho
    have hnxE : ∀ z m : Int, 0 ≤ z → z < 64 → 0 ≤ m → m ≤ 2 → E 191 (z * 3 + m) = nxR r z m := by rw [hf 191 (by omega)]; exact hnx
    have hrE : r = rowX E 11 := by rw [hr]; exact (frm.row (a := 192) (n := 1) hf (by omega)).symm
    have hoE : sOk E 11 := by unfold sOk; rw [← hrE]; exact hok
    have hlrE : lrg (E 192) := fun y y0 y1 => hI.1 y y0 y1
    refine q_iload (j := 5) hA rfl dX4_measure_55 ?_
    refine q_bipush hA (by decide) dX4_measure_57 ?_
    refine q_icmp_ge (tgt := 100) hA (by omega) (by omega) dX4_measure_59 (by decide) (fun h59 => ?_) (fun h59 => ?_)
    · exact hx _ _ _ hu hch hI hB hB2 hfx hf (by omega)
    · refine q_aload_n (j := 0) hA rfl dX4_measure_62 ?_
      refine q_aload_n (j := 1) hA rfl dX4_measure_63 ?_
      refine q_iload (j := 5) hA rfl dX4_measure_64 ?_
      refine q_callVP (b := 190) (As := [vR 11, vI u]) (st := []) hA l_X4_71 kX4_leastOver (zX4_leastOver hnxE hrE hoE hsy hlrE (by omega)) dX4_measure_66 rfl rfl sx_190 (by decide) rfl (Nat.le_of_ble_eq_true rfl) (by omega) ?_
      refine q_nmI (fun v ev => ?_)
      refine q_istore (j := 6) (lo2 := [vR 190, vR 11, vI p, vI ch, vI sw, vI u, vI v]) hA dX4_measure_69 (by decide) rfl rfl ?_
      have hvi := lsX_in (z := u) hok hlrE 3
      rw [← ev] at hvi
      have hLu := hI.1 u (by omega) (by omega)
      refine q_iload (j := 6) hA rfl dX4_measure_71 ?_
      refine q_aload_n (j := 0) hA rfl dX4_measure_73 ?_
      refine q_getR hA f_X4_15 dX4_measure_74 sx_190 (by decide) fx_190_1 ?_
      refine q_iload (j := 5) hA rfl dX4_measure_77 ?_
      refine q_iald (x := E 192 u) hA dX4_measure_79 sx_192 (by omega) (by decide) rfl ?_
      refine q_icmp_ge (tgt := 94) hA (by omega) (by omega) dX4_measure_80 (by decide) (fun h80 => ?_) (fun h80 => ?_)
      · refine q_nmD (fun W eW => ?_)
        have hW : (v < E 192 u ∧ W = upD E 192 u v) ∨ (¬ v < E 192 u ∧ W = E) := by first | exact Or.inl ⟨by omega, eW⟩ | exact Or.inr ⟨by omega, eW⟩
        have hst := mx_step (n := sw) hok hI (by omega) ev (by omega) hB hW
        refine q_iinc (j := 5) (lo2 := [vR 190, vR 11, vI p, vI ch, vI sw, vI (u + 1), vI v]) hA dX4_measure_94 rfl (by decide) rfl rfl ?_
        refine q_goto (tgt := 55) hA dX4_measure_97 (by decide) ?_
        refine q_fgt (lo2 := [vR 190, vR 11, vI p, vI ch, vI sw, vI (u + 1), vN]) hA ⟨Or.inr rfl, Or.inr rfl, Or.inr rfl, Or.inr rfl, Or.inr rfl, Or.inr rfl, Or.inl rfl, trivial⟩ ?_
        exact ih _ _ _ (by omega) (by omega) (by exact hst.1) (by intro y y0 y1 i c hi hw; have h1 := hB y y0 y1 i c hi hw; have h2 := hst.2.1 y y0 y1; omega) (by intro y y0 y1; by_cases q : y = u; (rw [q]; exact hst.2.2.1); (intro i c hi hw; have h1 := hB2 y y0 (by omega) i c hi hw; have h2 := hst.2.1 y y0 (by omega); omega)) (by intro h z hz hz2; first | (exfalso; omega) | (have e := hst.2.2.2 (by omega); rw [e.1]; by_cases q : z = u; (rw [q]; exact e.2); exact hfx h z hz (by omega))) (by first | (rw [eW]; exact hf.up (by omega)) | (rw [eW]; exact hf)) (by omega)
      · refine q_aload_n (j := 0) hA rfl dX4_measure_83 ?_
        refine q_getR hA f_X4_15 dX4_measure_84 sx_190 (by decide) fx_190_1 ?_
        refine q_iload (j := 5) hA rfl dX4_measure_87 ?_
        refine q_iload (j := 6) hA rfl dX4_measure_89 ?_
        refine q_iast hA dX4_measure_91 sx_192 (by omega) (by decide) ?_
        refine q_iconst hA dX4_measure_92 ?_
        refine q_istore_n (j := 3) (lo2 := [vR 190, vR 11, vI p, vI 1, vI sw, vI u, vI v]) hA dX4_measure_93 (by decide) rfl rfl ?_
        refine q_nmD (fun W eW => ?_)
        have hW : (v < E 192 u ∧ W = upD E 192 u v) ∨ (¬ v < E 192 u ∧ W = E) := by first | exact Or.inl ⟨by omega, eW⟩ | exact Or.inr ⟨by omega, eW⟩
        have hst := mx_step (n := sw) hok hI (by omega) ev (by omega) hB hW
        refine q_iinc (j := 5) (lo2 := [vR 190, vR 11, vI p, vI 1, vI sw, vI (u + 1), vI v]) hA dX4_measure_94 rfl (by decide) rfl rfl ?_
        refine q_goto (tgt := 55) hA dX4_measure_97 (by decide) ?_
        refine q_fgt (lo2 := [vR 190, vR 11, vI p, vI 1, vI sw, vI (u + 1), vN]) hA ⟨Or.inr rfl, Or.inr rfl, Or.inr rfl, Or.inr rfl, Or.inr rfl, Or.inr rfl, Or.inl rfl, trivial⟩ ?_
        exact ih _ _ _ (by omega) (by omega) (by exact hst.1) (by intro y y0 y1 i c hi hw; have h1 := hB y y0 y1 i c hi hw; have h2 := hst.2.1 y y0 y1; omega) (by intro y y0 y1; by_cases q : y = u; (rw [q]; exact hst.2.2.1); (intro i c hi hw; have h1 := hB2 y y0 (by omega) i c hi hw; have h2 := hst.2.1 y y0 (by omega); omega)) (by intro h z hz hz2; first | (exfalso; omega) | (have e := hst.2.2.2 (by omega); rw [e.1]; by_cases q : z = u; (rw [q]; exact e.2); exact hfx h z hz (by omega))) (by first | (rw [eW]; exact hf.up (by omega)) | (rw [eW]; exact hf)) (by omega)
set_option maxHeartbeats 4000000 in
set_option maxRecDepth 100000 in
theorem zX4_measure_L39 {g : Gm} {l : Launch} {D : Dat} {r : Row} (hnx : ∀ z m : Int, 0 ≤ z → z < 64 → 0 ≤ m → m ≤ 2 → D 191 (z * 3 + m) = nxR r z m) (hr : r = rowX D 11) (ho : sOk D 11) (hsy : sym r) {p : Int} (rp : -2147483648 ≤ p ∧ p ≤ 2147483647)   {J : JT} (hA : AX g l RX4 cX4_measure 7 6 J) (hR : ReV cX4_measure (fun D1 => mDist r p 100 1000000 (D1 192) ∧ frm 192 1 D D1) J) : ∀ (fuel : Nat) (ch : Int) (sw : Int) (E : Dat), (0 ≤ sw ∧ sw ≤ 64) → (ch = 0 ∨ ch = 1) → (meI r p 100 1000000 (E 192)) → (∀ y : Int, 0 ≤ y → y < 64 → wkB r p (E 192) sw y) → (ch = 0 → ∀ z : Int, zOk r z → meF r 100 (E 192) z) → (frm 192 1 D E) → 64 - sw < (fuel : Int) → J 39 [vR 190, vR 11, vI p, vI ch, vI sw, vN, vN] [] E := by
  intro fuel
  induction fuel with
  | zero => intro ch sw E hsw hch hI hB hfx hf hMs; exact absurd hMs (by omega)
  | succ fuel ih =>
    intro ch sw E hsw hch hI hB hfx hf hMs
    have hok : rOk r := by rw [hr]; exact ho
    refine q_iload (j := 4) hA rfl dX4_measure_39 ?_
    refine q_bipush hA (by decide) dX4_measure_41 ?_
    refine q_icmp_ge (tgt := 106) hA (by omega) (by omega) dX4_measure_43 (by decide) (fun h43 => ?_) (fun h43 => ?_)
    · exact hR 106 _ _ dX4_measure_106 ⟨(by first | exact ⟨hI, hfx (by omega)⟩ | exact mx_end hok hI (by have e : sw = 64 := (by omega); subst e; exact hB)), hf⟩
    · refine q_iload_n (j := 3) hA rfl dX4_measure_46 ?_
      refine q_if_eq (tgt := 106) hA (by omega) dX4_measure_47 (by decide) (fun h47 => ?_) (fun h47 => ?_)
      · exact hR 106 _ _ dX4_measure_106 ⟨(by first | exact ⟨hI, hfx (by omega)⟩ | exact mx_end hok hI (by have e : sw = 64 := (by omega); subst e; exact hB)), hf⟩
      · refine q_iconst hA dX4_measure_50 ?_
        refine q_istore_n (j := 3) (lo2 := [vR 190, vR 11, vI p, vI 0, vI sw, vN, vN]) hA dX4_measure_51 (by decide) rfl rfl ?_
        refine q_iconst hA dX4_measure_52 ?_
        refine q_istore (j := 5) (lo2 := [vR 190, vR 11, vI p, vI 0, vI sw, vI 0, vN]) hA dX4_measure_53 (by decide) rfl rfl ?_
        refine zX4_measure_L55 (D := D) (r := r) (p := p) hnx hr ho hsy rp (by omega) hA hR (fun ch u E hu hch hI hB hB2 hfx hf hu64 => ?_) 1000 _ _ _ (by omega) (by omega) (by exact hI) (by exact hB) (by intro y y0 y1; omega) (by intro _ z hz h; have := hz.1; omega) (by exact hf) (by omega)
        refine q_iinc (j := 4) (lo2 := [vR 190, vR 11, vI p, vI ch, vI (sw + 1), vI u, vN]) hA dX4_measure_100 rfl (by decide) rfl rfl ?_
        refine q_goto (tgt := 39) hA dX4_measure_103 (by decide) ?_
        refine q_fgt (lo2 := [vR 190, vR 11, vI p, vI ch, vI (sw + 1), vN, vN]) hA ⟨Or.inr rfl, Or.inr rfl, Or.inr rfl, Or.inr rfl, Or.inr rfl, Or.inl rfl, Or.inr rfl, trivial⟩ ?_
        exact ih _ _ _ (by omega) (by exact hch) (by exact hI) (by intro y y0 y1; exact hB2 y y0 (by omega)) (by intro h z hz; exact hfx h z hz (by have := hz.1; omega)) (by exact hf) (by omega)
set_option maxHeartbeats 4000000 in
set_option maxRecDepth 100000 in
theorem zX4_measure {g : Gm} {l : Launch} {D : Dat} {r : Row} (hnx : ∀ z m : Int, 0 ≤ z → z < 64 → 0 ≤ m → m ≤ 2 → D 191 (z * 3 + m) = nxR r z m) (hr : r = rowX D 11) (ho : sOk D 11) (hsy : sym r) {p : Int} (rp : -2147483648 ≤ p ∧ p ≤ 2147483647) : CrV g l 6 mX4_measure [vR 190, vR 11, vI p] D (fun D1 => mDist r p 100 1000000 (D1 192) ∧ frm 192 1 D D1) := by
  refine Cr.ofV (lo0 := [vR 190, vR 11, vI p, vN, vN, vN, vN]) (by decide) (Nat.le_of_ble_eq_true rfl) rfl (fun J hA hR => ?_)
  have hn8 : rN r ≤ 8 := by rw [hr, xN]; exact ho.n.2
  have hok : rOk r := by rw [hr]; exact ho
  refine q_iconst hA dX4_measure_0 ?_
  refine q_istore_n (j := 3) (lo2 := [vR 190, vR 11, vI p, vI 0, vN, vN, vN]) hA dX4_measure_1 (by decide) rfl rfl ?_
  refine zX4_measure_L2 (D := D) (r := r) (p := p) hnx hr ho hsy rp  hA hR (fun k E hk he hf hx => ?_) 1000 _ _ (by omega) (by intro i i1 i2; omega) (by exact frm.rf) (by omega)
  refine q_iconst hA dX4_measure_34 ?_
  refine q_istore_n (j := 3) (lo2 := [vR 190, vR 11, vI p, vI 1, vN, vN, vN]) hA dX4_measure_35 (by decide) rfl rfl ?_
  refine q_iconst hA dX4_measure_36 ?_
  refine q_istore (j := 4) (lo2 := [vR 190, vR 11, vI p, vI 1, vI 0, vN, vN]) hA dX4_measure_37 (by decide) rfl rfl ?_
  refine zX4_measure_L39 (D := D) (r := r) (p := p) hnx hr ho hsy rp  hA hR 1000 _ _ _ (by omega) (by omega) (by exact me_0 (by omega) (fun z z0 z1 => he z z0 (by omega))) (by intro y y0 y1 i c hi hw; have e0 : i = 0 := (by omega); subst e0; rw [he y y0 (by omega), if_pos hw.1, hw.2]; exact Int.le_refl _) (by intro h; omega) (by exact hf) (by omega)
set_option maxHeartbeats 4000000 in
set_option maxRecDepth 100000 in
theorem zX4_hasWay {g : Gm} {l : Launch} {D : Dat} (hlr : lrg (D 192)) {r : Row} (hz0 : zOk r (D 190 5)) : CrB g l 1 mX4_hasWay [vR 190] D (D 192 (D 190 5) < 1000000) := by
  unfold CrB
  refine Cr.ofZ (lo0 := [vR 190]) (by decide) (Nat.le_of_ble_eq_true rfl) rfl (fun J hA hR => ?_)
  have hz64 := hz0.1
  have hl0 := hlr _ hz64.1 hz64.2
  refine q_aload_n (j := 0) hA rfl dX4_hasWay_0 ?_
  refine q_getR hA f_X4_15 dX4_hasWay_1 sx_190 (by decide) fx_190_1 ?_
  refine q_aload_n (j := 0) hA rfl dX4_hasWay_4 ?_
  refine q_getI (x := D 190 5) hA f_X4_40 dX4_hasWay_5 sx_190 (by decide) rfl ?_
  refine q_iald (x := D 192 (D 190 5)) hA dX4_hasWay_8 sx_192 (by omega) (by decide) rfl ?_
  refine q_ldc hA c_X4_70 dX4_hasWay_9 ?_
  refine q_icmp_ge (tgt := 18) hA (by omega) (by omega) dX4_hasWay_11 (by decide) (fun h11 => ?_) (fun h11 => ?_)
  · refine q_iconst hA dX4_hasWay_18 ?_
    exact hR 19 _ _ _ dX4_hasWay_19 (Or.inl rfl) ⟨rfl, Or.inr ⟨(by omega), rfl⟩⟩
  · refine q_iconst hA dX4_hasWay_14 ?_
    refine q_goto (tgt := 19) hA dX4_hasWay_15 (by decide) ?_
    exact hR 19 _ _ _ dX4_hasWay_19 (Or.inr rfl) ⟨rfl, Or.inl ⟨(by omega), rfl⟩⟩
set_option maxHeartbeats 4000000 in
set_option maxRecDepth 100000 in
theorem zX4_wayEffort {g : Gm} {l : Launch} {D : Dat} (hlr : lrg (D 192)) {r : Row} (hz0 : zOk r (D 190 5)) : CrP g l 1 mX4_wayEffort [vR 190] D (D 192 (D 190 5) / 100) := by
  unfold CrP
  refine Cr.ofI (lo0 := [vR 190]) (by decide) (Nat.le_of_ble_eq_true rfl) rfl (fun J hA hR => ?_)
  have hz64 := hz0.1
  have hl0 := hlr _ hz64.1 hz64.2
  refine q_aload_n (j := 0) hA rfl dX4_wayEffort_0 ?_
  refine q_getR hA f_X4_15 dX4_wayEffort_1 sx_190 (by decide) fx_190_1 ?_
  refine q_aload_n (j := 0) hA rfl dX4_wayEffort_4 ?_
  refine q_getI (x := D 190 5) hA f_X4_40 dX4_wayEffort_5 sx_190 (by decide) rfl ?_
  refine q_iald (x := D 192 (D 190 5)) hA dX4_wayEffort_8 sx_192 (by omega) (by decide) rfl ?_
  refine q_bipush hA (by decide) dX4_wayEffort_9 ?_
  refine q_idiv hA (by omega) (by omega) dX4_wayEffort_11 ?_
  exact hR 12 _ _ _ dX4_wayEffort_12 ⟨(by first | rfl | omega), rfl⟩
set_option maxHeartbeats 4000000 in
set_option maxRecDepth 100000 in
theorem zX4_wayMoves {g : Gm} {l : Launch} {D : Dat} (hlr : lrg (D 192)) {r : Row} (hz0 : zOk r (D 190 5)) : CrP g l 1 mX4_wayMoves [vR 190] D (D 192 (D 190 5) % 100) := by
  unfold CrP
  refine Cr.ofI (lo0 := [vR 190]) (by decide) (Nat.le_of_ble_eq_true rfl) rfl (fun J hA hR => ?_)
  have hz64 := hz0.1
  have hl0 := hlr _ hz64.1 hz64.2
  refine q_aload_n (j := 0) hA rfl dX4_wayMoves_0 ?_
  refine q_getR hA f_X4_15 dX4_wayMoves_1 sx_190 (by decide) fx_190_1 ?_
  refine q_aload_n (j := 0) hA rfl dX4_wayMoves_4 ?_
  refine q_getI (x := D 190 5) hA f_X4_40 dX4_wayMoves_5 sx_190 (by decide) rfl ?_
  refine q_iald (x := D 192 (D 190 5)) hA dX4_wayMoves_8 sx_192 (by omega) (by decide) rfl ?_
  refine q_bipush hA (by decide) dX4_wayMoves_9 ?_
  refine q_irem hA (by omega) (by omega) dX4_wayMoves_11 ?_
  exact hR 12 _ _ _ dX4_wayMoves_12 ⟨(by first | rfl | omega), rfl⟩
set_option maxHeartbeats 4000000 in
set_option maxRecDepth 100000 in
theorem zX4_firstBest_L15 {g : Gm} {l : Launch} {D : Dat} {r : Row} (hnx : ∀ z m : Int, 0 ≤ z → z < 64 → 0 ≤ m → m ≤ 2 → D 191 (z * 3 + m) = nxR r z m) (hr : r = rowX D 11) (ho : sOk D 11) (hsy : sym r) {p : Int} (hmd : mDist r p 100 1000000 (D 192)) {z : Int} (hz : zOk r z) (hl : 0 < D 192 z ∧ D 192 z < 1000000)   {J : JT} (hA : AX g l RX4 cX4_firstBest 4 5 J) (hR : ReI cX4_firstBest (fun v D1 => v = (frsL 100 1000000 r (D 192) z) ∧ D1 = D) J) : ∀ (fuel : Nat) (m : Int), (0 ≤ m ∧ m ≤ 3) → (∀ n : Int, 0 ≤ n → n < m → cstL 100 1000000 r (D 192) z n ≠ D 192 z) → 3 - m < (fuel : Int) → J 15 [vR 190, vR 11, vI z, vI m] [] D := by
  intro fuel
  induction fuel with
  | zero => intro m hm hno hMs; exact absurd hMs (by omega)
  | succ fuel ih =>
    intro m hm hno hMs
    have hz64 := hz.1
    have hok : rOk r := by rw [hr]; exact ho
    refine q_iload_n (j := 3) hA rfl dX4_firstBest_15 ?_
    refine q_iconst hA dX4_firstBest_16 ?_
    refine q_icmp_ge (tgt := 44) hA (by omega) (by omega) dX4_firstBest_17 (by decide) (fun h17 => ?_) (fun h17 => ?_)
    · refine q_bipush hA (by decide) dX4_firstBest_44 ?_
      exact hR 46 _ _ _ dX4_firstBest_46 ⟨(by obtain ⟨q, q0, q1, q2, q3⟩ := me_ex hmd hz hl.1 hl.2; exact absurd q3 (hno q q0 (by omega))), rfl⟩
    · refine q_aload_n (j := 0) hA rfl dX4_firstBest_20 ?_
      refine q_aload_n (j := 1) hA rfl dX4_firstBest_21 ?_
      refine q_iload_n (j := 2) hA rfl dX4_firstBest_22 ?_
      refine q_iload_n (j := 3) hA rfl dX4_firstBest_23 ?_
      refine q_callVP (b := 190) (As := [vR 11, vI z, vI m]) (st := []) hA l_X4_75 kX4_lengthBy (zX4_lengthBy hnx hr ho hsy hmd.1.1 (by omega) (by omega)) dX4_firstBest_24 rfl rfl sx_190 (by decide) rfl (Nat.le_of_ble_eq_true rfl) (by omega) ?_
      refine q_nmI (fun le ele => ?_)
      have hli := lenX_in (z := z) (m := m) hok hmd.1.1
      rw [← ele] at hli
      refine q_aload_n (j := 0) hA rfl dX4_firstBest_27 ?_
      refine q_getR hA f_X4_15 dX4_firstBest_28 sx_190 (by decide) fx_190_1 ?_
      refine q_iload_n (j := 2) hA rfl dX4_firstBest_31 ?_
      refine q_iald (x := D 192 z) hA dX4_firstBest_32 sx_192 (by omega) (by decide) rfl ?_
      refine q_icmp_ne (tgt := 38) hA (by omega) (by omega) dX4_firstBest_33 (by decide) (fun h33 => ?_) (fun h33 => ?_)
      · refine q_iinc (j := 3) (lo2 := [vR 190, vR 11, vI z, vI (m + 1)]) hA dX4_firstBest_38 rfl (by decide) rfl rfl ?_
        refine q_goto (tgt := 15) hA dX4_firstBest_41 (by decide) ?_
        exact ih _ (by omega) (by intro n n0 n1; by_cases q : n = m; (subst q; exact fun w => h33 (by rw [ele]; exact (len_frs hmd hl.2).2 w)); exact hno n n0 (by omega)) (by omega)
      · refine q_iload_n (j := 3) hA rfl dX4_firstBest_36 ?_
        exact hR 37 _ _ _ dX4_firstBest_37 ⟨(by exact frs_eq (by omega) ((len_frs hmd hl.2).1 (by rw [← ele]; exact h33)) hno), rfl⟩
set_option maxHeartbeats 4000000 in
set_option maxRecDepth 100000 in
theorem zX4_firstBest {g : Gm} {l : Launch} {D : Dat} {r : Row} (hnx : ∀ z m : Int, 0 ≤ z → z < 64 → 0 ≤ m → m ≤ 2 → D 191 (z * 3 + m) = nxR r z m) (hr : r = rowX D 11) (ho : sOk D 11) (hsy : sym r) {p : Int} (hmd : mDist r p 100 1000000 (D 192)) {z : Int} (hz : zOk r z) (hl : 0 < D 192 z ∧ D 192 z < 1000000) : CrP g l 5 mX4_firstBest [vR 190, vR 11, vI z] D (frsL 100 1000000 r (D 192) z) := by
  unfold CrP
  refine Cr.ofI (lo0 := [vR 190, vR 11, vI z, vN]) (by decide) (Nat.le_of_ble_eq_true rfl) rfl (fun J hA hR => ?_)
  have hn8 : rN r ≤ 8 := by rw [hr, xN]; exact ho.n.2
  have hok : rOk r := by rw [hr]; exact ho
  have hz64 := hz.1
  refine q_iload_n (j := 2) hA rfl dX4_firstBest_0 ?_
  refine q_if_lt (tgt := 10) hA (by omega) dX4_firstBest_1 (by decide) (fun h1 => absurd h1 (by omega)) (fun h1 => ?_)
  refine q_iload_n (j := 2) hA rfl dX4_firstBest_4 ?_
  refine q_bipush hA (by decide) dX4_firstBest_5 ?_
  refine q_icmp_lt (tgt := 13) hA (by omega) (by omega) dX4_firstBest_7 (by decide) (fun h7 => ?_) (fun h7 => absurd h7 (by omega))
  refine q_iconst hA dX4_firstBest_13 ?_
  refine q_istore_n (j := 3) (lo2 := [vR 190, vR 11, vI z, vI 0]) hA dX4_firstBest_14 (by decide) rfl rfl ?_
  refine zX4_firstBest_L15 (D := D) (r := r) (p := p) (z := z) hnx hr ho hsy hmd hz hl  hA hR 1000 _ (by omega) (by intro n n0 n1; omega) (by omega)
set_option maxHeartbeats 4000000 in
set_option maxRecDepth 100000 in
theorem zX4_wayMove_L23 {g : Gm} {l : Launch} {D : Dat} {r : Row} (hnx : ∀ z m : Int, 0 ≤ z → z < 64 → 0 ≤ m → m ≤ 2 → D 191 (z * 3 + m) = nxR r z m) (hr : r = rowX D 11) (ho : sOk D 11) (hsy : sym r) {p : Int} (hmd : mDist r p 100 1000000 (D 192)) {k : Int} (rk : -2147483648 ≤ k ∧ k ≤ 2147483647) (hz0 : zOk r (D 190 5)) (hl0 : D 192 (D 190 5) < 1000000)  (hk2 : 0 ≤ k ∧ k < D 192 (D 190 5) % 100) {J : JT} (hA : AX g l RX4 cX4_wayMove 5 6 J) (hR : ReI cX4_wayMove (fun v D1 => v = (if 0 ≤ k ∧ k < D 192 (D 190 5) % 100 then wmv 100 1000000 r (D 192) k.toNat (D 190 5) else -4) ∧ D1 = D) J) : ∀ (fuel : Nat) (z : Int) (j : Int), (0 ≤ j ∧ j ≤ k) → (zOk r z) → (D 192 z < 1000000) → (D 192 z % 100 = D 192 (D 190 5) % 100 - j) → (wmv 100 1000000 r (D 192) k.toNat (D 190 5) = wmv 100 1000000 r (D 192) (k - j).toNat z) → k - j < (fuel : Int) → J 23 [vR 190, vR 11, vI k, vI z, vI j] [] D := by
  intro fuel
  induction fuel with
  | zero => intro z j hj hz hlf hmd2 hw hMs; exact absurd hMs (by omega)
  | succ fuel ih =>
    intro z j hj hz hlf hmd2 hw hMs
    have hok : rOk r := by rw [hr]; exact ho
    have hz64 := hz.1
    have hlz := me_mod0 hmd hz (by omega)
    refine q_iload (j := 4) hA rfl dX4_wayMove_23 ?_
    refine q_iload_n (j := 2) hA rfl dX4_wayMove_25 ?_
    refine q_icmp_ge (tgt := 47) hA (by omega) (by omega) dX4_wayMove_26 (by decide) (fun h26 => ?_) (fun h26 => ?_)
    · refine q_aload_n (j := 0) hA rfl dX4_wayMove_47 ?_
      refine q_aload_n (j := 1) hA rfl dX4_wayMove_48 ?_
      refine q_iload_n (j := 3) hA rfl dX4_wayMove_49 ?_
      refine q_callVP (b := 190) (As := [vR 11, vI z]) (st := []) hA l_X4_90 kX4_firstBest (zX4_firstBest hnx hr ho hsy hmd hz ⟨hlz, by omega⟩) dX4_wayMove_50 rfl rfl sx_190 (by decide) rfl (Nat.le_of_ble_eq_true rfl) (by omega) ?_
      refine q_nmI (fun fb efb => ?_)
      exact hR 53 _ _ _ dX4_wayMove_53 ⟨(by rw [if_pos hk2]; exact wmv_e hw hlz (by omega) efb), rfl⟩
    · refine q_aload_n (j := 0) hA rfl dX4_wayMove_29 ?_
      refine q_iload_n (j := 3) hA rfl dX4_wayMove_30 ?_
      refine q_aload_n (j := 0) hA rfl dX4_wayMove_31 ?_
      refine q_aload_n (j := 1) hA rfl dX4_wayMove_32 ?_
      refine q_iload_n (j := 3) hA rfl dX4_wayMove_33 ?_
      refine q_callVP (b := 190) (As := [vR 11, vI z]) (st := [vI z, vR 190]) hA l_X4_90 kX4_firstBest (zX4_firstBest hnx hr ho hsy hmd hz ⟨hlz, by omega⟩) dX4_wayMove_34 rfl rfl sx_190 (by decide) rfl (Nat.le_of_ble_eq_true rfl) (by omega) ?_
      refine q_nmI (fun fb efb => ?_)
      have hfo := frs_ok hmd hz hlz (by omega)
      rw [← efb] at hfo
      refine q_callVP (b := 190) (As := [vI z, vI fb]) (st := []) hA l_X4_67 kX4_behind (zX4_behind hnx (by omega) (by omega)) dX4_wayMove_37 rfl rfl sx_190 (by decide) rfl (Nat.le_of_ble_eq_true rfl) (by omega) ?_
      refine q_nmI (fun y ey => ?_)
      have hmm := me_mod hok hsy hmd hz (by omega) (show y = bhR r z (frsL 100 1000000 r (D 192) z) by rw [← efb]; exact ey) hlz
      refine q_istore_n (j := 3) (lo2 := [vR 190, vR 11, vI k, vI y, vI j]) hA dX4_wayMove_40 (by decide) rfl rfl ?_
      refine q_iinc (j := 4) (lo2 := [vR 190, vR 11, vI k, vI y, vI (j + 1)]) hA dX4_wayMove_41 rfl (by decide) rfl rfl ?_
      refine q_goto (tgt := 23) hA dX4_wayMove_44 (by decide) ?_
      exact ih _ _ (by omega) (by exact hmm.1) (by exact hmm.2.1) (by have := hmm.2.2; omega) (by exact wmv_s hw hlz (by omega) efb ey) (by omega)
set_option maxHeartbeats 4000000 in
set_option maxRecDepth 100000 in
theorem zX4_wayMove {g : Gm} {l : Launch} {D : Dat} {r : Row} (hnx : ∀ z m : Int, 0 ≤ z → z < 64 → 0 ≤ m → m ≤ 2 → D 191 (z * 3 + m) = nxR r z m) (hr : r = rowX D 11) (ho : sOk D 11) (hsy : sym r) {p : Int} (hmd : mDist r p 100 1000000 (D 192)) {k : Int} (rk : -2147483648 ≤ k ∧ k ≤ 2147483647) (hz0 : zOk r (D 190 5)) (hl0 : D 192 (D 190 5) < 1000000) : CrP g l 6 mX4_wayMove [vR 190, vR 11, vI k] D (if 0 ≤ k ∧ k < D 192 (D 190 5) % 100 then wmv 100 1000000 r (D 192) k.toNat (D 190 5) else -4) := by
  unfold CrP
  refine Cr.ofI (lo0 := [vR 190, vR 11, vI k, vN, vN]) (by decide) (Nat.le_of_ble_eq_true rfl) rfl (fun J hA hR => ?_)
  have hn8 : rN r ≤ 8 := by rw [hr, xN]; exact ho.n.2
  have hok : rOk r := by rw [hr]; exact ho
  have hz64 := hz0.1
  have hl1 := hmd.1.1 _ hz64.1 hz64.2
  refine q_iload_n (j := 2) hA rfl dX4_wayMove_0 ?_
  refine q_if_lt (tgt := 12) hA (by omega) dX4_wayMove_1 (by decide) (fun h1 => ?_) (fun h1 => ?_)
  · refine q_bipush hA (by decide) dX4_wayMove_12 ?_
    exact hR 14 _ _ _ dX4_wayMove_14 ⟨(by rw [if_neg (by omega)]), rfl⟩
  · refine q_iload_n (j := 2) hA rfl dX4_wayMove_4 ?_
    refine q_aload_n (j := 0) hA rfl dX4_wayMove_5 ?_
    refine q_callVP (b := 190) (As := []) (st := [vI k]) hA l_X4_86 kX4_wayMoves (zX4_wayMoves hmd.1.1 hz0) dX4_wayMove_6 rfl rfl sx_190 (by decide) rfl (Nat.le_of_ble_eq_true rfl) (by omega) ?_
    refine q_nmI (fun wm ewm => ?_)
    refine q_icmp_lt (tgt := 15) hA (by omega) (by omega) dX4_wayMove_9 (by decide) (fun h9 => ?_) (fun h9 => ?_)
    · refine q_aload_n (j := 0) hA rfl dX4_wayMove_15 ?_
      refine q_getI (x := D 190 5) hA f_X4_40 dX4_wayMove_16 sx_190 (by decide) rfl ?_
      refine q_istore_n (j := 3) (lo2 := [vR 190, vR 11, vI k, vI (D 190 5), vN]) hA dX4_wayMove_19 (by decide) rfl rfl ?_
      refine q_iconst hA dX4_wayMove_20 ?_
      refine q_istore (j := 4) (lo2 := [vR 190, vR 11, vI k, vI (D 190 5), vI 0]) hA dX4_wayMove_21 (by decide) rfl rfl ?_
      refine zX4_wayMove_L23 (D := D) (r := r) (p := p) (k := k) hnx hr ho hsy hmd rk hz0 hl0 (by omega) hA hR 1000 _ _ (by omega) (by exact hz0) (by omega) (by omega) (by rw [Int.sub_zero]) (by omega)
    · refine q_bipush hA (by decide) dX4_wayMove_12 ?_
      exact hR 14 _ _ _ dX4_wayMove_14 ⟨(by rw [if_neg (by omega)]), rfl⟩
