set_option maxHeartbeats 4000000 in
set_option maxRecDepth 100000 in
theorem zX4_spotsOneMoveOn_L5 {g : Gm} {l : Launch} {D : Dat} {r : Row} (hnx : ∀ z m : Int, 0 ≤ z → z < 64 → 0 ≤ m → m ≤ 2 → D 191 (z * 3 + m) = nxR r z m) {z : Int} (hsy : sym r) (hn8 : rN r ≤ 8) (hir : irr r) (hz : zOk r z)   {J : JT} (hA : AX g l RX4 cX4_spotsOneMoveOn 6 2 J) (hR : ReL cX4_spotsOneMoveOn (fun v D1 => v = (oneM r z 3) ∧ D1 = D) J) : ∀ (fuel : Nat) (acc : Int) (m : Int), (0 ≤ m ∧ m ≤ 3) → (acc = oneM r z m.toNat) → 3 - m < (fuel : Int) → J 5 [vR 190, vI z, vL acc, vN, vI m, vN] [] D := by
  intro fuel
  induction fuel with
  | zero => intro acc m hm hv hMs; exact absurd hMs (by omega)
  | succ fuel ih =>
    intro acc m hm hv hMs
    have hz64 := hz.1
    have hin := oneM_in hsy hn8 hir hz m.toNat (by omega)
    refine q_iload (j := 4) hA rfl dX4_spotsOneMoveOn_5 ?_
    refine q_iconst hA dX4_spotsOneMoveOn_7 ?_
    refine q_icmp_ge (tgt := 38) hA (by omega) (by omega) dX4_spotsOneMoveOn_8 (by decide) (fun h8 => ?_) (fun h8 => ?_)
    · refine q_lload_n (j := 2) hA rfl dX4_spotsOneMoveOn_38 ?_
      exact hR 39 _ _ _ dX4_spotsOneMoveOn_39 ⟨(by rw [hv, show m = 3 by omega]; rfl), rfl⟩
    · refine q_aload_n (j := 0) hA rfl dX4_spotsOneMoveOn_11 ?_
      refine q_iload_n (j := 1) hA rfl dX4_spotsOneMoveOn_12 ?_
      refine q_iload (j := 4) hA rfl dX4_spotsOneMoveOn_13 ?_
      refine q_callVP (b := 190) (As := [vI z, vI m]) (st := []) hA l_X4_67 kX4_behind (zX4_behind hnx (by omega) (by omega)) dX4_spotsOneMoveOn_15 rfl rfl sx_190 (by decide) rfl (Nat.le_of_ble_eq_true rfl) (by omega) ?_
      refine q_nmI (fun v ev => ?_)
      refine q_istore (j := 5) (lo2 := [vR 190, vI z, vL acc, vN, vI m, vI v]) hA dX4_spotsOneMoveOn_18 (by decide) rfl rfl ?_
      have hvi : v = -4 ∨ (0 ≤ v ∧ v < 64) := by rw [ev]; unfold bhR; rw [if_pos (by omega)]; exact nxR_in hn8
      refine q_iload (j := 5) hA rfl dX4_spotsOneMoveOn_20 ?_
      refine q_if_lt (tgt := 32) hA (by omega) dX4_spotsOneMoveOn_22 (by decide) (fun h22 => ?_) (fun h22 => ?_)
      · refine q_iinc (j := 4) (lo2 := [vR 190, vI z, vL acc, vN, vI (m + 1), vI v]) hA dX4_spotsOneMoveOn_32 rfl (by decide) rfl rfl ?_
        refine q_goto (tgt := 5) hA dX4_spotsOneMoveOn_35 (by decide) ?_
        refine q_fgt (lo2 := [vR 190, vI z, vL acc, vN, vI (m + 1), vN]) hA ⟨Or.inr rfl, Or.inr rfl, Or.inr rfl, Or.inr rfl, Or.inr rfl, Or.inl rfl, trivial⟩ ?_
        exact ih _ _ (by omega) (by rw [oneM_step (by omega), ← ev, ← hv]; first | rw [if_pos (by omega)] | rw [if_neg (by omega)]) (by omega)
      · have hv63 : 0 ≤ v ∧ v < 63 := by rcases bhR_ok (m := m) hsy hn8 hz (by omega) with ⟨q, -⟩ | q; omega; rw [ev]; exact zOk_63 hir q
        have hpw := pw_in hv63
        refine q_lload_n (j := 2) hA rfl dX4_spotsOneMoveOn_25 ?_
        refine q_lconst hA dX4_spotsOneMoveOn_26 ?_
        show J _ _ (vL 1 :: _) _
        refine q_iload (j := 5) hA rfl dX4_spotsOneMoveOn_27 ?_
        refine q_lshl hA dX4_spotsOneMoveOn_29 ?_
        rw [show lShl 1 v = pw v from lShl1 hv63]
        refine q_lor hA dX4_spotsOneMoveOn_30 ?_
        rw [show lOr acc (pw v) = bor acc (pw v) from lOrB (by omega) (by omega)]
        refine q_lstore_n (j := 2) (lo2 := [vR 190, vI z, vL (bor acc (pw v)), vN, vI m, vI v]) hA dX4_spotsOneMoveOn_31 (by decide) rfl rfl ?_
        refine q_iinc (j := 4) (lo2 := [vR 190, vI z, vL (bor acc (pw v)), vN, vI (m + 1), vI v]) hA dX4_spotsOneMoveOn_32 rfl (by decide) rfl rfl ?_
        refine q_goto (tgt := 5) hA dX4_spotsOneMoveOn_35 (by decide) ?_
        refine q_fgt (lo2 := [vR 190, vI z, vL (bor acc (pw v)), vN, vI (m + 1), vN]) hA ⟨Or.inr rfl, Or.inr rfl, Or.inr rfl, Or.inr rfl, Or.inr rfl, Or.inl rfl, trivial⟩ ?_
        exact ih _ _ (by omega) (by rw [oneM_step (by omega), ← ev, ← hv]; first | rw [if_pos (by omega)] | rw [if_neg (by omega)]) (by omega)
set_option maxHeartbeats 4000000 in
set_option maxRecDepth 100000 in
theorem zX4_spotsOneMoveOn {g : Gm} {l : Launch} {D : Dat} {r : Row} (hnx : ∀ z m : Int, 0 ≤ z → z < 64 → 0 ≤ m → m ≤ 2 → D 191 (z * 3 + m) = nxR r z m) {z : Int} (hsy : sym r) (hn8 : rN r ≤ 8) (hir : irr r) (hz : zOk r z) : CrQ g l 2 mX4_spotsOneMoveOn [vR 190, vI z] D (oneM r z 3) := by
  unfold CrQ
  refine Cr.ofL (lo0 := [vR 190, vI z, vN, vN, vN, vN]) (by decide) (Nat.le_of_ble_eq_true rfl) rfl (fun J hA hR => ?_)
  have hz64 := hz.1
  refine q_lconst hA dX4_spotsOneMoveOn_0 ?_
  show J _ _ (vL 0 :: _) _
  refine q_lstore_n (j := 2) (lo2 := [vR 190, vI z, vL 0, vN, vN, vN]) hA dX4_spotsOneMoveOn_1 (by decide) rfl rfl ?_
  refine q_iconst hA dX4_spotsOneMoveOn_2 ?_
  refine q_istore (j := 4) (lo2 := [vR 190, vI z, vL 0, vN, vI 0, vN]) hA dX4_spotsOneMoveOn_3 (by decide) rfl rfl ?_
  refine zX4_spotsOneMoveOn_L5 (D := D) (r := r) (z := z) hnx hsy hn8 hir hz  hA hR 1000 _ _ (by omega) (by rfl) (by omega)
set_option maxHeartbeats 4000000 in
set_option maxRecDepth 100000 in
theorem zX4_reached_L21 {g : Gm} {l : Launch} {D : Dat} {r : Row} (hnx : ∀ z m : Int, 0 ≤ z → z < 64 → 0 ≤ m → m ≤ 2 → D 191 (z * 3 + m) = nxR r z m) (hsy : sym r) (hn8 : rN r ≤ 8) (hir : irr r) (hz0 : zOk r (D 190 5)) {w k : Int} (hw : 0 ≤ w ∧ w ≤ 9223372036854775807) (h1 : ∀ z : Int, 0 ≤ z → tb w z = true → Rch r (D 190 5) z) {J : JT} (hA : AX g l RX4 cX4_reached 7 3 J) (hR : ReI cX4_reached (fun v D1 => isReach r (D 190 5) v ∧ D1 = D) J) (hx : ∀ (v : Int) (u : Int), (0 ≤ u ∧ u ≤ 64) → (0 ≤ v ∧ v ≤ 9223372036854775807) → (∀ z : Int, 0 ≤ z → tb v z = true → Rch r (D 190 5) z) → (∀ z : Int, 0 ≤ z → tb w z = true → tb v z = true) → (∀ y m : Int, 0 ≤ y → y < u → tb w y = true → 0 ≤ m → m ≤ 2 → 0 ≤ bhR r y m → tb v (bhR r y m) = true) → (u = 64) → J 54 [vR 190, vL v, vN, vI k, vL w, vN, vI u] [] D) : ∀ (fuel : Nat) (v : Int) (u : Int), (0 ≤ u ∧ u ≤ 64) → (0 ≤ v ∧ v ≤ 9223372036854775807) → (∀ z : Int, 0 ≤ z → tb v z = true → Rch r (D 190 5) z) → (∀ z : Int, 0 ≤ z → tb w z = true → tb v z = true) → (∀ y m : Int, 0 ≤ y → y < u → tb w y = true → 0 ≤ m → m ≤ 2 → 0 ≤ bhR r y m → tb v (bhR r y m) = true) → 64 - u < (fuel : Int) → J 21 [vR 190, vL v, vN, vI k, vL w, vN, vI u] [] D := by
  intro fuel
  induction fuel with
  | zero => intro v u hu hv0 j1 j2 j3 hMs; exact absurd hMs (by omega)
  | succ fuel ih =>
    intro v u hu hv0 j1 j2 j3 hMs
    refine q_iload (j := 6) hA rfl dX4_reached_21 ?_
    refine q_bipush hA (by decide) dX4_reached_23 ?_
    refine q_icmp_ge (tgt := 54) hA (by omega) (by omega) dX4_reached_25 (by decide) (fun h25 => ?_) (fun h25 => ?_)
    · exact hx _ _ hu hv0 j1 j2 j3 (by omega)
    · refine q_lload_n (j := 1) hA rfl dX4_reached_28 ?_
      refine q_iload (j := 6) hA rfl dX4_reached_29 ?_
      refine q_lshr hA dX4_reached_31 ?_
      refine q_lconst hA dX4_reached_32 ?_
      show J _ _ (vL 1 :: _) _
      refine q_land hA dX4_reached_33 ?_
      rw [show lAnd (lShr v u) 1 = if tb v u then 1 else 0 from bitL (by omega) (by omega)]
      refine q_lconst hA dX4_reached_34 ?_
      show J _ _ (vL 1 :: _) _
      refine q_lcmp hA (by split <;> omega) (by omega) dX4_reached_35 ?_
      have hc35 := cmpL_spec (if tb v u then 1 else 0) 1
      refine q_if_ne (tgt := 48) hA (by omega) dX4_reached_36 (by decide) (fun h36 => ?_) (fun h36 => ?_)
      · refine q_iinc (j := 6) (lo2 := [vR 190, vL v, vN, vI k, vL w, vN, vI (u + 1)]) hA dX4_reached_48 rfl (by decide) rfl rfl ?_
        refine q_goto (tgt := 21) hA dX4_reached_51 (by decide) ?_
        exact ih _ _ (by omega) (by first | exact bor_in (by omega) (by omega) | omega) (by first | exact j1 | (intro z z0 zb; rw [tb_bor, Bool.or_eq_true] at zb; rcases zb with zb | zb; exact j1 z z0 zb; (rw [eom] at zb; obtain ⟨n, n3, hn⟩ := (oneM_bit z0 3).mp zb; exact (j1 u (by omega) hbit).step (m := (n : Int)) (by omega) hn z0))) (by first | exact j2 | (intro z z0 zb; rw [tb_bor, j2 z z0 zb]; rfl)) (by first | (intro y m y0 y1 yb m0 m2 hb; by_cases e : y = u; (subst e; first | (rw [tb_bor, Bool.or_eq_true]; right; rw [eom]; exact (oneM_bit hb 3).mpr ⟨m.toNat, by omega, by rw [show ((m.toNat : Nat) : Int) = m by omega]⟩) | exact absurd (j2 y y0 yb) (by intro q; rw [q] at h36; simp [cmpL] at h36)); first | exact j3 y m y0 (by omega) yb m0 m2 hb | (rw [tb_bor, j3 y m y0 (by omega) yb m0 m2 hb]; rfl))) (by omega)
      · have hbit : tb v u = true := by revert h36; cases tb v u <;> simp [cmpL]
        have hzu := zOk_of_rch hsy hn8 hz0 (j1 u (by omega) hbit)
        refine q_lload_n (j := 1) hA rfl dX4_reached_39 ?_
        refine q_aload_n (j := 0) hA rfl dX4_reached_40 ?_
        refine q_iload (j := 6) hA rfl dX4_reached_41 ?_
        refine q_callVQ (b := 190) (As := [vI u]) (st := [vL v]) hA l_X4_63 kX4_spotsOneMoveOn (zX4_spotsOneMoveOn hnx hsy hn8 hir hzu) dX4_reached_43 rfl rfl sx_190 (by decide) rfl (Nat.le_of_ble_eq_true rfl) (by omega) ?_
        refine q_nmL (fun om eom => ?_)
        have homi := oneM_in hsy hn8 hir hzu 3 (by omega)
        rw [← eom] at homi
        refine q_lor hA dX4_reached_46 ?_
        rw [show lOr v om = bor v om from lOrB (by omega) (by omega)]
        refine q_lstore_n (j := 1) (lo2 := [vR 190, vL (bor v om), vN, vI k, vL w, vN, vI u]) hA dX4_reached_47 (by decide) rfl rfl ?_
        refine q_iinc (j := 6) (lo2 := [vR 190, vL (bor v om), vN, vI k, vL w, vN, vI (u + 1)]) hA dX4_reached_48 rfl (by decide) rfl rfl ?_
        refine q_goto (tgt := 21) hA dX4_reached_51 (by decide) ?_
        exact ih _ _ (by omega) (by first | exact bor_in (by omega) (by omega) | omega) (by first | exact j1 | (intro z z0 zb; rw [tb_bor, Bool.or_eq_true] at zb; rcases zb with zb | zb; exact j1 z z0 zb; (rw [eom] at zb; obtain ⟨n, n3, hn⟩ := (oneM_bit z0 3).mp zb; exact (j1 u (by omega) hbit).step (m := (n : Int)) (by omega) hn z0))) (by first | exact j2 | (intro z z0 zb; rw [tb_bor, j2 z z0 zb]; rfl)) (by first | (intro y m y0 y1 yb m0 m2 hb; by_cases e : y = u; (subst e; first | (rw [tb_bor, Bool.or_eq_true]; right; rw [eom]; exact (oneM_bit hb 3).mpr ⟨m.toNat, by omega, by rw [show ((m.toNat : Nat) : Int) = m by omega]⟩) | exact absurd (j2 y y0 yb) (by intro q; rw [q] at h36; simp [cmpL] at h36)); first | exact j3 y m y0 (by omega) yb m0 m2 hb | (rw [tb_bor, j3 y m y0 (by omega) yb m0 m2 hb]; rfl))) (by omega)
set_option maxHeartbeats 4000000 in
set_option maxRecDepth 100000 in
theorem zX4_reached_L9 {g : Gm} {l : Launch} {D : Dat} {r : Row} (hnx : ∀ z m : Int, 0 ≤ z → z < 64 → 0 ≤ m → m ≤ 2 → D 191 (z * 3 + m) = nxR r z m) (hsy : sym r) (hn8 : rN r ≤ 8) (hir : irr r) (hz0 : zOk r (D 190 5))   {J : JT} (hA : AX g l RX4 cX4_reached 7 3 J) (hR : ReI cX4_reached (fun v D1 => isReach r (D 190 5) v ∧ D1 = D) J) (hx : ∀ (w : Int) (k : Int), (0 ≤ k ∧ k ≤ 64) → (0 ≤ w ∧ w ≤ 9223372036854775807) → (∀ z : Int, 0 ≤ z → tb w z = true → Rch r (D 190 5) z) → (tb w (D 190 5) = true) → (k + 1 ≤ (cntS w : Int)) → (∀ y m : Int, 0 ≤ y → tb w y = true → 0 ≤ m → m ≤ 2 → 0 ≤ bhR r y m → tb w (bhR r y m) = true) → J 70 [vR 190, vL w, vN, vI k, vN, vN, vN] [] D) : ∀ (fuel : Nat) (w : Int) (k : Int), (0 ≤ k ∧ k ≤ 64) → (0 ≤ w ∧ w ≤ 9223372036854775807) → (∀ z : Int, 0 ≤ z → tb w z = true → Rch r (D 190 5) z) → (tb w (D 190 5) = true) → (k + 1 ≤ (cntS w : Int)) → 64 - k < (fuel : Int) → J 9 [vR 190, vL w, vN, vI k, vN, vN, vN] [] D := by
  intro fuel
  induction fuel with
  | zero => intro w k hk hw h1 h2 hc hMs; exact absurd hMs (by omega)
  | succ fuel ih =>
    intro w k hk hw h1 h2 hc hMs
    have hcl := cntS_le w
    have hz63 := zOk_63 hir hz0
    refine q_iload_n (j := 3) hA rfl dX4_reached_9 ?_
    refine q_bipush hA (by decide) dX4_reached_10 ?_
    refine q_icmp_ge (tgt := 70) hA (by omega) (by omega) dX4_reached_12 (by decide) (fun h12 => ?_) (fun h12 => ?_)
    · first | (have e : v = w := (by omega); subst e) | skip
      exact hx _ _ hk hw h1 h2 hc (by first | (exfalso; omega) | exact fun y m y0 yb m0 m2 hb => j3 y m y0 (by have := (zOk_of_rch hsy hn8 hz0 (h1 y y0 yb)).1; omega) yb m0 m2 hb)
    · refine q_lload_n (j := 1) hA rfl dX4_reached_15 ?_
      refine q_lstore (j := 4) (lo2 := [vR 190, vL w, vN, vI k, vL w, vN, vN]) hA dX4_reached_16 (by decide) rfl rfl ?_
      refine q_iconst hA dX4_reached_18 ?_
      refine q_istore (j := 6) (lo2 := [vR 190, vL w, vN, vI k, vL w, vN, vI 0]) hA dX4_reached_19 (by decide) rfl rfl ?_
      refine zX4_reached_L21 (D := D) (r := r) hnx hsy hn8 hir hz0 ((by first | assumption | omega | rfl)) ((by first | assumption | omega | rfl)) hA hR (fun v u hu hv0 j1 j2 j3 hu64 => ?_) 1000 _ _ (by omega) (by omega) (by exact h1) (by exact fun z _ h => h) (by intro y m y0 y1; omega) (by omega)
      refine q_lload_n (j := 1) hA rfl dX4_reached_54 ?_
      refine q_lload (j := 4) hA rfl dX4_reached_55 ?_
      refine q_lcmp hA (by omega) (by omega) dX4_reached_57 ?_
      have hc57 := cmpL_spec v w
      refine q_if_ne (tgt := 64) hA (by omega) dX4_reached_58 (by decide) (fun h58 => ?_) (fun h58 => ?_)
      · refine q_iinc (j := 3) (lo2 := [vR 190, vL v, vN, vI (k + 1), vL w, vN, vI u]) hA dX4_reached_64 rfl (by decide) rfl rfl ?_
        refine q_goto (tgt := 9) hA dX4_reached_67 (by decide) ?_
        refine q_fgt (lo2 := [vR 190, vL v, vN, vI (k + 1), vN, vN, vN]) hA ⟨Or.inr rfl, Or.inr rfl, Or.inr rfl, Or.inr rfl, Or.inl rfl, Or.inr rfl, Or.inl rfl, trivial⟩ ?_
        exact ih _ _ (by omega) (by omega) (by exact j1) (by exact j2 _ (by omega) h2) (by have := cntS_lt hw hv0 j2 (by intro q; subst q; omega); omega) (by omega)
      · refine q_goto (tgt := 70) hA dX4_reached_61 (by decide) ?_
        refine q_fgt (lo2 := [vR 190, vL v, vN, vI k, vN, vN, vN]) hA ⟨Or.inr rfl, Or.inr rfl, Or.inr rfl, Or.inr rfl, Or.inl rfl, Or.inr rfl, Or.inl rfl, trivial⟩ ?_
        first | (have e : v = w := (by omega); subst e) | skip
        exact hx _ _ hk hw h1 h2 hc (by first | (exfalso; omega) | exact fun y m y0 yb m0 m2 hb => j3 y m y0 (by have := (zOk_of_rch hsy hn8 hz0 (h1 y y0 yb)).1; omega) yb m0 m2 hb)
set_option maxHeartbeats 4000000 in
set_option maxRecDepth 100000 in
theorem zX4_reached_L75 {g : Gm} {l : Launch} {D : Dat} {r : Row} (hnx : ∀ z m : Int, 0 ≤ z → z < 64 → 0 ≤ m → m ≤ 2 → D 191 (z * 3 + m) = nxR r z m) (hsy : sym r) (hn8 : rN r ≤ 8) (hir : irr r) (hz0 : zOk r (D 190 5)) {w : Int} (hw : 0 ≤ w ∧ w ≤ 9223372036854775807) (h1 : ∀ z : Int, 0 ≤ z → tb w z = true → Rch r (D 190 5) z) (hall : ∀ z : Int, Rch r (D 190 5) z → 0 ≤ z ∧ z < 64 ∧ tb w z = true) {J : JT} (hA : AX g l RX4 cX4_reached 7 3 J) (hR : ReI cX4_reached (fun v D1 => isReach r (D 190 5) v ∧ D1 = D) J) : ∀ (fuel : Nat) (acc : Int) (u : Int), (0 ≤ u ∧ u ≤ 64) → (0 ≤ acc ∧ acc ≤ 255) → (∀ p : Int, 0 ≤ p → p < 8 → (tb acc p = true ↔ ∃ z : Int, 0 ≤ z ∧ z < u ∧ tb w z = true ∧ z / 8 = p)) → 64 - u < (fuel : Int) → J 75 [vR 190, vL w, vN, vI acc, vI u, vN, vN] [] D := by
  intro fuel
  induction fuel with
  | zero => intro acc u hu ha hv hMs; exact absurd hMs (by omega)
  | succ fuel ih =>
    intro acc u hu ha hv hMs
    refine q_iload (j := 4) hA rfl dX4_reached_75 ?_
    refine q_bipush hA (by decide) dX4_reached_77 ?_
    refine q_icmp_ge (tgt := 109) hA (by omega) (by omega) dX4_reached_79 (by decide) (fun h79 => ?_) (fun h79 => ?_)
    · refine q_iload_n (j := 3) hA rfl dX4_reached_109 ?_
      exact hR 110 _ _ _ dX4_reached_110 ⟨⟨(by omega), fun p p0 p8 => (hv p p0 p8).trans ⟨fun ⟨z, z0, z1, z2, z3⟩ => ⟨z, h1 z z0 z2, z3⟩, fun ⟨z, hz, z3⟩ => ⟨z, (hall z hz).1, by have := (hall z hz).2.1; omega, (hall z hz).2.2, z3⟩⟩⟩, rfl⟩
    · refine q_lload_n (j := 1) hA rfl dX4_reached_82 ?_
      refine q_iload (j := 4) hA rfl dX4_reached_83 ?_
      refine q_lshr hA dX4_reached_85 ?_
      refine q_lconst hA dX4_reached_86 ?_
      show J _ _ (vL 1 :: _) _
      refine q_land hA dX4_reached_87 ?_
      rw [show lAnd (lShr w u) 1 = if tb w u then 1 else 0 from bitL (by omega) (by omega)]
      refine q_lconst hA dX4_reached_88 ?_
      show J _ _ (vL 1 :: _) _
      refine q_lcmp hA (by split <;> omega) (by omega) dX4_reached_89 ?_
      have hc89 := cmpL_spec (if tb w u then 1 else 0) 1
      refine q_if_ne (tgt := 103) hA (by omega) dX4_reached_90 (by decide) (fun h90 => ?_) (fun h90 => ?_)
      · refine q_iinc (j := 4) (lo2 := [vR 190, vL w, vN, vI acc, vI (u + 1), vN, vN]) hA dX4_reached_103 rfl (by decide) rfl rfl ?_
        refine q_goto (tgt := 75) hA dX4_reached_106 (by decide) ?_
        exact ih _ _ (by omega) (by first | exact sb_in (by omega) (by omega) | omega) (by first | (intro p p0 p8; rw [tb_sb (by omega) p0, Bool.or_eq_true, decide_eq_true_eq, hv p p0 p8]; constructor; (rintro (⟨z, z0, z1, z2, z3⟩ | e); exact ⟨z, z0, by omega, z2, z3⟩; exact ⟨u, by omega, by omega, hbit, by omega⟩); (rintro ⟨z, z0, z1, z2, z3⟩; by_cases e : z = u; (right; omega); (left; exact ⟨z, z0, by omega, z2, z3⟩))) | (intro p p0 p8; rw [hv p p0 p8]; constructor; (rintro ⟨z, z0, z1, z2, z3⟩; exact ⟨z, z0, by omega, z2, z3⟩); (rintro ⟨z, z0, z1, z2, z3⟩; by_cases e : z = u; (subst e; exact absurd z2 (by intro q; rw [q] at h90; simp [cmpL] at h90)); exact ⟨z, z0, by omega, z2, z3⟩))) (by omega)
      · have hbit : tb w u = true := by revert h90; cases tb w u <;> simp [cmpL]
        refine q_iload_n (j := 3) hA rfl dX4_reached_93 ?_
        refine q_iconst hA dX4_reached_94 ?_
        refine q_iload (j := 4) hA rfl dX4_reached_95 ?_
        refine q_callSP (As := [vI u]) (st := [vI 1, vI acc]) hA l_X4_47 kX4_frontOf (zX4_frontOf (by omega)) dX4_reached_97 rfl rfl (Nat.le_of_ble_eq_true rfl) (by omega) ?_
        refine q_nmI (fun f ef => ?_)
        have hf8 : 0 ≤ f ∧ f < 8 := by omega
        refine q_ishl hA dX4_reached_100 ?_
        refine q_ior hA dX4_reached_101 ?_
        rw [show iOr acc (iShl 1 f) = sb acc f from or8 (by omega) (by omega)]
        refine q_istore_n (j := 3) (lo2 := [vR 190, vL w, vN, vI (sb acc f), vI u, vN, vN]) hA dX4_reached_102 (by decide) rfl rfl ?_
        refine q_iinc (j := 4) (lo2 := [vR 190, vL w, vN, vI (sb acc f), vI (u + 1), vN, vN]) hA dX4_reached_103 rfl (by decide) rfl rfl ?_
        refine q_goto (tgt := 75) hA dX4_reached_106 (by decide) ?_
        exact ih _ _ (by omega) (by first | exact sb_in (by omega) (by omega) | omega) (by first | (intro p p0 p8; rw [tb_sb (by omega) p0, Bool.or_eq_true, decide_eq_true_eq, hv p p0 p8]; constructor; (rintro (⟨z, z0, z1, z2, z3⟩ | e); exact ⟨z, z0, by omega, z2, z3⟩; exact ⟨u, by omega, by omega, hbit, by omega⟩); (rintro ⟨z, z0, z1, z2, z3⟩; by_cases e : z = u; (right; omega); (left; exact ⟨z, z0, by omega, z2, z3⟩))) | (intro p p0 p8; rw [hv p p0 p8]; constructor; (rintro ⟨z, z0, z1, z2, z3⟩; exact ⟨z, z0, by omega, z2, z3⟩); (rintro ⟨z, z0, z1, z2, z3⟩; by_cases e : z = u; (subst e; exact absurd z2 (by intro q; rw [q] at h90; simp [cmpL] at h90)); exact ⟨z, z0, by omega, z2, z3⟩))) (by omega)
set_option maxHeartbeats 4000000 in
set_option maxRecDepth 100000 in
theorem zX4_reached {g : Gm} {l : Launch} {D : Dat} {r : Row} (hnx : ∀ z m : Int, 0 ≤ z → z < 64 → 0 ≤ m → m ≤ 2 → D 191 (z * 3 + m) = nxR r z m) (hsy : sym r) (hn8 : rN r ≤ 8) (hir : irr r) (hz0 : zOk r (D 190 5)) : CrI g l 3 mX4_reached [vR 190] D (fun v D1 => isReach r (D 190 5) v ∧ D1 = D) := by
  refine Cr.ofI (lo0 := [vR 190, vN, vN, vN, vN, vN, vN]) (by decide) (Nat.le_of_ble_eq_true rfl) rfl (fun J hA hR => ?_)
  have hz63 := zOk_63 hir hz0
  have hpw0 := pw_in hz63
  refine q_lconst hA dX4_reached_0 ?_
  show J _ _ (vL 1 :: _) _
  refine q_aload_n (j := 0) hA rfl dX4_reached_1 ?_
  refine q_getI (x := D 190 5) hA f_X4_40 dX4_reached_2 sx_190 (by decide) rfl ?_
  refine q_lshl hA dX4_reached_5 ?_
  rw [show lShl 1 (D 190 5) = pw (D 190 5) from lShl1 hz63]
  refine q_lstore_n (j := 1) (lo2 := [vR 190, vL (pw (D 190 5)), vN, vN, vN, vN, vN]) hA dX4_reached_6 (by decide) rfl rfl ?_
  refine q_iconst hA dX4_reached_7 ?_
  refine q_istore_n (j := 3) (lo2 := [vR 190, vL (pw (D 190 5)), vN, vI 0, vN, vN, vN]) hA dX4_reached_8 (by decide) rfl rfl ?_
  refine zX4_reached_L9 (D := D) (r := r) hnx hsy hn8 hir hz0  hA hR (fun w k hk hw h1 h2 hc hx => ?_) 1000 _ _ (by omega) (by omega) (by intro z z1 z2; rw [tb_pw (by omega) z1, decide_eq_true_eq] at z2; exact ⟨0, z2⟩) (by rw [tb_pw (by omega) (by omega), decide_eq_true_eq]) (by rw [show cntS (pw (D 190 5)) = cntB (fun i => tb (pw (D 190 5)) (i : Int)) 64 from rfl]; have := cntB_lt (f := fun _ => false) (g := fun i => tb (pw (D 190 5)) (i : Int)) (fun _ h => by cases h) (z := (D 190 5).toNat) rfl (by show tb (pw (D 190 5)) _ = true; rw [tb_pw (by omega) (by omega), decide_eq_true_eq]; omega) 64 (by omega); omega) (by omega)
  refine q_iconst hA dX4_reached_70 ?_
  refine q_istore_n (j := 3) (lo2 := [vR 190, vL w, vN, vI 0, vN, vN, vN]) hA dX4_reached_71 (by decide) rfl rfl ?_
  refine q_iconst hA dX4_reached_72 ?_
  refine q_istore (j := 4) (lo2 := [vR 190, vL w, vN, vI 0, vI 0, vN, vN]) hA dX4_reached_73 (by decide) rfl rfl ?_
  refine zX4_reached_L75 (D := D) (r := r) hnx hsy hn8 hir hz0 (by omega) h1 (fun z hz => Rch.closed (fun y => 0 ≤ y ∧ y < 64 ∧ tb w y = true) ⟨by omega, by omega, h2⟩ (fun y m z hy m0 m2 e z0 => ⟨z0, (by have := bhR_in (r := r) (z := y) (m := m) hn8; omega), (by rw [← e]; exact hx y m hy.1 hy.2.2 m0 m2 (by omega))⟩) hz) hA hR 1000 _ _ (by omega) (by omega) (by intro p _ _; rw [tb_0]; constructor; (intro h; cases h); (rintro ⟨z, z0, z1, -⟩; omega)) (by omega)
