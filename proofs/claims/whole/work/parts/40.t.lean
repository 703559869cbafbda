set_option maxHeartbeats 4000000 in
set_option maxRecDepth 100000 in
theorem zX10_costOf {g : Gm} {l : Launch} {D : Dat} (hgd : gdR (rowM D 284 0)) {z : Int} {m : Int} (hz : zOk (rowM D 284 0) z) (hm : 0 ≤ m ∧ m ≤ 2) : CrP g l 5 mX10_costOf [vR 283, vI z, vI m] D (cstL 1000 100000000 (rowM D 284 0) (D 292) z m) := by
  unfold CrP
  refine Cr.ofI (lo0 := [vR 283, vI z, vI m, vN]) (by decide) (Nat.le_of_ble_eq_true rfl) rfl (fun J hA hR => ?_)
  have hok : mOk D 284 := hgd.1.2.1
  have hn := hok.n
  have hgF := hgd.1.2.2.1
  have hgB := hgd.1.2.2.2
  rw [mF, mN] at hgF
  rw [mB, mN] at hgB
  have hn8 : rN (rowM D 284 0) ≤ 8 := hgd.1.2.1.2.1
  refine q_aload_n (j := 0) hA rfl dX10_costOf_0 ?_
  refine q_iload_n (j := 1) hA rfl dX10_costOf_1 ?_
  refine q_iload_n (j := 2) hA rfl dX10_costOf_2 ?_
  refine q_callVP (b := 283) (As := [vI z, vI m]) (st := []) hA l_X10_180 kX10_next (zX10_next hgd hz hm) dX10_costOf_3 rfl rfl sx_283 (by decide) rfl (Nat.le_of_ble_eq_true rfl) (by omega) ?_
  refine q_nmI (fun y ey => ?_)
  have hyi := bhR_in (r := (rowM D 284 0)) (z := z) (m := m) hn8
  rw [← ey] at hyi
  refine q_istore_n (j := 3) (lo2 := [vR 283, vI z, vI m, vI y]) hA dX10_costOf_6 (by decide) rfl rfl ?_
  refine q_iload_n (j := 3) hA rfl dX10_costOf_7 ?_
  refine q_bipush hA (by decide) dX10_costOf_8 ?_
  refine q_icmp_ne (tgt := 18) hA (by omega) (by omega) dX10_costOf_10 (by decide) (fun h10 => ?_) (fun h10 => ?_)
  · refine q_sipush hA (by decide) dX10_costOf_18 ?_
    refine q_sipush hA (by decide) dX10_costOf_21 ?_
    refine q_iload_n (j := 2) hA rfl dX10_costOf_24 ?_
    refine q_iconst hA dX10_costOf_25 ?_
    refine q_icmp_ne (tgt := 33) hA (by omega) (by omega) dX10_costOf_26 (by decide) (fun h26 => ?_) (fun h26 => ?_)
    · refine q_aload_n (j := 0) hA rfl dX10_costOf_33 ?_
      refine q_iload_n (j := 3) hA rfl dX10_costOf_34 ?_
      refine q_bipush hA (by decide) dX10_costOf_35 ?_
      refine q_idiv hA (by omega) (by omega) dX10_costOf_37 ?_
      refine q_callVP (b := 283) (As := [vI (y / 8)]) (st := [vI 1000, vI 1001]) hA l_X10_139 kX10_effortNow (zX10_effortNow hok (by omega)) dX10_costOf_38 rfl rfl sx_283 (by decide) rfl (Nat.le_of_ble_eq_true rfl) (by omega) ?_
      refine q_nmI (fun ef eef => ?_)
      refine q_iconst hA dX10_costOf_41 ?_
      refine q_isub hA dX10_costOf_42 ?_
      refine q_imul hA dX10_costOf_43 ?_
      refine q_iadd hA dX10_costOf_44 ?_
      refine q_aload_n (j := 0) hA rfl dX10_costOf_45 ?_
      refine q_getR hA f_X10_35 dX10_costOf_46 sx_283 (by decide) fx_283_11 ?_
      refine q_iload_n (j := 3) hA rfl dX10_costOf_49 ?_
      refine q_iald (x := D 292 y) hA dX10_costOf_50 sx_292 (by omega) (by decide) rfl ?_
      refine q_iadd hA dX10_costOf_51 ?_
      exact hR 52 _ _ _ dX10_costOf_52 ⟨(by unfold cstL; rw [← ey]; first | rw [if_pos (by omega)] | (rw [if_neg (by omega)]; unfold stepC; rw [← ey]; first | (rw [if_pos (by omega)]; omega) | (rw [if_neg (by omega), mK (by omega), mSh (by omega), ← eef]; omega))), rfl⟩
    · refine q_iconst hA dX10_costOf_29 ?_
      refine q_goto (tgt := 43) hA dX10_costOf_30 (by decide) ?_
      refine q_imul hA dX10_costOf_43 ?_
      refine q_iadd hA dX10_costOf_44 ?_
      refine q_aload_n (j := 0) hA rfl dX10_costOf_45 ?_
      refine q_getR hA f_X10_35 dX10_costOf_46 sx_283 (by decide) fx_283_11 ?_
      refine q_iload_n (j := 3) hA rfl dX10_costOf_49 ?_
      refine q_iald (x := D 292 y) hA dX10_costOf_50 sx_292 (by omega) (by decide) rfl ?_
      refine q_iadd hA dX10_costOf_51 ?_
      exact hR 52 _ _ _ dX10_costOf_52 ⟨(by unfold cstL; rw [← ey]; first | rw [if_pos (by omega)] | (rw [if_neg (by omega)]; unfold stepC; rw [← ey]; first | (rw [if_pos (by omega)]; omega) | (rw [if_neg (by omega), mK (by omega), mSh (by omega), ← eef]; omega))), rfl⟩
  · refine q_ldc hA c_X10_183 dX10_costOf_13 ?_
    refine q_goto (tgt := 52) hA dX10_costOf_15 (by decide) ?_
    exact hR 52 _ _ _ dX10_costOf_52 ⟨(by unfold cstL; rw [← ey]; first | rw [if_pos (by omega)] | (rw [if_neg (by omega)]; unfold stepC; rw [← ey]; first | (rw [if_pos (by omega)]; omega) | (rw [if_neg (by omega), mK (by omega), mSh (by omega), ← eef]; omega))), rfl⟩
set_option maxHeartbeats 4000000 in
set_option maxRecDepth 100000 in
theorem zX10_measures_L2 {g : Gm} {l : Launch} {D : Dat} (hgd : gdR (rowM D 284 0)) (hlb : ∀ p q : Int, 0 ≤ p → p < D 284 0 → 0 ≤ q → q < 8 → tb (D 284 (44 + p)) q = true → q < D 284 0) {p : Int} (hp : 0 ≤ p ∧ p < 8)   {J : JT} (hA : AX g l RX10 cX10_measures 7 6 J) (hR : ReV cX10_measures (fun D1 => mDist (rowM D 284 0) p 1000 100000000 (D1 292) ∧ ∀ c, c ≠ 292 → D1 c = D c) J) (hx : ∀ (k : Int) (E : Dat), (0 ≤ k ∧ k ≤ 64) → (∀ i : Int, 0 ≤ i → i < k → E 292 i = if i / 8 = p then 0 else 100000000) → (∀ c, c ≠ 292 → E c = D c) → (k = 64) → J 34 [vR 283, vI p, vI k, vN, vN, vN, vN] [] E) : ∀ (fuel : Nat) (k : Int) (E : Dat), (0 ≤ k ∧ k ≤ 64) → (∀ i : Int, 0 ≤ i → i < k → E 292 i = if i / 8 = p then 0 else 100000000) → (∀ c, c ≠ 292 → E c = D c) → 64 - k < (fuel : Int) → J 2 [vR 283, vI p, vI k, vN, vN, vN, vN] [] E := by
  intro fuel
  induction fuel with
  | zero => intro k E hk he hf hMs; exact absurd hMs (by omega)
  | succ fuel ih =>
    intro k E hk he hf hMs
    refine q_iload_n (j := 2) hA rfl dX10_measures_2 ?_
    refine q_bipush hA (by decide) dX10_measures_3 ?_
    refine q_icmp_ge (tgt := 34) hA (by omega) (by omega) dX10_measures_5 (by decide) (fun h5 => ?_) (fun h5 => ?_)
    · exact hx _ _ hk he hf (by omega)
    · refine q_aload_n (j := 0) hA rfl dX10_measures_8 ?_
      refine q_getR hA f_X10_35 dX10_measures_9 sx_283 (by decide) fx_283_11 ?_
      refine q_iload_n (j := 2) hA rfl dX10_measures_12 ?_
      refine q_iload_n (j := 2) hA rfl dX10_measures_13 ?_
      refine q_bipush hA (by decide) dX10_measures_14 ?_
      refine q_idiv hA (by omega) (by omega) dX10_measures_16 ?_
      refine q_iload_n (j := 1) hA rfl dX10_measures_17 ?_
      refine q_icmp_ne (tgt := 25) hA (by omega) (by omega) dX10_measures_18 (by decide) (fun h18 => ?_) (fun h18 => ?_)
      · refine q_ldc hA c_X10_183 dX10_measures_25 ?_
        refine q_iast hA dX10_measures_27 sx_292 (by omega) (by decide) ?_
        refine q_iinc (j := 2) (lo2 := [vR 283, vI p, vI (k + 1), vN, vN, vN, vN]) hA dX10_measures_28 rfl (by decide) rfl rfl ?_
        refine q_goto (tgt := 2) hA dX10_measures_31 (by decide) ?_
        exact ih _ _ (by omega) (by intro i i1 i2; by_cases h : i = k; (subst h; rw [upD_s]; first | rw [if_pos (by omega)] | rw [if_neg (by omega)]); (rw [upD_n (Or.inr h)]; exact he i i1 (by omega))) (by exact fun c hc => (upD_other hc).trans (hf c hc)) (by omega)
      · refine q_iconst hA dX10_measures_21 ?_
        refine q_goto (tgt := 27) hA dX10_measures_22 (by decide) ?_
        refine q_iast hA dX10_measures_27 sx_292 (by omega) (by decide) ?_
        refine q_iinc (j := 2) (lo2 := [vR 283, vI p, vI (k + 1), vN, vN, vN, vN]) hA dX10_measures_28 rfl (by decide) rfl rfl ?_
        refine q_goto (tgt := 2) hA dX10_measures_31 (by decide) ?_
        exact ih _ _ (by omega) (by intro i i1 i2; by_cases h : i = k; (subst h; rw [upD_s]; first | rw [if_pos (by omega)] | rw [if_neg (by omega)]); (rw [upD_n (Or.inr h)]; exact he i i1 (by omega))) (by exact fun c hc => (upD_other hc).trans (hf c hc)) (by omega)
set_option maxHeartbeats 4000000 in
set_option maxRecDepth 100000 in
theorem zX10_measures_L96 {g : Gm} {l : Launch} {D : Dat} (hgd : gdR (rowM D 284 0)) (hlb : ∀ p q : Int, 0 ≤ p → p < D 284 0 → 0 ≤ q → q < 8 → tb (D 284 (44 + p)) q = true → q < D 284 0) {p : Int} (hp : 0 ≤ p ∧ p < 8) {k is_ : Int} (S : Int) (hk : 0 ≤ k ∧ k < 64) (his : (is_ = 1 ∧ zOk (rowM D 284 0) k) ∨ (is_ = 0 ∧ ¬ zOk (rowM D 284 0) k)) {J : JT} (hA : AX g l RX10 cX10_measures 7 6 J) (hR : ReV cX10_measures (fun D1 => mDist (rowM D 284 0) p 1000 100000000 (D1 292) ∧ ∀ c, c ≠ 292 → D1 c = D c) J) (hx : ∀ (mo : Int) (m : Int) (E : Dat), (0 ≤ m ∧ m ≤ 3) → (mo = 0 ∨ mo = 1) → (meI (rowM D 284 0) p 1000 100000000 (E 292)) → (mo = 0 → ∀ z : Int, zOk (rowM D 284 0) z → z < k → meF (rowM D 284 0) 1000 (E 292) z) → (mo = 0 → zOk (rowM D 284 0) k → ∀ n : Int, 0 ≤ n → n < m → 0 ≤ bhR (rowM D 284 0) k n → E 292 k ≤ stepC 1000 (rowM D 284 0) k n + E 292 (bhR (rowM D 284 0) k n)) → (sumI (E 292) 64 + mo ≤ S) → (∀ c, c ≠ 292 → E c = D c) → (is_ = 0 ∨ m = 3) → J 171 [vR 283, vI p, vI mo, vI k, vI is_, vI m, vN] [] E) : ∀ (fuel : Nat) (mo : Int) (m : Int) (E : Dat), (0 ≤ m ∧ m ≤ 3) → (mo = 0 ∨ mo = 1) → (meI (rowM D 284 0) p 1000 100000000 (E 292)) → (mo = 0 → ∀ z : Int, zOk (rowM D 284 0) z → z < k → meF (rowM D 284 0) 1000 (E 292) z) → (mo = 0 → zOk (rowM D 284 0) k → ∀ n : Int, 0 ≤ n → n < m → 0 ≤ bhR (rowM D 284 0) k n → E 292 k ≤ stepC 1000 (rowM D 284 0) k n + E 292 (bhR (rowM D 284 0) k n)) → (sumI (E 292) 64 + mo ≤ S) → (∀ c, c ≠ 292 → E c = D c) → 3 - m < (fuel : Int) → J 96 [vR 283, vI p, vI mo, vI k, vI is_, vI m, vN] [] E := by
  intro fuel
  induction fuel with
  | zero => intro mo m E hm hmo hI hfx hfm hS hf hMs; exact absurd hMs (by omega)
  | succ fuel ih =>
    intro mo m E hm hmo hI hfx hfm hS hf hMs
    have hn8 := hgd.1.2.1.2.1
    have hok2 : rOk (rowM D 284 0) := hgd.1.2.1
    have eR : rowM E 284 0 = (rowM D 284 0) := rowM_c (hf 284 (by omega))
    have hgE := gd_c hgd eR
    have hokE := gd_o hgE
    have e84 : E 284 = D 284 := hf 284 (by omega)
    refine q_iload (j := 5) hA rfl dX10_measures_96 ?_
    refine q_iconst hA dX10_measures_98 ?_
    refine q_icmp_ge (tgt := 171) hA (by omega) (by omega) dX10_measures_99 (by decide) (fun h99 => ?_) (fun h99 => ?_)
    · exact hx _ _ _ hm hmo hI hfx hfm hS hf (by omega)
    · refine q_iload (j := 4) hA rfl dX10_measures_102 ?_
      refine q_if_eq (tgt := 171) hA (by omega) dX10_measures_104 (by decide) (fun h104 => ?_) (fun h104 => ?_)
      · exact hx _ _ _ hm hmo hI hfx hfm hS hf (by omega)
      · have hzk := (show zOk (rowM D 284 0) k by rcases his with q | q; exact q.2; omega)
        refine q_aload_n (j := 0) hA rfl dX10_measures_107 ?_
        refine q_iload_n (j := 3) hA rfl dX10_measures_108 ?_
        refine q_iload (j := 5) hA rfl dX10_measures_109 ?_
        refine q_callVP (b := 283) (As := [vI k, vI m]) (st := []) hA l_X10_184 kX10_costOf (zX10_costOf hgE (by rw [eR]; exact hzk) (by omega)) dX10_measures_111 rfl rfl sx_283 (by decide) rfl (Nat.le_of_ble_eq_true rfl) (by omega) ?_
        refine q_nmI (fun v ev => ?_)
        rw [eR] at ev
        have hvi := cst_in (r := (rowM D 284 0)) (p := p) (u := 1000) (far := 100000000) (L := E 292) (z := k) (m := m) (by omega) (by omega) hok2 hI
        rw [← ev] at hvi
        have hLk := hI.1 k (by omega) (by omega)
        refine q_istore (j := 6) (lo2 := [vR 283, vI p, vI mo, vI k, vI is_, vI m, vI v]) hA dX10_measures_114 (by decide) rfl rfl ?_
        refine q_iload_n (j := 2) hA rfl dX10_measures_116 ?_
        refine q_if_ne (tgt := 131) hA (by omega) dX10_measures_117 (by decide) (fun h117 => ?_) (fun h117 => ?_)
        · refine q_iconst hA dX10_measures_131 ?_
          refine q_goto (tgt := 136) hA dX10_measures_132 (by decide) ?_
          refine q_istore_n (j := 2) (lo2 := [vR 283, vI p, vI 1, vI k, vI is_, vI m, vI v]) hA dX10_measures_136 (by decide) rfl rfl ?_
          refine q_aload_n (j := 0) hA rfl dX10_measures_137 ?_
          refine q_getR hA f_X10_35 dX10_measures_138 sx_283 (by decide) fx_283_11 ?_
          refine q_iload_n (j := 3) hA rfl dX10_measures_141 ?_
          refine q_iload (j := 6) hA rfl dX10_measures_142 ?_
          refine q_aload_n (j := 0) hA rfl dX10_measures_144 ?_
          refine q_getR hA f_X10_35 dX10_measures_145 sx_283 (by decide) fx_283_11 ?_
          refine q_iload_n (j := 3) hA rfl dX10_measures_148 ?_
          refine q_iald (x := E 292 k) hA dX10_measures_149 sx_292 (by omega) (by decide) rfl ?_
          refine q_icmp_ge (tgt := 158) hA (by omega) (by omega) dX10_measures_150 (by decide) (fun h150 => ?_) (fun h150 => ?_)
          · refine q_aload_n (j := 0) hA rfl dX10_measures_158 ?_
            refine q_getR hA f_X10_35 dX10_measures_159 sx_283 (by decide) fx_283_11 ?_
            refine q_iload_n (j := 3) hA rfl dX10_measures_162 ?_
            refine q_iald (x := E 292 k) hA dX10_measures_163 sx_292 (by omega) (by decide) rfl ?_
            refine q_iast hA dX10_measures_164 sx_292 (by omega) (by decide) ?_
            refine q_nmD (fun W eW => ?_)
            have hW : (v < E 292 k ∧ W = upD E 292 k v) ∨ (¬ v < E 292 k ∧ W = E) := by first | exact Or.inl ⟨by omega, eW⟩ | exact Or.inr ⟨by omega, eW.trans upD_id⟩
            have hst := me_step (c := 292) (by omega) hok2 hI (by omega) (by omega) ev hW
            have hsW := hst.2.1.1
            have hsW2 := hst.2.1.2
            refine q_iinc (j := 5) (lo2 := [vR 283, vI p, vI 1, vI k, vI is_, vI (m + 1), vI v]) hA dX10_measures_165 rfl (by decide) rfl rfl ?_
            refine q_goto (tgt := 96) hA dX10_measures_168 (by decide) ?_
            refine q_fgt (lo2 := [vR 283, vI p, vI 1, vI k, vI is_, vI (m + 1), vN]) hA ⟨Or.inr rfl, Or.inr rfl, Or.inr rfl, Or.inr rfl, Or.inr rfl, Or.inr rfl, Or.inl rfl, trivial⟩ ?_
            exact ih _ _ _ (by omega) (by omega) (by exact hst.1) (by intro h; first | (exfalso; omega) | (rw [hst.2.2.1 (by omega)]; exact hfx (by omega))) (by intro h hz n n0 n1 nb; first | (exfalso; omega) | (rw [hst.2.2.1 (by omega)]; by_cases q : n = m; (subst q; unfold cstL at ev; rw [if_neg (by omega)] at ev; omega); exact hfm (by omega) hz n n0 (by omega) nb)) (by omega) (by exact fun c hc => (hst.2.2.2 c hc).trans (hf c hc)) (by omega)
          · refine q_iload (j := 6) hA rfl dX10_measures_153 ?_
            refine q_goto (tgt := 164) hA dX10_measures_155 (by decide) ?_
            refine q_iast hA dX10_measures_164 sx_292 (by omega) (by decide) ?_
            refine q_nmD (fun W eW => ?_)
            have hW : (v < E 292 k ∧ W = upD E 292 k v) ∨ (¬ v < E 292 k ∧ W = E) := by first | exact Or.inl ⟨by omega, eW⟩ | exact Or.inr ⟨by omega, eW.trans upD_id⟩
            have hst := me_step (c := 292) (by omega) hok2 hI (by omega) (by omega) ev hW
            have hsW := hst.2.1.1
            have hsW2 := hst.2.1.2
            refine q_iinc (j := 5) (lo2 := [vR 283, vI p, vI 1, vI k, vI is_, vI (m + 1), vI v]) hA dX10_measures_165 rfl (by decide) rfl rfl ?_
            refine q_goto (tgt := 96) hA dX10_measures_168 (by decide) ?_
            refine q_fgt (lo2 := [vR 283, vI p, vI 1, vI k, vI is_, vI (m + 1), vN]) hA ⟨Or.inr rfl, Or.inr rfl, Or.inr rfl, Or.inr rfl, Or.inr rfl, Or.inr rfl, Or.inl rfl, trivial⟩ ?_
            exact ih _ _ _ (by omega) (by omega) (by exact hst.1) (by intro h; first | (exfalso; omega) | (rw [hst.2.2.1 (by omega)]; exact hfx (by omega))) (by intro h hz n n0 n1 nb; first | (exfalso; omega) | (rw [hst.2.2.1 (by omega)]; by_cases q : n = m; (subst q; unfold cstL at ev; rw [if_neg (by omega)] at ev; omega); exact hfm (by omega) hz n n0 (by omega) nb)) (by omega) (by exact fun c hc => (hst.2.2.2 c hc).trans (hf c hc)) (by omega)
        · refine q_iload (j := 6) hA rfl dX10_measures_120 ?_
          refine q_aload_n (j := 0) hA rfl dX10_measures_122 ?_
          refine q_getR hA f_X10_35 dX10_measures_123 sx_283 (by decide) fx_283_11 ?_
          refine q_iload_n (j := 3) hA rfl dX10_measures_126 ?_
          refine q_iald (x := E 292 k) hA dX10_measures_127 sx_292 (by omega) (by decide) rfl ?_
          refine q_icmp_ge (tgt := 135) hA (by omega) (by omega) dX10_measures_128 (by decide) (fun h128 => ?_) (fun h128 => ?_)
          · refine q_iconst hA dX10_measures_135 ?_
            refine q_istore_n (j := 2) (lo2 := [vR 283, vI p, vI 0, vI k, vI is_, vI m, vI v]) hA dX10_measures_136 (by decide) rfl rfl ?_
            refine q_aload_n (j := 0) hA rfl dX10_measures_137 ?_
            refine q_getR hA f_X10_35 dX10_measures_138 sx_283 (by decide) fx_283_11 ?_
            refine q_iload_n (j := 3) hA rfl dX10_measures_141 ?_
            refine q_iload (j := 6) hA rfl dX10_measures_142 ?_
            refine q_aload_n (j := 0) hA rfl dX10_measures_144 ?_
            refine q_getR hA f_X10_35 dX10_measures_145 sx_283 (by decide) fx_283_11 ?_
            refine q_iload_n (j := 3) hA rfl dX10_measures_148 ?_
            refine q_iald (x := E 292 k) hA dX10_measures_149 sx_292 (by omega) (by decide) rfl ?_
            refine q_icmp_ge (tgt := 158) hA (by omega) (by omega) dX10_measures_150 (by decide) (fun h150 => ?_) (fun h150 => ?_)
            · refine q_aload_n (j := 0) hA rfl dX10_measures_158 ?_
              refine q_getR hA f_X10_35 dX10_measures_159 sx_283 (by decide) fx_283_11 ?_
              refine q_iload_n (j := 3) hA rfl dX10_measures_162 ?_
              refine q_iald (x := E 292 k) hA dX10_measures_163 sx_292 (by omega) (by decide) rfl ?_
              refine q_iast hA dX10_measures_164 sx_292 (by omega) (by decide) ?_
              refine q_nmD (fun W eW => ?_)
              have hW : (v < E 292 k ∧ W = upD E 292 k v) ∨ (¬ v < E 292 k ∧ W = E) := by first | exact Or.inl ⟨by omega, eW⟩ | exact Or.inr ⟨by omega, eW.trans upD_id⟩
              have hst := me_step (c := 292) (by omega) hok2 hI (by omega) (by omega) ev hW
              have hsW := hst.2.1.1
              have hsW2 := hst.2.1.2
              refine q_iinc (j := 5) (lo2 := [vR 283, vI p, vI 0, vI k, vI is_, vI (m + 1), vI v]) hA dX10_measures_165 rfl (by decide) rfl rfl ?_
              refine q_goto (tgt := 96) hA dX10_measures_168 (by decide) ?_
              refine q_fgt (lo2 := [vR 283, vI p, vI 0, vI k, vI is_, vI (m + 1), vN]) hA ⟨Or.inr rfl, Or.inr rfl, Or.inr rfl, Or.inr rfl, Or.inr rfl, Or.inr rfl, Or.inl rfl, trivial⟩ ?_
              exact ih _ _ _ (by omega) (by omega) (by exact hst.1) (by intro h; first | (exfalso; omega) | (rw [hst.2.2.1 (by omega)]; exact hfx (by omega))) (by intro h hz n n0 n1 nb; first | (exfalso; omega) | (rw [hst.2.2.1 (by omega)]; by_cases q : n = m; (subst q; unfold cstL at ev; rw [if_neg (by omega)] at ev; omega); exact hfm (by omega) hz n n0 (by omega) nb)) (by omega) (by exact fun c hc => (hst.2.2.2 c hc).trans (hf c hc)) (by omega)
            · refine q_iload (j := 6) hA rfl dX10_measures_153 ?_
              refine q_goto (tgt := 164) hA dX10_measures_155 (by decide) ?_
              refine q_iast hA dX10_measures_164 sx_292 (by omega) (by decide) ?_
              refine q_nmD (fun W eW => ?_)
              have hW : (v < E 292 k ∧ W = upD E 292 k v) ∨ (¬ v < E 292 k ∧ W = E) := by first | exact Or.inl ⟨by omega, eW⟩ | exact Or.inr ⟨by omega, eW.trans upD_id⟩
              have hst := me_step (c := 292) (by omega) hok2 hI (by omega) (by omega) ev hW
              have hsW := hst.2.1.1
              have hsW2 := hst.2.1.2
              refine q_iinc (j := 5) (lo2 := [vR 283, vI p, vI 0, vI k, vI is_, vI (m + 1), vI v]) hA dX10_measures_165 rfl (by decide) rfl rfl ?_
              refine q_goto (tgt := 96) hA dX10_measures_168 (by decide) ?_
              refine q_fgt (lo2 := [vR 283, vI p, vI 0, vI k, vI is_, vI (m + 1), vN]) hA ⟨Or.inr rfl, Or.inr rfl, Or.inr rfl, Or.inr rfl, Or.inr rfl, Or.inr rfl, Or.inl rfl, trivial⟩ ?_
              exact ih _ _ _ (by omega) (by omega) (by exact hst.1) (by intro h; first | (exfalso; omega) | (rw [hst.2.2.1 (by omega)]; exact hfx (by omega))) (by intro h hz n n0 n1 nb; first | (exfalso; omega) | (rw [hst.2.2.1 (by omega)]; by_cases q : n = m; (subst q; unfold cstL at ev; rw [if_neg (by omega)] at ev; omega); exact hfm (by omega) hz n n0 (by omega) nb)) (by omega) (by exact fun c hc => (hst.2.2.2 c hc).trans (hf c hc)) (by omega)
          · refine q_iconst hA dX10_measures_131 ?_
            refine q_goto (tgt := 136) hA dX10_measures_132 (by decide) ?_
            refine q_istore_n (j := 2) (lo2 := [vR 283, vI p, vI 1, vI k, vI is_, vI m, vI v]) hA dX10_measures_136 (by decide) rfl rfl ?_
            refine q_aload_n (j := 0) hA rfl dX10_measures_137 ?_
            refine q_getR hA f_X10_35 dX10_measures_138 sx_283 (by decide) fx_283_11 ?_
            refine q_iload_n (j := 3) hA rfl dX10_measures_141 ?_
            refine q_iload (j := 6) hA rfl dX10_measures_142 ?_
            refine q_aload_n (j := 0) hA rfl dX10_measures_144 ?_
            refine q_getR hA f_X10_35 dX10_measures_145 sx_283 (by decide) fx_283_11 ?_
            refine q_iload_n (j := 3) hA rfl dX10_measures_148 ?_
            refine q_iald (x := E 292 k) hA dX10_measures_149 sx_292 (by omega) (by decide) rfl ?_
            refine q_icmp_ge (tgt := 158) hA (by omega) (by omega) dX10_measures_150 (by decide) (fun h150 => ?_) (fun h150 => ?_)
            · refine q_aload_n (j := 0) hA rfl dX10_measures_158 ?_
              refine q_getR hA f_X10_35 dX10_measures_159 sx_283 (by decide) fx_283_11 ?_
              refine q_iload_n (j := 3) hA rfl dX10_measures_162 ?_
              refine q_iald (x := E 292 k) hA dX10_measures_163 sx_292 (by omega) (by decide) rfl ?_
              refine q_iast hA dX10_measures_164 sx_292 (by omega) (by decide) ?_
              refine q_nmD (fun W eW => ?_)
              have hW : (v < E 292 k ∧ W = upD E 292 k v) ∨ (¬ v < E 292 k ∧ W = E) := by first | exact Or.inl ⟨by omega, eW⟩ | exact Or.inr ⟨by omega, eW.trans upD_id⟩
              have hst := me_step (c := 292) (by omega) hok2 hI (by omega) (by omega) ev hW
              have hsW := hst.2.1.1
              have hsW2 := hst.2.1.2
              refine q_iinc (j := 5) (lo2 := [vR 283, vI p, vI 1, vI k, vI is_, vI (m + 1), vI v]) hA dX10_measures_165 rfl (by decide) rfl rfl ?_
              refine q_goto (tgt := 96) hA dX10_measures_168 (by decide) ?_
              refine q_fgt (lo2 := [vR 283, vI p, vI 1, vI k, vI is_, vI (m + 1), vN]) hA ⟨Or.inr rfl, Or.inr rfl, Or.inr rfl, Or.inr rfl, Or.inr rfl, Or.inr rfl, Or.inl rfl, trivial⟩ ?_
              exact ih _ _ _ (by omega) (by omega) (by exact hst.1) (by intro h; first | (exfalso; omega) | (rw [hst.2.2.1 (by omega)]; exact hfx (by omega))) (by intro h hz n n0 n1 nb; first | (exfalso; omega) | (rw [hst.2.2.1 (by omega)]; by_cases q : n = m; (subst q; unfold cstL at ev; rw [if_neg (by omega)] at ev; omega); exact hfm (by omega) hz n n0 (by omega) nb)) (by omega) (by exact fun c hc => (hst.2.2.2 c hc).trans (hf c hc)) (by omega)
            · refine q_iload (j := 6) hA rfl dX10_measures_153 ?_
              refine q_goto (tgt := 164) hA dX10_measures_155 (by decide) ?_
              refine q_iast hA dX10_measures_164 sx_292 (by omega) (by decide) ?_
              refine q_nmD (fun W eW => ?_)
              have hW : (v < E 292 k ∧ W = upD E 292 k v) ∨ (¬ v < E 292 k ∧ W = E) := by first | exact Or.inl ⟨by omega, eW⟩ | exact Or.inr ⟨by omega, eW.trans upD_id⟩
              have hst := me_step (c := 292) (by omega) hok2 hI (by omega) (by omega) ev hW
              have hsW := hst.2.1.1
              have hsW2 := hst.2.1.2
              refine q_iinc (j := 5) (lo2 := [vR 283, vI p, vI 1, vI k, vI is_, vI (m + 1), vI v]) hA dX10_measures_165 rfl (by decide) rfl rfl ?_
              refine q_goto (tgt := 96) hA dX10_measures_168 (by decide) ?_
              refine q_fgt (lo2 := [vR 283, vI p, vI 1, vI k, vI is_, vI (m + 1), vN]) hA ⟨Or.inr rfl, Or.inr rfl, Or.inr rfl, Or.inr rfl, Or.inr rfl, Or.inr rfl, Or.inl rfl, trivial⟩ ?_
              exact ih _ _ _ (by omega) (by omega) (by exact hst.1) (by intro h; first | (exfalso; omega) | (rw [hst.2.2.1 (by omega)]; exact hfx (by omega))) (by intro h hz n n0 n1 nb; first | (exfalso; omega) | (rw [hst.2.2.1 (by omega)]; by_cases q : n = m; (subst q; unfold cstL at ev; rw [if_neg (by omega)] at ev; omega); exact hfm (by omega) hz n n0 (by omega) nb)) (by omega) (by exact fun c hc => (hst.2.2.2 c hc).trans (hf c hc)) (by omega)
set_option maxHeartbeats 4000000 in
set_option maxRecDepth 100000 in
theorem zX10_measures_L44 {g : Gm} {l : Launch} {D : Dat} (hgd : gdR (rowM D 284 0)) (hlb : ∀ p q : Int, 0 ≤ p → p < D 284 0 → 0 ≤ q → q < 8 → tb (D 284 (44 + p)) q = true → q < D 284 0) {p : Int} (hp : 0 ≤ p ∧ p < 8)  (S : Int) {J : JT} (hA : AX g l RX10 cX10_measures 7 6 J) (hR : ReV cX10_measures (fun D1 => mDist (rowM D 284 0) p 1000 100000000 (D1 292) ∧ ∀ c, c ≠ 292 → D1 c = D c) J) (hx : ∀ (mo : Int) (k : Int) (E : Dat), (0 ≤ k ∧ k ≤ 64) → (mo = 0 ∨ mo = 1) → (meI (rowM D 284 0) p 1000 100000000 (E 292)) → (mo = 0 → ∀ z : Int, zOk (rowM D 284 0) z → z < k → meF (rowM D 284 0) 1000 (E 292) z) → (sumI (E 292) 64 + mo ≤ S) → (∀ c, c ≠ 292 → E c = D c) → (k = 64) → J 177 [vR 283, vI p, vI mo, vI k, vN, vN, vN] [] E) : ∀ (fuel : Nat) (mo : Int) (k : Int) (E : Dat), (0 ≤ k ∧ k ≤ 64) → (mo = 0 ∨ mo = 1) → (meI (rowM D 284 0) p 1000 100000000 (E 292)) → (mo = 0 → ∀ z : Int, zOk (rowM D 284 0) z → z < k → meF (rowM D 284 0) 1000 (E 292) z) → (sumI (E 292) 64 + mo ≤ S) → (∀ c, c ≠ 292 → E c = D c) → 64 - k < (fuel : Int) → J 44 [vR 283, vI p, vI mo, vI k, vN, vN, vN] [] E := by
  intro fuel
  induction fuel with
  | zero => intro mo k E hk hmo hI hfx hS hf hMs; exact absurd hMs (by omega)
  | succ fuel ih =>
    intro mo k E hk hmo hI hfx hS hf hMs
    have hn8 := hgd.1.2.1.2.1
    have hok2 : rOk (rowM D 284 0) := hgd.1.2.1
    have eR : rowM E 284 0 = (rowM D 284 0) := rowM_c (hf 284 (by omega))
    have hgE := gd_c hgd eR
    have hokE := gd_o hgE
    have e84 : E 284 = D 284 := hf 284 (by omega)
    refine q_iload_n (j := 3) hA rfl dX10_measures_44 ?_
    refine q_bipush hA (by decide) dX10_measures_45 ?_
    refine q_icmp_ge (tgt := 177) hA (by omega) (by omega) dX10_measures_47 (by decide) (fun h47 => ?_) (fun h47 => ?_)
    · exact hx _ _ _ hk hmo hI hfx hS hf (by omega)
    · have hnE := hokE.n
      have hatE := hokE.at (p := k / 8) (by omega)
      refine q_iload_n (j := 3) hA rfl dX10_measures_50 ?_
      refine q_bipush hA (by decide) dX10_measures_51 ?_
      refine q_idiv hA (by omega) (by omega) dX10_measures_53 ?_
      refine q_aload_n (j := 0) hA rfl dX10_measures_54 ?_
      refine q_getR hA f_X10_7 dX10_measures_55 sx_283 (by decide) fx_283_0 ?_
      refine q_iconst hA dX10_measures_58 ?_
      refine q_iald (x := E 284 0) hA dX10_measures_59 sx_284 (by omega) (by decide) rfl ?_
      refine q_icmp_ge (tgt := 90) hA (by omega) (by omega) dX10_measures_60 (by decide) (fun h60 => ?_) (fun h60 => ?_)
      · have hzn : ¬ zOk (rowM D 284 0) k := by rintro ⟨z1, z2, z3, z4⟩; rw [mN, ← e84] at z2; first | (exfalso; omega) | (rw [mL (by omega), ← e84] at z4; rw [if_pos z4] at h83; exact h83 rfl)
        refine q_iconst hA dX10_measures_90 ?_
        refine q_nmI (fun is_ eis_ => ?_)
        refine q_istore (j := 4) (lo2 := [vR 283, vI p, vI mo, vI k, vI is_, vN, vN]) hA dX10_measures_91 (by decide) rfl rfl ?_
        have his : (is_ = 1 ∧ zOk (rowM D 284 0) k) ∨ (is_ = 0 ∧ ¬ zOk (rowM D 284 0) k) := by first | exact Or.inl ⟨eis_, hzt⟩ | exact Or.inr ⟨eis_, hzn⟩
        refine q_iconst hA dX10_measures_93 ?_
        refine q_istore (j := 5) (lo2 := [vR 283, vI p, vI mo, vI k, vI is_, vI 0, vN]) hA dX10_measures_94 (by decide) rfl rfl ?_
        refine zX10_measures_L96 (D := D) (p := p) hgd hlb hp S (by omega) his hA hR (fun mo m E hm hmo hI hfx hfm hS hf hx => ?_) 1000 _ _ _ (by omega) (by exact hmo) (by exact hI) (by exact hfx) (by intro _ _ n n0 n1; omega) (by exact hS) (by exact hf) (by omega)
        refine q_iinc (j := 3) (lo2 := [vR 283, vI p, vI mo, vI (k + 1), vI is_, vI m, vN]) hA dX10_measures_171 rfl (by decide) rfl rfl ?_
        refine q_goto (tgt := 44) hA dX10_measures_174 (by decide) ?_
        refine q_fgt (lo2 := [vR 283, vI p, vI mo, vI (k + 1), vN, vN, vN]) hA ⟨Or.inr rfl, Or.inr rfl, Or.inr rfl, Or.inr rfl, Or.inl rfl, Or.inl rfl, Or.inr rfl, trivial⟩ ?_
        exact ih _ _ _ (by omega) (by exact hmo) (by exact hI) (by intro h z hz h2; by_cases q : z = k; (subst q; exact fun m m0 m1 => (hfm h hz m m0 (by rcases hx with q | q; (rcases his with w | w; omega; exact absurd hz w.2); omega))); exact hfx h z hz (by omega)) (by exact hS) (by exact hf) (by omega)
      · refine q_aload_n (j := 0) hA rfl dX10_measures_63 ?_
        refine q_getR hA f_X10_7 dX10_measures_64 sx_283 (by decide) fx_283_0 ?_
        refine q_bipush hA (by decide) dX10_measures_67 ?_
        refine q_iload_n (j := 3) hA rfl dX10_measures_69 ?_
        refine q_bipush hA (by decide) dX10_measures_70 ?_
        refine q_idiv hA (by omega) (by omega) dX10_measures_72 ?_
        refine q_iadd hA dX10_measures_73 ?_
        refine q_iald (x := E 284 (44 + (k / 8))) hA dX10_measures_74 sx_284 (by omega) (by decide) rfl ?_
        refine q_iload_n (j := 3) hA rfl dX10_measures_75 ?_
        refine q_bipush hA (by decide) dX10_measures_76 ?_
        refine q_irem hA (by omega) (by omega) dX10_measures_78 ?_
        refine q_ishr hA dX10_measures_79 ?_
        refine q_iconst hA dX10_measures_80 ?_
        refine q_iand hA dX10_measures_81 ?_
        rw [show iAnd (iShr (E 284 (44 + (k / 8))) (k % 8)) 1 = if tb (E 284 (44 + k / 8)) (k % 8) then 1 else 0 from bitT (by omega) (by omega)]
        refine q_iconst hA dX10_measures_82 ?_
        refine q_icmp_ne (tgt := 90) hA (by split <;> omega) (by omega) dX10_measures_83 (by decide) (fun h83 => ?_) (fun h83 => ?_)
        · have hzn : ¬ zOk (rowM D 284 0) k := by rintro ⟨z1, z2, z3, z4⟩; rw [mN, ← e84] at z2; first | (exfalso; omega) | (rw [mL (by omega), ← e84] at z4; rw [if_pos z4] at h83; exact h83 rfl)
          refine q_iconst hA dX10_measures_90 ?_
          refine q_nmI (fun is_ eis_ => ?_)
          refine q_istore (j := 4) (lo2 := [vR 283, vI p, vI mo, vI k, vI is_, vN, vN]) hA dX10_measures_91 (by decide) rfl rfl ?_
          have his : (is_ = 1 ∧ zOk (rowM D 284 0) k) ∨ (is_ = 0 ∧ ¬ zOk (rowM D 284 0) k) := by first | exact Or.inl ⟨eis_, hzt⟩ | exact Or.inr ⟨eis_, hzn⟩
          refine q_iconst hA dX10_measures_93 ?_
          refine q_istore (j := 5) (lo2 := [vR 283, vI p, vI mo, vI k, vI is_, vI 0, vN]) hA dX10_measures_94 (by decide) rfl rfl ?_
          refine zX10_measures_L96 (D := D) (p := p) hgd hlb hp S (by omega) his hA hR (fun mo m E hm hmo hI hfx hfm hS hf hx => ?_) 1000 _ _ _ (by omega) (by exact hmo) (by exact hI) (by exact hfx) (by intro _ _ n n0 n1; omega) (by exact hS) (by exact hf) (by omega)
          refine q_iinc (j := 3) (lo2 := [vR 283, vI p, vI mo, vI (k + 1), vI is_, vI m, vN]) hA dX10_measures_171 rfl (by decide) rfl rfl ?_
          refine q_goto (tgt := 44) hA dX10_measures_174 (by decide) ?_
          refine q_fgt (lo2 := [vR 283, vI p, vI mo, vI (k + 1), vN, vN, vN]) hA ⟨Or.inr rfl, Or.inr rfl, Or.inr rfl, Or.inr rfl, Or.inl rfl, Or.inl rfl, Or.inr rfl, trivial⟩ ?_
          exact ih _ _ _ (by omega) (by exact hmo) (by exact hI) (by intro h z hz h2; by_cases q : z = k; (subst q; exact fun m m0 m1 => (hfm h hz m m0 (by rcases hx with q | q; (rcases his with w | w; omega; exact absurd hz w.2); omega))); exact hfx h z hz (by omega)) (by exact hS) (by exact hf) (by omega)
        · have hzt : zOk (rowM D 284 0) k := by
              have hbt : tb (E 284 (44 + k / 8)) (k % 8) = true := by revert h83; cases tb (E 284 (44 + k / 8)) (k % 8) <;> simp
              have hq := hlb (k / 8) (k % 8) (by omega) (by rw [← e84]; omega) (by omega) (by omega) (by rw [← e84]; exact hbt)
              exact ⟨by omega, by rw [mN, ← e84]; omega, by rw [mN]; omega, by rw [mL (by omega), ← e84]; exact hbt⟩
          refine q_iconst hA dX10_measures_86 ?_
          refine q_goto (tgt := 91) hA dX10_measures_87 (by decide) ?_
          refine q_nmI (fun is_ eis_ => ?_)
          refine q_istore (j := 4) (lo2 := [vR 283, vI p, vI mo, vI k, vI is_, vN, vN]) hA dX10_measures_91 (by decide) rfl rfl ?_
          have his : (is_ = 1 ∧ zOk (rowM D 284 0) k) ∨ (is_ = 0 ∧ ¬ zOk (rowM D 284 0) k) := by first | exact Or.inl ⟨eis_, hzt⟩ | exact Or.inr ⟨eis_, hzn⟩
          refine q_iconst hA dX10_measures_93 ?_
          refine q_istore (j := 5) (lo2 := [vR 283, vI p, vI mo, vI k, vI is_, vI 0, vN]) hA dX10_measures_94 (by decide) rfl rfl ?_
          refine zX10_measures_L96 (D := D) (p := p) hgd hlb hp S (by omega) his hA hR (fun mo m E hm hmo hI hfx hfm hS hf hx => ?_) 1000 _ _ _ (by omega) (by exact hmo) (by exact hI) (by exact hfx) (by intro _ _ n n0 n1; omega) (by exact hS) (by exact hf) (by omega)
          refine q_iinc (j := 3) (lo2 := [vR 283, vI p, vI mo, vI (k + 1), vI is_, vI m, vN]) hA dX10_measures_171 rfl (by decide) rfl rfl ?_
          refine q_goto (tgt := 44) hA dX10_measures_174 (by decide) ?_
          refine q_fgt (lo2 := [vR 283, vI p, vI mo, vI (k + 1), vN, vN, vN]) hA ⟨Or.inr rfl, Or.inr rfl, Or.inr rfl, Or.inr rfl, Or.inl rfl, Or.inl rfl, Or.inr rfl, trivial⟩ ?_
          exact ih _ _ _ (by omega) (by exact hmo) (by exact hI) (by intro h z hz h2; by_cases q : z = k; (subst q; exact fun m m0 m1 => (hfm h hz m m0 (by rcases hx with q | q; (rcases his with w | w; omega; exact absurd hz w.2); omega))); exact hfx h z hz (by omega)) (by exact hS) (by exact hf) (by omega)
set_option maxHeartbeats 4000000 in
set_option maxRecDepth 100000 in
theorem zX10_measures_L36 {g : Gm} {l : Launch} {D : Dat} (hgd : gdR (rowM D 284 0)) (hlb : ∀ p q : Int, 0 ≤ p → p < D 284 0 → 0 ≤ q → q < 8 → tb (D 284 (44 + p)) q = true → q < D 284 0) {p : Int} (hp : 0 ≤ p ∧ p < 8)   {J : JT} (hA : AX g l RX10 cX10_measures 7 6 J) (hR : ReV cX10_measures (fun D1 => mDist (rowM D 284 0) p 1000 100000000 (D1 292) ∧ ∀ c, c ≠ 292 → D1 c = D c) J) : ∀ (fuel : Nat) (mo : Int) (E : Dat), (mo = 0 ∨ mo = 1) → (meI (rowM D 284 0) p 1000 100000000 (E 292)) → (mo = 0 → ∀ z : Int, zOk (rowM D 284 0) z → meF (rowM D 284 0) 1000 (E 292) z) → (∀ c, c ≠ 292 → E c = D c) → sumI (E 292) 64 + mo < (fuel : Int) → J 36 [vR 283, vI p, vI mo, vN, vN, vN, vN] [] E := by
  intro fuel
  induction fuel with
  | zero => intro mo E hmo hI hfx hf hMs; exact absurd hMs (by have := sumI_le (f := E 292) 64 (fun i h0 h1 => hI.1 i h0 (by omega)); omega)
  | succ fuel ih =>
    intro mo E hmo hI hfx hf hMs
    have hsm := sumI_le (f := E 292) 64 (fun i h0 h1 => hI.1 i h0 (by omega))
    refine q_iload_n (j := 2) hA rfl dX10_measures_36 ?_
    refine q_if_eq (tgt := 180) hA (by omega) dX10_measures_37 (by decide) (fun h37 => ?_) (fun h37 => ?_)
    · exact hR 180 _ _ dX10_measures_180 ⟨⟨hI, hfx (by omega)⟩, hf⟩
    · refine q_iconst hA dX10_measures_40 ?_
      refine q_istore_n (j := 2) (lo2 := [vR 283, vI p, vI 0, vN, vN, vN, vN]) hA dX10_measures_41 (by decide) rfl rfl ?_
      refine q_iconst hA dX10_measures_42 ?_
      refine q_istore_n (j := 3) (lo2 := [vR 283, vI p, vI 0, vI 0, vN, vN, vN]) hA dX10_measures_43 (by decide) rfl rfl ?_
      refine zX10_measures_L44 (D := D) (p := p) hgd hlb hp (sumI (E 292) 64) hA hR (fun mo k E hk hmo hI hfx hS hf hx => ?_) 1000 _ _ _ (by omega) (by omega) (by exact hI) (by intro _ z hz h; have := hz.1; omega) (by omega) (by exact hf) (by omega)
      refine q_goto (tgt := 36) hA dX10_measures_177 (by decide) ?_
      refine q_fgt (lo2 := [vR 283, vI p, vI mo, vN, vN, vN, vN]) hA ⟨Or.inr rfl, Or.inr rfl, Or.inr rfl, Or.inl rfl, Or.inr rfl, Or.inr rfl, Or.inr rfl, trivial⟩ ?_
      exact ih _ _ (by omega) (by exact hI) (by intro h z hz; exact hfx h z hz (by have := hz.1; omega)) (by exact hf) (by omega)
set_option maxHeartbeats 4000000 in
set_option maxRecDepth 100000 in
theorem zX10_measures {g : Gm} {l : Launch} {D : Dat} (hgd : gdR (rowM D 284 0)) (hlb : ∀ p q : Int, 0 ≤ p → p < D 284 0 → 0 ≤ q → q < 8 → tb (D 284 (44 + p)) q = true → q < D 284 0) {p : Int} (hp : 0 ≤ p ∧ p < 8) : CrV g l 6 mX10_measures [vR 283, vI p] D (fun D1 => mDist (rowM D 284 0) p 1000 100000000 (D1 292) ∧ ∀ c, c ≠ 292 → D1 c = D c) := by
  refine Cr.ofV (lo0 := [vR 283, vI p, vN, vN, vN, vN, vN]) (by decide) (Nat.le_of_ble_eq_true rfl) rfl (fun J hA hR => ?_)
  refine q_iconst hA dX10_measures_0 ?_
  refine q_istore_n (j := 2) (lo2 := [vR 283, vI p, vI 0, vN, vN, vN, vN]) hA dX10_measures_1 (by decide) rfl rfl ?_
  refine zX10_measures_L2 (D := D) (p := p) hgd hlb hp  hA hR (fun k E hk he hf hx => ?_) 1000 _ _ (by omega) (by intro i i1 i2; omega) (by exact fun _ _ => rfl) (by omega)
  refine q_iconst hA dX10_measures_34 ?_
  refine q_istore_n (j := 2) (lo2 := [vR 283, vI p, vI 1, vN, vN, vN, vN]) hA dX10_measures_35 (by decide) rfl rfl ?_
  refine zX10_measures_L36 (D := D) (p := p) hgd hlb hp  hA hR 10000000000 _ _ (by omega) (by exact me_0 (by omega) (fun z z0 z1 => he z z0 (by omega))) (by intro h; omega) (by exact hf) (by have := sumI_le (f := E 292) (B := 100000000) 64 (fun i h0 h1 => by rw [he i h0 (by omega)]; split <;> omega); omega)
set_option maxHeartbeats 4000000 in
set_option maxRecDepth 100000 in
theorem zX10_way_L85 {g : Gm} {l : Launch} {D : Dat} (ho : mOk D 284) (hg0 : 0 < D 284 0 → gdR (rowM D 284 0)) (hlb0 : ∀ p q : Int, 0 ≤ p → p < D 284 0 → 0 ≤ q → q < 8 → tb (D 284 (44 + p)) q = true → q < D 284 0) {p : Int} {k : Int} (rp : -2147483648 ≤ p ∧ p ≤ 2147483647) (rk : -2147483648 ≤ k ∧ k ≤ 2147483647) {E : Dat} {al z n : Int} (hgd : gdR (rowM D 284 0)) (hmd : mDist (rowM D 284 0) p 1000 100000000 (E 292)) (hf : ∀ c, c ≠ 292 → E c = D c) (hz : zOk (rowM D 284 0) z) (hlz : 0 < E 292 z ∧ E 292 z < 100000000) {J : JT} (hA : AX g l RX10 cX10_way 7 7 J) (hR : ReI cX10_way (fun v D1 => (¬ ((0 ≤ p ∧ p < D 284 0) ∧ -2 ≤ k) ∧ v = -1 ∧ D1 = D) ∨ (((0 ≤ p ∧ p < D 284 0) ∧ -2 ≤ k) ∧ (∃ L, mDist (rowM D 284 0) p 1000 100000000 L ∧ v = wayA 1000 100000000 (rowM D 284 0) L (8 * D 284 1 + D 284 2) k) ∧ ∀ c, c ≠ 292 → D1 c = D c)) J) (hx : ∀ (m : Int), (0 ≤ m ∧ m ≤ 2) → (∀ n : Int, 0 ≤ n → n < m → cstL 1000 100000000 (rowM D 284 0) (E 292) z n ≠ E 292 z) → (True ∧ cstL 1000 100000000 (rowM D 284 0) (E 292) z m = E 292 z) → J 107 [vR 283, vI p, vI k, vI z, vI al, vI n, vI m] [] E) : ∀ (fuel : Nat) (m : Int), (0 ≤ m ∧ m ≤ 2) → (∀ n : Int, 0 ≤ n → n < m → cstL 1000 100000000 (rowM D 284 0) (E 292) z n ≠ E 292 z) → 3 - m < (fuel : Int) → J 85 [vR 283, vI p, vI k, vI z, vI al, vI n, vI m] [] E := by
  intro fuel
  induction fuel with
  | zero => intro m hm hno hMs; exact absurd hMs (by omega)
  | succ fuel ih =>
    intro m hm hno hMs
    have eR : rowM E 284 0 = (rowM D 284 0) := rowM_c (hf 284 (by omega))
    have hgE := gd_c hgd eR
    have hLz := hmd.1.1 z hz.1.1 hz.1.2
    have hz64 := hz.1
    refine q_aload_n (j := 0) hA rfl dX10_way_85 ?_
    refine q_iload_n (j := 3) hA rfl dX10_way_86 ?_
    refine q_iload (j := 6) hA rfl dX10_way_87 ?_
    refine q_callVP (b := 283) (As := [vI z, vI m]) (st := []) hA l_X10_184 kX10_costOf (zX10_costOf hgE (by rw [eR]; exact hz) (by omega)) dX10_way_89 rfl rfl sx_283 (by decide) rfl (Nat.le_of_ble_eq_true rfl) (by omega) ?_
    refine q_nmI (fun v ev => ?_)
    rw [eR] at ev
    have hvi := cst_in (r := (rowM D 284 0)) (p := p) (u := 1000) (far := 100000000) (L := E 292) (z := z) (m := m) (by omega) (by omega) hgd.1.2.1 hmd.1
    rw [← ev] at hvi
    refine q_aload_n (j := 0) hA rfl dX10_way_92 ?_
    refine q_getR hA f_X10_35 dX10_way_93 sx_283 (by decide) fx_283_11 ?_
    refine q_iload_n (j := 3) hA rfl dX10_way_96 ?_
    refine q_iald (x := E 292 z) hA dX10_way_97 sx_292 (by omega) (by decide) rfl ?_
    refine q_icmp_eq (tgt := 107) hA (by omega) (by omega) dX10_way_98 (by decide) (fun h98 => ?_) (fun h98 => ?_)
    · exact hx _ hm hno ⟨trivial, by rw [← ev]; exact h98⟩
    · refine q_iinc (j := 6) (lo2 := [vR 283, vI p, vI k, vI z, vI al, vI n, vI (m + 1)]) hA dX10_way_101 rfl (by decide) rfl rfl ?_
      refine q_goto (tgt := 85) hA dX10_way_104 (by decide) ?_
      exact ih _ (by have hex := me_ex hmd hz hlz.1 hlz.2; obtain ⟨q, q0, q1, q2, q3⟩ := hex; have : m < q := (by rcases Int.lt_trichotomy q m with w | w | w; exact absurd q3 (hno q q0 w); (subst w; exact absurd q3 (by rw [← ev]; exact h98)); exact w); omega) (by intro n n0 n1; by_cases q : n = m; (subst q; rw [← ev]; exact h98); exact hno n n0 (by omega)) (by omega)
set_option maxHeartbeats 4000000 in
set_option maxRecDepth 100000 in
theorem zX10_way_L73 {g : Gm} {l : Launch} {D : Dat} (ho : mOk D 284) (hg0 : 0 < D 284 0 → gdR (rowM D 284 0)) (hlb0 : ∀ p q : Int, 0 ≤ p → p < D 284 0 → 0 ≤ q → q < 8 → tb (D 284 (44 + p)) q = true → q < D 284 0) {p : Int} {k : Int} (rp : -2147483648 ≤ p ∧ p ≤ 2147483647) (rk : -2147483648 ≤ k ∧ k ≤ 2147483647) {E : Dat} {al : Int} (hb : ((0 ≤ p ∧ p < D 284 0) ∧ 0 ≤ k)) (hmd : mDist (rowM D 284 0) p 1000 100000000 (E 292)) (hf : ∀ c, c ≠ 292 → E c = D c) (hal : ¬ 100000000 ≤ E 292 (8 * D 284 1 + D 284 2)) {J : JT} (hA : AX g l RX10 cX10_way 7 7 J) (hR : ReI cX10_way (fun v D1 => (¬ ((0 ≤ p ∧ p < D 284 0) ∧ -2 ≤ k) ∧ v = -1 ∧ D1 = D) ∨ (((0 ≤ p ∧ p < D 284 0) ∧ -2 ≤ k) ∧ (∃ L, mDist (rowM D 284 0) p 1000 100000000 L ∧ v = wayA 1000 100000000 (rowM D 284 0) L (8 * D 284 1 + D 284 2) k) ∧ ∀ c, c ≠ 292 → D1 c = D c)) J) : ∀ (fuel : Nat) (z : Int) (n : Int), (0 ≤ n ∧ n ≤ k) → (zOk (rowM D 284 0) z) → (E 292 z < 100000000) → (wmv 1000 100000000 (rowM D 284 0) (E 292) k.toNat (8 * D 284 1 + D 284 2) = wmv 1000 100000000 (rowM D 284 0) (E 292) (k - n).toNat z) → E 292 z < (fuel : Int) → J 73 [vR 283, vI p, vI k, vI z, vI al, vI n, vN] [] E := by
  intro fuel
  induction fuel with
  | zero => intro z n hn hz hlz hw hMs; exact absurd hMs (by have := hmd.1.1 z hz.1.1 hz.1.2; omega)
  | succ fuel ih =>
    intro z n hn hz hlz hw hMs
    have hgd := hg0 (by omega)
    have eR : rowM E 284 0 = (rowM D 284 0) := rowM_c (hf 284 (by omega))
    have hgE := gd_c hgd eR
    have hLz := hmd.1.1 z hz.1.1 hz.1.2
    have hz64 := hz.1
    refine q_aload_n (j := 0) hA rfl dX10_way_73 ?_
    refine q_getR hA f_X10_35 dX10_way_74 sx_283 (by decide) fx_283_11 ?_
    refine q_iload_n (j := 3) hA rfl dX10_way_77 ?_
    refine q_iald (x := E 292 z) hA dX10_way_78 sx_292 (by omega) (by decide) rfl ?_
    refine q_if_le (tgt := 130) hA (by omega) dX10_way_79 (by decide) (fun h79 => ?_) (fun h79 => ?_)
    · refine q_bipush hA (by decide) dX10_way_130 ?_
      exact hR 132 _ _ _ dX10_way_132 (by exact Or.inr ⟨by omega, ⟨E 292, hmd, by unfold wayA; rw [if_neg hal, if_neg (by omega), if_neg (by omega)]; exact (wmv_0 hw (by omega)).symm⟩, hf⟩)
    · refine q_iconst hA dX10_way_82 ?_
      refine q_istore (j := 6) (lo2 := [vR 283, vI p, vI k, vI z, vI al, vI n, vI 0]) hA dX10_way_83 (by decide) rfl rfl ?_
      refine zX10_way_L85 (D := D) (p := p) (k := k) ho hg0 hlb0 rp rk hgd hmd hf hz (by omega) hA hR (fun m hm hno hx => ?_) 1000 _ (by omega) (by intro n n0 n1; omega) (by omega)
      have hmf := frs_eq (u := 1000) (far := 100000000) (r := (rowM D 284 0)) (L := E 292) (z := z) (m := m) (by omega) hx.2 hno
      refine q_iload (j := 5) hA rfl dX10_way_107 ?_
      refine q_iload_n (j := 2) hA rfl dX10_way_109 ?_
      refine q_icmp_ne (tgt := 116) hA (by omega) (by omega) dX10_way_110 (by decide) (fun h110 => ?_) (fun h110 => ?_)
      · refine q_aload_n (j := 0) hA rfl dX10_way_116 ?_
        refine q_iload_n (j := 3) hA rfl dX10_way_117 ?_
        refine q_iload (j := 6) hA rfl dX10_way_118 ?_
        refine q_callVP (b := 283) (As := [vI z, vI m]) (st := []) hA l_X10_180 kX10_next (zX10_next hgE (by rw [eR]; exact hz) (by omega)) dX10_way_120 rfl rfl sx_283 (by decide) rfl (Nat.le_of_ble_eq_true rfl) (by omega) ?_
        refine q_nmI (fun y ey => ?_)
        rw [eR] at ey
        have hfo := frs_ok hmd hz (by omega) hlz
        rw [← hmf, ← ey] at hfo
        have hsp := stepC_in (u := 1000) (r := (rowM D 284 0)) (z := z) (m := m) (by omega) hgd.1.2.1 (by rw [← ey]; exact hfo.2.2)
        have hzy : zOk (rowM D 284 0) y := by rcases bhR_ok (m := m) hgd.2.1 hgd.1.2.1.2.1 hz (by omega) with q | q; (have := q.1; omega); (rw [ey]; exact q)
        have hcy := hfo.2.1
        unfold cstL at hcy
        rw [← ey, if_neg (by omega)] at hcy
        refine q_istore_n (j := 3) (lo2 := [vR 283, vI p, vI k, vI y, vI al, vI n, vI m]) hA dX10_way_123 (by decide) rfl rfl ?_
        refine q_iinc (j := 5) (lo2 := [vR 283, vI p, vI k, vI y, vI al, vI (n + 1), vI m]) hA dX10_way_124 rfl (by decide) rfl rfl ?_
        refine q_goto (tgt := 73) hA dX10_way_127 (by decide) ?_
        refine q_fgt (lo2 := [vR 283, vI p, vI k, vI y, vI al, vI (n + 1), vN]) hA ⟨Or.inr rfl, Or.inr rfl, Or.inr rfl, Or.inr rfl, Or.inr rfl, Or.inr rfl, Or.inl rfl, trivial⟩ ?_
        exact ih _ _ (by omega) (by exact hzy) (by omega) (by exact wmv_s hw (by omega) (by omega) hmf ey) (by omega)
      · refine q_iload (j := 6) hA rfl dX10_way_113 ?_
        exact hR 115 _ _ _ dX10_way_115 (by exact Or.inr ⟨by omega, ⟨E 292, hmd, by unfold wayA; rw [if_neg hal, if_neg (by omega), if_neg (by omega)]; exact wmv_e hw (by omega) (by omega) hmf⟩, hf⟩)
set_option maxHeartbeats 4000000 in
set_option maxRecDepth 100000 in
theorem zX10_way {g : Gm} {l : Launch} {D : Dat} (ho : mOk D 284) (hg0 : 0 < D 284 0 → gdR (rowM D 284 0)) (hlb0 : ∀ p q : Int, 0 ≤ p → p < D 284 0 → 0 ≤ q → q < 8 → tb (D 284 (44 + p)) q = true → q < D 284 0) {p : Int} {k : Int} (rp : -2147483648 ≤ p ∧ p ≤ 2147483647) (rk : -2147483648 ≤ k ∧ k ≤ 2147483647) : CrI g l 7 mX10_way [vR 283, vI p, vI k] D (fun v D1 => (¬ ((0 ≤ p ∧ p < D 284 0) ∧ -2 ≤ k) ∧ v = -1 ∧ D1 = D) ∨ (((0 ≤ p ∧ p < D 284 0) ∧ -2 ≤ k) ∧ (∃ L, mDist (rowM D 284 0) p 1000 100000000 L ∧ v = wayA 1000 100000000 (rowM D 284 0) L (8 * D 284 1 + D 284 2) k) ∧ ∀ c, c ≠ 292 → D1 c = D c)) := by
  refine Cr.ofI (lo0 := [vR 283, vI p, vI k, vN, vN, vN, vN]) (by decide) (Nat.le_of_ble_eq_true rfl) rfl (fun J hA hR => ?_)
  have hn := ho.n
  have hf := ho.f
  have hb := ho.b
  refine q_aload_n (j := 0) hA rfl dX10_way_0 ?_
  refine q_iload_n (j := 1) hA rfl dX10_way_1 ?_
  refine q_callVB (b := 283) (As := [vI p]) (st := []) hA l_X10_136 kX10_isPicture (zX10_isPicture (by first | assumption | omega | rfl) (by first | assumption | omega | rfl)) dX10_way_2 rfl rfl sx_283 (by decide) rfl (Nat.le_of_ble_eq_true rfl) (by omega) (fun h2 => ?_) (fun h2 => ?_)
  · refine q_if_eq (tgt := 14) hA (by decide) dX10_way_5 (by decide) (fun h5 => absurd h5 (by decide)) (fun h5 => ?_)
    refine q_iload_n (j := 2) hA rfl dX10_way_8 ?_
    refine q_bipush hA (by decide) dX10_way_9 ?_
    refine q_icmp_ge (tgt := 16) hA (by omega) (by omega) dX10_way_11 (by decide) (fun h11 => ?_) (fun h11 => ?_)
    · have hgd := hg0 (by omega)
      refine q_aload_n (j := 0) hA rfl dX10_way_16 ?_
      refine q_iload_n (j := 1) hA rfl dX10_way_17 ?_
      refine q_callVV (b := 283) (As := [vI p]) (st := []) hA l_X10_187 kX10_measures (zX10_measures hgd hlb0 (by omega)) dX10_way_18 rfl rfl sx_283 (by decide) rfl (Nat.le_of_ble_eq_true rfl) (by omega) (fun D18 q18 => ?_)
      obtain ⟨hmd, hf18⟩ := q18
      have e84 : D18 284 = D 284 := hf18 284 (by omega)
      have eR : rowM D18 284 0 = (rowM D 284 0) := rowM_c e84
      have hz0 := z0_ok hgd
      have hz64 := hz0.1
      have hL0 := hmd.1.1 _ hz64.1 hz64.2
      refine q_aload_n (j := 0) hA rfl dX10_way_21 ?_
      refine q_callVP (b := 283) (As := []) (st := []) hA l_X10_177 kX10_stateNow (zX10_stateNow (gd_c hgd eR)) dX10_way_22 rfl rfl sx_283 (by decide) rfl (Nat.le_of_ble_eq_true rfl) (by omega) ?_
      refine q_nmI (fun zs ezs => ?_)
      rw [e84] at ezs
      rw [← ezs] at hz64 hL0
      refine q_istore_n (j := 3) (lo2 := [vR 283, vI p, vI k, vI zs, vN, vN, vN]) hA dX10_way_25 (by decide) rfl rfl ?_
      refine q_aload_n (j := 0) hA rfl dX10_way_26 ?_
      refine q_getR hA f_X10_35 dX10_way_27 sx_283 (by decide) fx_283_11 ?_
      refine q_iload_n (j := 3) hA rfl dX10_way_30 ?_
      refine q_iald (x := D18 292 zs) hA dX10_way_31 sx_292 (by omega) (by decide) rfl ?_
      refine q_nmI (fun al eal => ?_)
      refine q_istore (j := 4) (lo2 := [vR 283, vI p, vI k, vI zs, vI al, vN, vN]) hA dX10_way_32 (by decide) rfl rfl ?_
      rw [← eal] at hL0
      refine q_iload (j := 4) hA rfl dX10_way_34 ?_
      refine q_ldc hA c_X10_183 dX10_way_36 ?_
      refine q_icmp_lt (tgt := 44) hA (by omega) (by omega) dX10_way_38 (by decide) (fun h38 => ?_) (fun h38 => ?_)
      · refine q_iload_n (j := 2) hA rfl dX10_way_44 ?_
        refine q_if_ge (tgt := 70) hA (by omega) dX10_way_45 (by decide) (fun h45 => ?_) (fun h45 => ?_)
        · refine q_iconst hA dX10_way_70 ?_
          refine q_istore (j := 5) (lo2 := [vR 283, vI p, vI k, vI zs, vI al, vI 0, vN]) hA dX10_way_71 (by decide) rfl rfl ?_
          refine zX10_way_L73 (D := D) (p := p) (k := k) ho hg0 hlb0 rp rk (by omega) hmd hf18 (by rw [← ezs, ← eal]; omega) hA hR 100000001 _ _ (by omega) (by rw [ezs]; exact hz0) (by omega) (by rw [ezs, Int.sub_zero]) (by omega)
        · refine q_iload_n (j := 2) hA rfl dX10_way_48 ?_
          refine q_bipush hA (by decide) dX10_way_49 ?_
          refine q_icmp_ne (tgt := 63) hA (by omega) (by omega) dX10_way_51 (by decide) (fun h51 => ?_) (fun h51 => ?_)
          · refine q_iload (j := 4) hA rfl dX10_way_63 ?_
            refine q_sipush hA (by decide) dX10_way_65 ?_
            refine q_irem hA (by omega) (by omega) dX10_way_68 ?_
            exact hR 69 _ _ _ dX10_way_69 (by exact Or.inr ⟨by omega, ⟨D18 292, hmd, by unfold wayA; rw [← ezs, ← eal, if_neg (by omega)]; first | rw [if_pos (by omega)] | rw [if_neg (by omega), if_pos (by omega)]⟩, hf18⟩)
          · refine q_iload (j := 4) hA rfl dX10_way_54 ?_
            refine q_sipush hA (by decide) dX10_way_56 ?_
            refine q_idiv hA (by omega) (by omega) dX10_way_59 ?_
            refine q_goto (tgt := 69) hA dX10_way_60 (by decide) ?_
            exact hR 69 _ _ _ dX10_way_69 (by exact Or.inr ⟨by omega, ⟨D18 292, hmd, by unfold wayA; rw [← ezs, ← eal, if_neg (by omega)]; first | rw [if_pos (by omega)] | rw [if_neg (by omega), if_pos (by omega)]⟩, hf18⟩)
      · refine q_bipush hA (by decide) dX10_way_41 ?_
        exact hR 43 _ _ _ dX10_way_43 (by exact Or.inr ⟨by omega, ⟨D18 292, hmd, by unfold wayA; rw [← ezs, ← eal, if_pos (by omega)]⟩, hf18⟩)
    · refine q_iconst hA dX10_way_14 ?_
      exact hR 15 _ _ _ dX10_way_15 (by exact Or.inl ⟨by omega, rfl, rfl⟩)
  · refine q_if_eq (tgt := 14) hA (by decide) dX10_way_5 (by decide) (fun h5 => ?_) (fun h5 => absurd h5 (by decide))
    refine q_iconst hA dX10_way_14 ?_
    exact hR 15 _ _ _ dX10_way_15 (by exact Or.inl ⟨by omega, rfl, rfl⟩)
