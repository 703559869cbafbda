set_option maxHeartbeats 4000000 in
set_option maxRecDepth 100000 in
theorem zX10_round_L24 {g : Gm} {l : Launch} {D : Dat} (ho : mOk D 284) (hg0 : 0 < D 284 0 → gdR (rowM D 284 0)) {w : Int} (rw : -2147483648 ≤ w ∧ w ≤ 2147483647)  (hb : (0 ≤ w ∧ w ≤ 1) ∧ 0 < D 284 0) {J : JT} (hA : AX g l RX10 cX10_round 5 6 J) (hR : ReI cX10_round (fun v D1 => (¬ (0 ≤ w ∧ w ≤ 1) ∧ v = -1 ∧ D1 = D) ∨ ((0 ≤ w ∧ w ≤ 1) ∧ ¬ 0 < D 284 0 ∧ v = -2 ∧ D1 = D) ∨ ((0 ≤ w ∧ w ≤ 1) ∧ 0 < D 284 0 ∧ (∃ i j : Nat, isCirc (rowM D 284 0) (8 * D 284 1 + D 284 2) i j ∧ v = if w = 0 then (i : Int) else (j : Int) - i) ∧ frm 293 1 D D1)) J) (hx : ∀ (k : Int) (E : Dat), (0 ≤ k ∧ k ≤ 128) → (∀ i : Int, 0 ≤ i → i < k → E 293 i = -1) → (frm 293 1 D E) → (k = 128) → J 44 [vR 283, vI w, vI k, vN, vN] [] E) : ∀ (fuel : Nat) (k : Int) (E : Dat), (0 ≤ k ∧ k ≤ 128) → (∀ i : Int, 0 ≤ i → i < k → E 293 i = -1) → (frm 293 1 D E) → 128 - k < (fuel : Int) → J 24 [vR 283, vI w, vI k, vN, vN] [] E := by
  intro fuel
  induction fuel with
  | zero => intro k E hk he hf hMs; exact absurd hMs (by omega)
  | succ fuel ih =>
    intro k E hk he hf hMs
    refine q_iload_n (j := 2) hA rfl dX10_round_24 ?_
    refine q_sipush hA (by decide) dX10_round_25 ?_
    refine q_icmp_ge (tgt := 44) hA (by omega) (by omega) dX10_round_28 (by decide) (fun h28 => ?_) (fun h28 => ?_)
    · exact hx _ _ hk he hf (by omega)
    · refine q_aload_n (j := 0) hA rfl dX10_round_31 ?_
      refine q_getR hA f_X10_38 dX10_round_32 sx_283 (by decide) fx_283_12 ?_
      refine q_iload_n (j := 2) hA rfl dX10_round_35 ?_
      refine q_iconst hA dX10_round_36 ?_
      refine q_iast hA dX10_round_37 sx_293 (by omega) (by decide) ?_
      refine q_iinc (j := 2) (lo2 := [vR 283, vI w, vI (k + 1), vN, vN]) hA dX10_round_38 rfl (by decide) rfl rfl ?_
      refine q_goto (tgt := 24) hA dX10_round_41 (by decide) ?_
      exact ih _ _ (by omega) (by intro i i1 i2; by_cases h : i = k; (subst h; exact upD_s); (rw [upD_n (Or.inr h)]; exact he i i1 (by omega))) (by exact hf.up (by omega)) (by omega)
set_option maxHeartbeats 4000000 in
set_option maxRecDepth 100000 in
theorem zX10_round_L51 {g : Gm} {l : Launch} {D : Dat} (ho : mOk D 284) (hg0 : 0 < D 284 0 → gdR (rowM D 284 0)) {w : Int} (rw : -2147483648 ≤ w ∧ w ≤ 2147483647)  (hb : (0 ≤ w ∧ w ≤ 1) ∧ 0 < D 284 0) {J : JT} (hA : AX g l RX10 cX10_round 5 6 J) (hR : ReI cX10_round (fun v D1 => (¬ (0 ≤ w ∧ w ≤ 1) ∧ v = -1 ∧ D1 = D) ∨ ((0 ≤ w ∧ w ≤ 1) ∧ ¬ 0 < D 284 0 ∧ v = -2 ∧ D1 = D) ∨ ((0 ≤ w ∧ w ≤ 1) ∧ 0 < D 284 0 ∧ (∃ i j : Nat, isCirc (rowM D 284 0) (8 * D 284 1 + D 284 2) i j ∧ v = if w = 0 then (i : Int) else (j : Int) - i) ∧ frm 293 1 D D1)) J) : ∀ (fuel : Nat) (z : Int) (j : Int) (E : Dat), (0 ≤ j ∧ j ≤ 129) → (z = cSeq (rowM D 284 0) (8 * D 284 1 + D 284 2) j.toNat) → (∀ a : Nat, a < j.toNat → E 293 (cKey (rowM D 284 0) (8 * D 284 1 + D 284 2) a) = a) → (∀ key : Int, 0 ≤ key → key < 128 → E 293 key = -1 ∨ ∃ a : Nat, a < j.toNat ∧ cKey (rowM D 284 0) (8 * D 284 1 + D 284 2) a = key ∧ E 293 key = a) → (frm 293 1 D E) → 129 - j < (fuel : Int) → J 51 [vR 283, vI w, vI z, vI j, vN] [] E := by
  intro fuel
  induction fuel with
  | zero => intro z j E hj hzs h1 h2 hf hMs; exact absurd hMs (by omega)
  | succ fuel ih =>
    intro z j E hj hzs h1 h2 hf hMs
    have hgd := hg0 hb.2
    have hsy := hgd.2.1
    have hn8 := hgd.1.2.1.2.1
    have hz0 := z0_ok hgd
    have hzo := cSeq_ok hsy hn8 hz0 j.toNat
    rw [← hzs] at hzo
    have hz64 := hzo.1
    have eR : rowM E 284 0 = (rowM D 284 0) := rowM_c (hf 284 (by omega))
    have hky : 2 * z + j % 2 = cKey (rowM D 284 0) (8 * D 284 1 + D 284 2) j.toNat := by unfold cKey; rw [← hzs]; omega
    have hds : ∀ a b : Nat, a < b → b < j.toNat → cKey (rowM D 284 0) (8 * D 284 1 + D 284 2) a ≠ cKey (rowM D 284 0) (8 * D 284 1 + D 284 2) b := fun a b ab bj hk => by
      have q1 := h1 a (by omega)
      have q2 := h1 b bj
      rw [hk, q2] at q1
      omega
    have hj128 : j ≤ 128 := by
      rcases Int.lt_or_le 128 j with hlt | hle
      · obtain ⟨a, b, ab, b8, hk⟩ := cKey_rep hsy hn8 hz0
        exact absurd hk (hds a b ab (by omega))
      · exact hle
    have hval := h2 (2 * z + j % 2) (by omega) (by omega)
    have hvr : -4 ≤ E 293 (2 * z + j % 2) ∧ E 293 (2 * z + j % 2) ≤ 129 := by rcases hval with q | ⟨a, q1, q2, q3⟩ <;> omega
    refine q_aload_n (j := 0) hA rfl dX10_round_51 ?_
    refine q_getR hA f_X10_38 dX10_round_52 sx_283 (by decide) fx_283_12 ?_
    refine q_iconst hA dX10_round_55 ?_
    refine q_iload_n (j := 2) hA rfl dX10_round_56 ?_
    refine q_imul hA dX10_round_57 ?_
    refine q_iload_n (j := 3) hA rfl dX10_round_58 ?_
    refine q_iconst hA dX10_round_59 ?_
    refine q_irem hA (by omega) (by omega) dX10_round_60 ?_
    refine q_iadd hA dX10_round_61 ?_
    refine q_iald (x := E 293 ((2 * z) + (j % 2))) hA dX10_round_62 sx_293 (by omega) (by decide) rfl ?_
    refine q_if_ge (tgt := 94) hA (by omega) dX10_round_63 (by decide) (fun h63 => ?_) (fun h63 => ?_)
    · refine q_aload_n (j := 0) hA rfl dX10_round_94 ?_
      refine q_getR hA f_X10_38 dX10_round_95 sx_283 (by decide) fx_283_12 ?_
      refine q_iconst hA dX10_round_98 ?_
      refine q_iload_n (j := 2) hA rfl dX10_round_99 ?_
      refine q_imul hA dX10_round_100 ?_
      refine q_iload_n (j := 3) hA rfl dX10_round_101 ?_
      refine q_iconst hA dX10_round_102 ?_
      refine q_irem hA (by omega) (by omega) dX10_round_103 ?_
      refine q_iadd hA dX10_round_104 ?_
      refine q_iald (x := E 293 ((2 * z) + (j % 2))) hA dX10_round_105 sx_293 (by omega) (by decide) rfl ?_
      refine q_nmI (fun fs efs => ?_)
      refine q_istore (j := 4) (lo2 := [vR 283, vI w, vI z, vI j, vI fs]) hA dX10_round_106 (by decide) rfl rfl ?_
      refine q_iload_n (j := 1) hA rfl dX10_round_108 ?_
      refine q_if_ne (tgt := 117) hA (by omega) dX10_round_109 (by decide) (fun h109 => ?_) (fun h109 => ?_)
      · refine q_iload_n (j := 3) hA rfl dX10_round_117 ?_
        refine q_iload (j := 4) hA rfl dX10_round_118 ?_
        refine q_isub hA dX10_round_120 ?_
        exact hR 121 _ _ _ dX10_round_121 (by refine Or.inr (Or.inr ⟨hb.1, hb.2, ?_, hf⟩); rcases hval with q | ⟨a, q1, q2, q3⟩; omega; exact ⟨a, j.toNat, ⟨q1, q2.trans hky, hds⟩, by first | (rw [if_pos (by omega)]; omega) | (rw [if_neg (by omega)]; omega)⟩)
      · refine q_iload (j := 4) hA rfl dX10_round_112 ?_
        refine q_goto (tgt := 121) hA dX10_round_114 (by decide) ?_
        exact hR 121 _ _ _ dX10_round_121 (by refine Or.inr (Or.inr ⟨hb.1, hb.2, ?_, hf⟩); rcases hval with q | ⟨a, q1, q2, q3⟩; omega; exact ⟨a, j.toNat, ⟨q1, q2.trans hky, hds⟩, by first | (rw [if_pos (by omega)]; omega) | (rw [if_neg (by omega)]; omega)⟩)
    · refine q_aload_n (j := 0) hA rfl dX10_round_66 ?_
      refine q_getR hA f_X10_38 dX10_round_67 sx_283 (by decide) fx_283_12 ?_
      refine q_iconst hA dX10_round_70 ?_
      refine q_iload_n (j := 2) hA rfl dX10_round_71 ?_
      refine q_imul hA dX10_round_72 ?_
      refine q_iload_n (j := 3) hA rfl dX10_round_73 ?_
      refine q_iconst hA dX10_round_74 ?_
      refine q_irem hA (by omega) (by omega) dX10_round_75 ?_
      refine q_iadd hA dX10_round_76 ?_
      refine q_iload_n (j := 3) hA rfl dX10_round_77 ?_
      refine q_iast hA dX10_round_78 sx_293 (by omega) (by decide) ?_
      refine q_nmD (fun E2 eE2 => ?_)
      have eR2 : rowM E2 284 0 = (rowM D 284 0) := by rw [eE2, rowM_up_o (Or.inl (by omega)), eR]
      have hg2 := gd_c hgd eR2
      have hz2 : zOk (rowM E2 284 0) z := by rw [eR2]; exact hzo
      refine q_aload_n (j := 0) hA rfl dX10_round_79 ?_
      refine q_iload_n (j := 2) hA rfl dX10_round_80 ?_
      refine q_iload_n (j := 3) hA rfl dX10_round_81 ?_
      refine q_iconst hA dX10_round_82 ?_
      refine q_irem hA (by omega) (by omega) dX10_round_83 ?_
      refine q_callVP (b := 283) (As := [vI z, vI (j % 2)]) (st := []) hA l_X10_194 kX10_byTurns (zX10_byTurns hg2 hz2 (by omega)) dX10_round_84 rfl rfl sx_283 (by decide) rfl (Nat.le_of_ble_eq_true rfl) (by omega) ?_
      refine q_nmI (fun v84 ev84 => ?_)
      refine q_istore_n (j := 2) (lo2 := [vR 283, vI w, vI v84, vI j, vN]) hA dX10_round_87 (by decide) rfl rfl ?_
      refine q_iinc (j := 3) (lo2 := [vR 283, vI w, vI v84, vI (j + 1), vN]) hA dX10_round_88 rfl (by decide) rfl rfl ?_
      refine q_goto (tgt := 51) hA dX10_round_91 (by decide) ?_
      exact ih _ _ _ (by omega) (by rw [cSeq_step (by omega), ← hzs, ← eR2]; exact ev84) (by intro a ha; rw [eE2]; by_cases h : a = j.toNat; (subst h; rw [← hky, upD_s]; omega); (rw [upD_n (Or.inr (by intro hk; rw [hky] at hk; have q := h1 a (by omega); rw [hk, ← hky] at q; omega))]; exact h1 a (by omega))) (by intro key k1 k2; rw [eE2]; by_cases h : key = 2 * z + j % 2; (subst h; right; exact ⟨j.toNat, by omega, hky.symm, by rw [upD_s]; omega⟩); (rw [upD_n (Or.inr h)]; rcases h2 key k1 k2 with q | ⟨a, q1, q2, q3⟩; exact Or.inl q; exact Or.inr ⟨a, by omega, q2, q3⟩)) (by rw [eE2]; exact hf.up (by omega)) (by omega)
set_option maxHeartbeats 4000000 in
set_option maxRecDepth 100000 in
theorem zX10_round {g : Gm} {l : Launch} {D : Dat} (ho : mOk D 284) (hg0 : 0 < D 284 0 → gdR (rowM D 284 0)) {w : Int} (rw : -2147483648 ≤ w ∧ w ≤ 2147483647) : CrI g l 6 mX10_round [vR 283, vI w] D (fun v D1 => (¬ (0 ≤ w ∧ w ≤ 1) ∧ v = -1 ∧ D1 = D) ∨ ((0 ≤ w ∧ w ≤ 1) ∧ ¬ 0 < D 284 0 ∧ v = -2 ∧ D1 = D) ∨ ((0 ≤ w ∧ w ≤ 1) ∧ 0 < D 284 0 ∧ (∃ i j : Nat, isCirc (rowM D 284 0) (8 * D 284 1 + D 284 2) i j ∧ v = if w = 0 then (i : Int) else (j : Int) - i) ∧ frm 293 1 D D1)) := by
  refine Cr.ofI (lo0 := [vR 283, vI w, vN, vN, vN]) (by decide) (Nat.le_of_ble_eq_true rfl) rfl (fun J hA hR => ?_)
  have hn := ho.n
  have hf := ho.f
  have hb := ho.b
  refine q_iload_n (j := 1) hA rfl dX10_round_0 ?_
  refine q_i2l hA (by omega) dX10_round_1 ?_
  refine q_lconst hA dX10_round_2 ?_
  show J _ _ (vL 0 :: _) _
  refine q_lconst hA dX10_round_3 ?_
  show J _ _ (vL 1 :: _) _
  refine q_callSB (As := [vL w, vL 0, vL 1]) (st := []) hA l_X10_77 kX10_in (zX10_in (by first | assumption | omega | rfl) (by first | assumption | omega | rfl) (by first | assumption | omega | rfl)) dX10_round_4 rfl rfl (Nat.le_of_ble_eq_true rfl) (by omega) (fun h4 => ?_) (fun h4 => ?_)
  · refine q_if_ne (tgt := 12) hA (by decide) dX10_round_7 (by decide) (fun h7 => ?_) (fun h7 => absurd h7 (by decide))
    refine q_aload_n (j := 0) hA rfl dX10_round_12 ?_
    refine q_callVB (b := 283) (As := []) (st := []) hA l_X10_159 kX10_isThere (zX10_isThere (by first | assumption | omega | rfl)) dX10_round_13 rfl rfl sx_283 (by decide) rfl (Nat.le_of_ble_eq_true rfl) (by omega) (fun h13 => ?_) (fun h13 => ?_)
    · refine q_if_ne (tgt := 22) hA (by decide) dX10_round_16 (by decide) (fun h16 => ?_) (fun h16 => absurd h16 (by decide))
      refine q_iconst hA dX10_round_22 ?_
      refine q_istore_n (j := 2) (lo2 := [vR 283, vI w, vI 0, vN, vN]) hA dX10_round_23 (by decide) rfl rfl ?_
      refine zX10_round_L24 (D := D) (w := w) ho hg0 rw (by omega) hA hR (fun k E hk he hf hx => ?_) 1000 _ _ (by omega) (by intro i i1 i2; omega) (by exact frm.rf) (by omega)
      refine q_aload_n (j := 0) hA rfl dX10_round_44 ?_
      have hgd := hg0 h13
      have e84 : E 284 = D 284 := hf 284 (by omega)
      refine q_callVP (b := 283) (As := []) (st := []) hA l_X10_177 kX10_stateNow (zX10_stateNow (gd_c hgd (rowM_c e84))) dX10_round_45 rfl rfl sx_283 (by decide) rfl (Nat.le_of_ble_eq_true rfl) (by omega) ?_
      refine q_nmI (fun zs ezs => ?_)
      rw [e84] at ezs
      refine q_istore_n (j := 2) (lo2 := [vR 283, vI w, vI zs, vN, vN]) hA dX10_round_48 (by decide) rfl rfl ?_
      refine q_iconst hA dX10_round_49 ?_
      refine q_istore_n (j := 3) (lo2 := [vR 283, vI w, vI zs, vI 0, vN]) hA dX10_round_50 (by decide) rfl rfl ?_
      refine zX10_round_L51 (D := D) (w := w) ho hg0 rw (by omega) hA hR 1000 _ _ _ (by omega) (by exact ezs) (by intro a ha; exact absurd ha (Nat.not_lt_zero _)) (by intro key k1 k2; exact Or.inl (he key k1 (by omega))) (by exact hf) (by omega)
    · refine q_if_ne (tgt := 22) hA (by decide) dX10_round_16 (by decide) (fun h16 => absurd h16 (by decide)) (fun h16 => ?_)
      refine q_bipush hA (by decide) dX10_round_19 ?_
      exact hR 21 _ _ _ dX10_round_21 (by exact Or.inr (Or.inl ⟨h4, h13, rfl, rfl⟩))
  · refine q_if_ne (tgt := 12) hA (by decide) dX10_round_7 (by decide) (fun h7 => absurd h7 (by decide)) (fun h7 => ?_)
    refine q_iconst hA dX10_round_10 ?_
    exact hR 11 _ _ _ dX10_round_11 (by exact Or.inl ⟨h4, rfl, rfl⟩)
set_option maxHeartbeats 4000000 in
set_option maxRecDepth 100000 in
theorem zX10_log_L79 {g : Gm} {l : Launch} {D : Dat} (ho : mOk D 284) (hg0 : 0 < D 284 0 → gdR (rowM D 284 0)) {s : Int} {n : Int} {i : Int} {k : Int} (rs : -2147483648 ≤ s ∧ s ≤ 2147483647) (rn : -2147483648 ≤ n ∧ n ≤ 2147483647) (ri : -2147483648 ≤ i ∧ i ≤ 2147483647) (rk : -2147483648 ≤ k ∧ k ≤ 2147483647) (hla : ∀ j : Int, 0 ≤ j → j ≤ 3 → (-1 ≤ D 295 j ∧ D 295 j ≤ 3) ∧ (0 ≤ D 296 j ∧ D 296 j ≤ 24)) {y : Int} (hb : (((0 ≤ s ∧ s ≤ 3) ∧ (0 ≤ n ∧ n ≤ 3)) ∧ (1 ≤ k ∧ k ≤ 24)) ∧ refS (D 295 s) (D 296 s) n i k = 0 ∧ 0 < D 284 0) {J : JT} (hA : AX g l RX10 cX10_log 8 6 J) (hR : ReI cX10_log (fun v D1 => (¬ (((0 ≤ s ∧ s ≤ 3) ∧ (0 ≤ n ∧ n ≤ 3)) ∧ (1 ≤ k ∧ k ≤ 24)) ∧ v = -1 ∧ D1 = D) ∨ ((((0 ≤ s ∧ s ≤ 3) ∧ (0 ≤ n ∧ n ≤ 3)) ∧ (1 ≤ k ∧ k ≤ 24)) ∧ refS (D 295 s) (D 296 s) n i k < 0 ∧ v = refS (D 295 s) (D 296 s) n i k ∧ D1 = D) ∨ ((((0 ≤ s ∧ s ≤ 3) ∧ (0 ≤ n ∧ n ≤ 3)) ∧ (1 ≤ k ∧ k ≤ 24)) ∧ refS (D 295 s) (D 296 s) n i k = 0 ∧ ¬ 0 < D 284 0 ∧ v = -2 ∧ D1 = D) ∨ ((((0 ≤ s ∧ s ≤ 3) ∧ (0 ≤ n ∧ n ≤ 3)) ∧ (1 ≤ k ∧ k ≤ 24)) ∧ refS (D 295 s) (D 296 s) n i k = 0 ∧ 0 < D 284 0 ∧ v = k ∧ logM D D1 (rowM D 284 0) (8 * D 284 1 + D 284 2) (24 * s + i) k)) J) : ∀ (fuel : Nat) (z : Int) (j : Int) (E : Dat), (0 ≤ j ∧ j ≤ k) → (z = cSeq (rowM D 284 0) (8 * D 284 1 + D 284 2) j.toNat) → (logM D E (rowM D 284 0) (8 * D 284 1 + D 284 2) (24 * s + i) j) → k - j < (fuel : Int) → J 79 [vR 283, vI s, vI n, vI i, vI k, vI y, vI z, vI j] [] E := by
  intro fuel
  induction fuel with
  | zero => intro z j E hj hzs hl hMs; exact absurd hMs (by omega)
  | succ fuel ih =>
    intro z j E hj hzs hl hMs
    have hgd := hg0 hb.2.2
    have hsy := hgd.2.1
    have hn8 := hgd.1.2.1.2.1
    have hz0 := z0_ok hgd
    have hzo := cSeq_ok hsy hn8 hz0 j.toNat
    rw [← hzs] at hzo
    have hz64 := hzo.1
    have eR : rowM E 284 0 = (rowM D 284 0) := rowM_c (hl.2.2 284 (by omega))
    have hg2 := gd_c hgd eR
    have hz2 : zOk (rowM E 284 0) z := by rw [eR]; exact hzo
    have hq := hla s (by omega) (by omega)
    have hr0 := refS_0 hb.2.1
    refine q_iload (j := 7) hA rfl dX10_log_79 ?_
    refine q_iload (j := 4) hA rfl dX10_log_81 ?_
    refine q_icmp_ge (tgt := 124) hA (by omega) (by omega) dX10_log_83 (by decide) (fun h83 => ?_) (fun h83 => ?_)
    · refine q_iload (j := 4) hA rfl dX10_log_124 ?_
      exact hR 126 _ _ _ dX10_log_126 (by rw [show j = k by omega] at hl; exact Or.inr (Or.inr (Or.inr ⟨hb.1, hb.2.1, hb.2.2, rfl, hl⟩)))
    · refine q_aload_n (j := 0) hA rfl dX10_log_86 ?_
      refine q_iload (j := 6) hA rfl dX10_log_87 ?_
      refine q_iload (j := 7) hA rfl dX10_log_89 ?_
      refine q_iconst hA dX10_log_91 ?_
      refine q_irem hA (by omega) (by omega) dX10_log_92 ?_
      refine q_callVP (b := 283) (As := [vI z, vI (j % 2)]) (st := []) hA l_X10_194 kX10_byTurns (zX10_byTurns hg2 hz2 (by omega)) dX10_log_93 rfl rfl sx_283 (by decide) rfl (Nat.le_of_ble_eq_true rfl) (by omega) ?_
      refine q_nmI (fun v93 ev93 => ?_)
      have hzn := (cN_ok (s := j % 2) hsy hn8 hzo (by omega)).1
      rw [← eR, ← ev93] at hzn
      refine q_istore (j := 6) (lo2 := [vR 283, vI s, vI n, vI i, vI k, vI y, vI v93, vI j]) hA dX10_log_96 (by decide) rfl rfl ?_
      refine q_aload_n (j := 0) hA rfl dX10_log_98 ?_
      refine q_getR hA f_X10_50 dX10_log_99 sx_283 (by decide) fx_283_17 ?_
      refine q_bipush hA (by decide) dX10_log_102 ?_
      refine q_iload_n (j := 1) hA rfl dX10_log_104 ?_
      refine q_imul hA dX10_log_105 ?_
      refine q_iload_n (j := 3) hA rfl dX10_log_106 ?_
      refine q_iadd hA dX10_log_107 ?_
      refine q_iload (j := 7) hA rfl dX10_log_108 ?_
      refine q_iadd hA dX10_log_110 ?_
      refine q_iload (j := 6) hA rfl dX10_log_111 ?_
      refine q_bipush hA (by decide) dX10_log_113 ?_
      refine q_idiv hA (by omega) (by omega) dX10_log_115 ?_
      refine q_i2l hA (by omega) dX10_log_116 ?_
      refine q_last hA dX10_log_117 sx_297 (by omega) (by decide) ?_
      refine q_iinc (j := 7) (lo2 := [vR 283, vI s, vI n, vI i, vI k, vI y, vI v93, vI (j + 1)]) hA dX10_log_118 rfl (by decide) rfl rfl ?_
      refine q_goto (tgt := 79) hA dX10_log_121 (by decide) ?_
      exact ih _ _ _ (by omega) (by rw [cSeq_step (by omega), ← hzs, ← eR]; exact ev93) (by exact hl.s (by omega) (by omega) (by rw [show j.toNat + 1 = (j + 1).toNat by omega, cSeq_step (by omega), ← hzs, ← eR, ev93])) (by omega)
set_option maxHeartbeats 4000000 in
set_option maxRecDepth 100000 in
theorem zX10_log {g : Gm} {l : Launch} {D : Dat} (ho : mOk D 284) (hg0 : 0 < D 284 0 → gdR (rowM D 284 0)) {s : Int} {n : Int} {i : Int} {k : Int} (rs : -2147483648 ≤ s ∧ s ≤ 2147483647) (rn : -2147483648 ≤ n ∧ n ≤ 2147483647) (ri : -2147483648 ≤ i ∧ i ≤ 2147483647) (rk : -2147483648 ≤ k ∧ k ≤ 2147483647) (hla : ∀ j : Int, 0 ≤ j → j ≤ 3 → (-1 ≤ D 295 j ∧ D 295 j ≤ 3) ∧ (0 ≤ D 296 j ∧ D 296 j ≤ 24)) : CrI g l 6 mX10_log [vR 283, vI s, vI n, vI i, vI k] D (fun v D1 => (¬ (((0 ≤ s ∧ s ≤ 3) ∧ (0 ≤ n ∧ n ≤ 3)) ∧ (1 ≤ k ∧ k ≤ 24)) ∧ v = -1 ∧ D1 = D) ∨ ((((0 ≤ s ∧ s ≤ 3) ∧ (0 ≤ n ∧ n ≤ 3)) ∧ (1 ≤ k ∧ k ≤ 24)) ∧ refS (D 295 s) (D 296 s) n i k < 0 ∧ v = refS (D 295 s) (D 296 s) n i k ∧ D1 = D) ∨ ((((0 ≤ s ∧ s ≤ 3) ∧ (0 ≤ n ∧ n ≤ 3)) ∧ (1 ≤ k ∧ k ≤ 24)) ∧ refS (D 295 s) (D 296 s) n i k = 0 ∧ ¬ 0 < D 284 0 ∧ v = -2 ∧ D1 = D) ∨ ((((0 ≤ s ∧ s ≤ 3) ∧ (0 ≤ n ∧ n ≤ 3)) ∧ (1 ≤ k ∧ k ≤ 24)) ∧ refS (D 295 s) (D 296 s) n i k = 0 ∧ 0 < D 284 0 ∧ v = k ∧ logM D D1 (rowM D 284 0) (8 * D 284 1 + D 284 2) (24 * s + i) k)) := by
  refine Cr.ofI (lo0 := [vR 283, vI s, vI n, vI i, vI k, vN, vN, vN]) (by decide) (Nat.le_of_ble_eq_true rfl) rfl (fun J hA hR => ?_)
  have hn := ho.n
  have hf := ho.f
  have hb := ho.b
  refine q_iload_n (j := 1) hA rfl dX10_log_0 ?_
  refine q_callSB (As := [vI s]) (st := []) hA l_X10_235 kX10_isSheet (zX10_isSheet (by first | assumption | omega | rfl)) dX10_log_1 rfl rfl (Nat.le_of_ble_eq_true rfl) (by omega) (fun h1 => ?_) (fun h1 => ?_)
  · refine q_if_eq (tgt := 32) hA (by decide) dX10_log_4 (by decide) (fun h4 => absurd h4 (by decide)) (fun h4 => ?_)
    refine q_iload_n (j := 2) hA rfl dX10_log_7 ?_
    refine q_i2l hA (by omega) dX10_log_8 ?_
    refine q_lconst hA dX10_log_9 ?_
    show J _ _ (vL 0 :: _) _
    refine q_ldc2 hA c_X10_233 dX10_log_10 ?_
    refine q_callSB (As := [vL n, vL 0, vL 3]) (st := []) hA l_X10_77 kX10_in (zX10_in (by first | assumption | omega | rfl) (by first | assumption | omega | rfl) (by first | assumption | omega | rfl)) dX10_log_13 rfl rfl (Nat.le_of_ble_eq_true rfl) (by omega) (fun h13 => ?_) (fun h13 => ?_)
    · refine q_if_eq (tgt := 32) hA (by decide) dX10_log_16 (by decide) (fun h16 => absurd h16 (by decide)) (fun h16 => ?_)
      refine q_iload (j := 4) hA rfl dX10_log_19 ?_
      refine q_i2l hA (by omega) dX10_log_21 ?_
      refine q_lconst hA dX10_log_22 ?_
      show J _ _ (vL 1 :: _) _
      refine q_ldc2 hA c_X10_248 dX10_log_23 ?_
      refine q_callSB (As := [vL k, vL 1, vL 24]) (st := []) hA l_X10_77 kX10_in (zX10_in (by first | assumption | omega | rfl) (by first | assumption | omega | rfl) (by first | assumption | omega | rfl)) dX10_log_26 rfl rfl (Nat.le_of_ble_eq_true rfl) (by omega) (fun h26 => ?_) (fun h26 => ?_)
      · refine q_if_ne (tgt := 34) hA (by decide) dX10_log_29 (by decide) (fun h29 => ?_) (fun h29 => absurd h29 (by decide))
        refine q_aload_n (j := 0) hA rfl dX10_log_34 ?_
        refine q_iload_n (j := 1) hA rfl dX10_log_35 ?_
        refine q_iload_n (j := 2) hA rfl dX10_log_36 ?_
        refine q_iload_n (j := 3) hA rfl dX10_log_37 ?_
        refine q_iload (j := 4) hA rfl dX10_log_38 ?_
        refine q_callVP (b := 283) (As := [vI s, vI n, vI i, vI k]) (st := []) hA l_X10_240 kX10_why (zX10_why (by first | assumption | omega | rfl) (by first | assumption | omega | rfl) (by first | assumption | omega | rfl) (by first | assumption | omega | rfl) (by first | assumption | omega | rfl)) dX10_log_40 rfl rfl sx_283 (by decide) rfl (Nat.le_of_ble_eq_true rfl) (by omega) ?_
        refine q_nmI (fun v40 ev40 => ?_)
        have hw := refS_in (D 295 s) (D 296 s) n i k
        rw [← ev40] at hw
        refine q_istore (j := 5) (lo2 := [vR 283, vI s, vI n, vI i, vI k, vI v40, vN, vN]) hA dX10_log_43 (by decide) rfl rfl ?_
        refine q_iload (j := 5) hA rfl dX10_log_45 ?_
        refine q_if_lt (tgt := 57) hA (by omega) dX10_log_47 (by decide) (fun h47 => ?_) (fun h47 => ?_)
        · refine q_iload (j := 5) hA rfl dX10_log_57 ?_
          refine q_if_ge (tgt := 67) hA (by omega) dX10_log_59 (by decide) (fun h59 => ?_) (fun h59 => ?_)
          · refine q_bipush hA (by decide) dX10_log_67 ?_
            exact hR 69 _ _ _ dX10_log_69 (by first | exact Or.inr (Or.inl ⟨by omega, by omega, ev40, rfl⟩) | exact Or.inr (Or.inr (Or.inl ⟨by omega, by omega, h51, rfl, rfl⟩)) | (exfalso; omega))
          · refine q_iload (j := 5) hA rfl dX10_log_62 ?_
            refine q_goto (tgt := 69) hA dX10_log_64 (by decide) ?_
            exact hR 69 _ _ _ dX10_log_69 (by first | exact Or.inr (Or.inl ⟨by omega, by omega, ev40, rfl⟩) | exact Or.inr (Or.inr (Or.inl ⟨by omega, by omega, h51, rfl, rfl⟩)) | (exfalso; omega))
        · refine q_aload_n (j := 0) hA rfl dX10_log_50 ?_
          refine q_callVB (b := 283) (As := []) (st := []) hA l_X10_159 kX10_isThere (zX10_isThere (by first | assumption | omega | rfl)) dX10_log_51 rfl rfl sx_283 (by decide) rfl (Nat.le_of_ble_eq_true rfl) (by omega) (fun h51 => ?_) (fun h51 => ?_)
          · refine q_if_ne (tgt := 70) hA (by decide) dX10_log_54 (by decide) (fun h54 => ?_) (fun h54 => absurd h54 (by decide))
            have hgd := hg0 h51
            refine q_aload_n (j := 0) hA rfl dX10_log_70 ?_
            refine q_callVP (b := 283) (As := []) (st := []) hA l_X10_177 kX10_stateNow (zX10_stateNow (by first | assumption | omega | rfl)) dX10_log_71 rfl rfl sx_283 (by decide) rfl (Nat.le_of_ble_eq_true rfl) (by omega) ?_
            refine q_istore (j := 6) (lo2 := [vR 283, vI s, vI n, vI i, vI k, vI v40, vI ((8 * D 284 1 + D 284 2)), vN]) hA dX10_log_74 (by decide) rfl rfl ?_
            refine q_iconst hA dX10_log_76 ?_
            refine q_istore (j := 7) (lo2 := [vR 283, vI s, vI n, vI i, vI k, vI v40, vI ((8 * D 284 1 + D 284 2)), vI 0]) hA dX10_log_77 (by decide) rfl rfl ?_
            refine zX10_log_L79 (D := D) (s := s) (n := n) (i := i) (k := k) ho hg0 rs rn ri rk hla (by exact ⟨by omega, by omega, h51⟩) hA hR 1000 _ _ _ (by omega) (by rfl) (by exact logM.z) (by omega)
          · refine q_if_ne (tgt := 70) hA (by decide) dX10_log_54 (by decide) (fun h54 => absurd h54 (by decide)) (fun h54 => ?_)
            refine q_iload (j := 5) hA rfl dX10_log_57 ?_
            refine q_if_ge (tgt := 67) hA (by omega) dX10_log_59 (by decide) (fun h59 => ?_) (fun h59 => ?_)
            · refine q_bipush hA (by decide) dX10_log_67 ?_
              exact hR 69 _ _ _ dX10_log_69 (by first | exact Or.inr (Or.inl ⟨by omega, by omega, ev40, rfl⟩) | exact Or.inr (Or.inr (Or.inl ⟨by omega, by omega, h51, rfl, rfl⟩)) | (exfalso; omega))
            · refine q_iload (j := 5) hA rfl dX10_log_62 ?_
              refine q_goto (tgt := 69) hA dX10_log_64 (by decide) ?_
              exact hR 69 _ _ _ dX10_log_69 (by first | exact Or.inr (Or.inl ⟨by omega, by omega, ev40, rfl⟩) | exact Or.inr (Or.inr (Or.inl ⟨by omega, by omega, h51, rfl, rfl⟩)) | (exfalso; omega))
      · refine q_if_ne (tgt := 34) hA (by decide) dX10_log_29 (by decide) (fun h29 => absurd h29 (by decide)) (fun h29 => ?_)
        refine q_iconst hA dX10_log_32 ?_
        exact hR 33 _ _ _ dX10_log_33 (by exact Or.inl ⟨by omega, rfl, rfl⟩)
    · refine q_if_eq (tgt := 32) hA (by decide) dX10_log_16 (by decide) (fun h16 => ?_) (fun h16 => absurd h16 (by decide))
      refine q_iconst hA dX10_log_32 ?_
      exact hR 33 _ _ _ dX10_log_33 (by exact Or.inl ⟨by omega, rfl, rfl⟩)
  · refine q_if_eq (tgt := 32) hA (by decide) dX10_log_4 (by decide) (fun h4 => ?_) (fun h4 => absurd h4 (by decide))
    refine q_iconst hA dX10_log_32 ?_
    exact hR 33 _ _ _ dX10_log_33 (by exact Or.inl ⟨by omega, rfl, rfl⟩)
set_option maxHeartbeats 4000000 in
set_option maxRecDepth 100000 in
theorem zX10_decades_L57 {g : Gm} {l : Launch} {D : Dat} (ho : mOk D 284) (hg0 : 0 < D 284 0 → gdR (rowM D 284 0)) {n : Int} {x : Int} {w : Int} (rn : -2147483648 ≤ n ∧ n ≤ 2147483647) (rx : -2147483648 ≤ x ∧ x ≤ 2147483647) (rw : -2147483648 ≤ w ∧ w ≤ 2147483647)  (hb : (((0 ≤ n ∧ n ≤ 60) ∧ (1 ≤ x ∧ x ≤ 999999)) ∧ (0 ≤ w ∧ w ≤ 1)) ∧ 0 < D 284 0) {J : JT} (hA : AX g l RX10 cX10_decades 8 6 J) (hR : ReI cX10_decades (fun v D1 => (¬ (((0 ≤ n ∧ n ≤ 60) ∧ (1 ≤ x ∧ x ≤ 999999)) ∧ (0 ≤ w ∧ w ≤ 1)) ∧ v = -1 ∧ D1 = D) ∨ ((((0 ≤ n ∧ n ≤ 60) ∧ (1 ≤ x ∧ x ≤ 999999)) ∧ (0 ≤ w ∧ w ≤ 1)) ∧ ¬ 0 < D 284 0 ∧ v = -2 ∧ D1 = D) ∨ ((((0 ≤ n ∧ n ≤ 60) ∧ (1 ≤ x ∧ x ≤ 999999)) ∧ (0 ≤ w ∧ w ≤ 1)) ∧ 0 < D 284 0 ∧ (v = if w = 0 then rE (drawR n.toNat x (rowM D 284 0)) else rF (drawR n.toNat x (rowM D 284 0))) ∧ bkF D D1)) J) : ∀ (fuel : Nat) (u : Int) (k : Int) (E : Dat), (0 ≤ k ∧ k ≤ n) → (0 ≤ u ∧ u ≤ 2147483646) → (gdR (rowM E 284 0)) → (asF D E) → ((drawR n.toNat x (rowM D 284 0)) = drawR (n - k).toNat u (rowM E 284 0)) → n - k < (fuel : Int) → J 57 [vR 283, vI n, vI x, vI w, vL u, vN, vI k, vN] [] E := by
  intro fuel
  induction fuel with
  | zero => intro u k E hk hu hE ha hv hMs; exact absurd hMs (by omega)
  | succ fuel ih =>
    intro u k E hk hu hE ha hv hMs
    have oE := gd_o hE
    have gE := gd_g hE
    refine q_iload (j := 6) hA rfl dX10_decades_57 ?_
    refine q_iload_n (j := 1) hA rfl dX10_decades_59 ?_
    refine q_icmp_ge (tgt := 117) hA (by omega) (by omega) dX10_decades_60 (by decide) (fun h60 => ?_) (fun h60 => ?_)
    · refine q_iload_n (j := 3) hA rfl dX10_decades_117 ?_
      refine q_if_ne (tgt := 130) hA (by omega) dX10_decades_118 (by decide) (fun h118 => ?_) (fun h118 => ?_)
      · refine q_aload_n (j := 0) hA rfl dX10_decades_130 ?_
        refine q_getR hA f_X10_7 dX10_decades_131 sx_283 (by decide) fx_283_0 ?_
        refine q_iconst hA dX10_decades_134 ?_
        refine q_iald (x := E 284 1) hA dX10_decades_135 sx_284 (by omega) (by decide) rfl ?_
        refine q_nmI (fun an ean => ?_)
        refine q_istore (j := 6) (lo2 := [vR 283, vI n, vI x, vI w, vL u, vN, vI an, vN]) hA dX10_decades_136 (by decide) rfl rfl ?_
        refine q_aload_n (j := 0) hA rfl dX10_decades_138 ?_
        refine q_callVV (b := 283) (As := []) (st := []) hA l_X10_207 kX10_backs (zX10_backs) dX10_decades_139 rfl rfl sx_283 (by decide) rfl (Nat.le_of_ble_eq_true rfl) (by omega) (fun D139 q139 => ?_)
        have hbk := (ha.bk q139).2
        refine q_iload (j := 6) hA rfl dX10_decades_142 ?_
        exact hR 144 _ _ _ dX10_decades_144 (by exact Or.inr (Or.inr ⟨hb.1, hb.2, by rw [hv, show n - k = 0 by omega]; first | (rw [if_pos (by omega), ean]; exact (mE E 284).symm) | (rw [if_neg (by omega), ean]; exact (mF E 284).symm), hbk⟩))
      · refine q_aload_n (j := 0) hA rfl dX10_decades_121 ?_
        refine q_getR hA f_X10_7 dX10_decades_122 sx_283 (by decide) fx_283_0 ?_
        refine q_iconst hA dX10_decades_125 ?_
        refine q_iald (x := E 284 3) hA dX10_decades_126 sx_284 (by omega) (by decide) rfl ?_
        refine q_goto (tgt := 136) hA dX10_decades_127 (by decide) ?_
        refine q_nmI (fun an ean => ?_)
        refine q_istore (j := 6) (lo2 := [vR 283, vI n, vI x, vI w, vL u, vN, vI an, vN]) hA dX10_decades_136 (by decide) rfl rfl ?_
        refine q_aload_n (j := 0) hA rfl dX10_decades_138 ?_
        refine q_callVV (b := 283) (As := []) (st := []) hA l_X10_207 kX10_backs (zX10_backs) dX10_decades_139 rfl rfl sx_283 (by decide) rfl (Nat.le_of_ble_eq_true rfl) (by omega) (fun D139 q139 => ?_)
        have hbk := (ha.bk q139).2
        refine q_iload (j := 6) hA rfl dX10_decades_142 ?_
        exact hR 144 _ _ _ dX10_decades_144 (by exact Or.inr (Or.inr ⟨hb.1, hb.2, by rw [hv, show n - k = 0 by omega]; first | (rw [if_pos (by omega), ean]; exact (mE E 284).symm) | (rw [if_neg (by omega), ean]; exact (mF E 284).symm), hbk⟩))
    · refine q_lload (j := 4) hA rfl dX10_decades_63 ?_
      refine q_ldc2 hA c_X10_227 dX10_decades_65 ?_
      refine q_lmul hA dX10_decades_68 ?_
      refine q_ldc2 hA c_X10_229 dX10_decades_69 ?_
      refine q_lrem hA (by omega) (by omega) dX10_decades_72 ?_
      refine q_nmL (fun y ey => ?_)
      refine q_lstore (j := 4) (lo2 := [vR 283, vI n, vI x, vI w, vL y, vN, vI k, vN]) hA dX10_decades_73 (by decide) rfl rfl ?_
      have hy2 : 0 ≤ y ∧ y ≤ 2147483646 := by rw [ey]; omega
      refine q_lload (j := 4) hA rfl dX10_decades_75 ?_
      refine q_ldc2 hA c_X10_231 dX10_decades_77 ?_
      refine q_ldiv hA (by omega) (by omega) dX10_decades_80 ?_
      refine q_ldc2 hA c_X10_233 dX10_decades_81 ?_
      refine q_lrem hA (by omega) (by omega) dX10_decades_84 ?_
      refine q_l2i hA dX10_decades_85 ?_
      refine q_nmI (fun m em => ?_)
      refine q_istore (j := 7) (lo2 := [vR 283, vI n, vI x, vI w, vL y, vN, vI k, vI m]) hA dX10_decades_86 (by decide) rfl rfl ?_
      have hm : 0 ≤ m ∧ m ≤ 2 := by rw [em]; omega
      refine q_aload_n (j := 0) hA rfl dX10_decades_88 ?_
      refine q_aload_n (j := 0) hA rfl dX10_decades_89 ?_
      refine q_aload_n (j := 0) hA rfl dX10_decades_90 ?_
      refine q_iload (j := 7) hA rfl dX10_decades_91 ?_
      refine q_callVB (b := 283) (As := [vI m]) (st := [vR 283, vR 283]) hA l_X10_168 kX10_may (zX10_may oE gE (by omega)) dX10_decades_93 rfl rfl sx_283 (by decide) rfl (Nat.le_of_ble_eq_true rfl) (by omega) (fun h93 => ?_) (fun h93 => ?_)
      · refine q_if_eq (tgt := 104) hA (by decide) dX10_decades_96 (by decide) (fun h96 => absurd h96 (by decide)) (fun h96 => ?_)
        refine q_iload (j := 7) hA rfl dX10_decades_99 ?_
        refine q_goto (tgt := 105) hA dX10_decades_101 (by decide) ?_
        refine q_callVI (b := 283) (As := [vI m]) (st := [vR 283]) hA l_X10_174 kX10_moves (zX10_moves oE gE (by omega) (by first | exact Or.inl rfl | omega)) dX10_decades_105 rfl rfl sx_283 (by decide) rfl (Nat.le_of_ble_eq_true rfl) (by omega) (fun v105 D105 q105 => ?_)
        have g105 := mov_go hE (by omega) (by first | exact (gd_may hE (by omega)).1 h93 | exact gd_ct _ hE) q105
        refine q_callVV (b := 283) (As := [vI v105]) (st := []) hA l_X10_204 kX10_noted (zX10_noted) dX10_decades_108 rfl rfl sx_283 (by decide) rfl (Nat.le_of_ble_eq_true rfl) (by omega) (fun D108 q108 => ?_)
        refine q_iinc (j := 6) (lo2 := [vR 283, vI n, vI x, vI w, vL y, vN, vI (k + 1), vI m]) hA dX10_decades_111 rfl (by decide) rfl rfl ?_
        refine q_goto (tgt := 57) hA dX10_decades_114 (by decide) ?_
        refine q_fgt (lo2 := [vR 283, vI n, vI x, vI w, vL y, vN, vI (k + 1), vN]) hA ⟨Or.inr rfl, Or.inr rfl, Or.inr rfl, Or.inr rfl, Or.inr rfl, Or.inr rfl, Or.inr rfl, Or.inl rfl, trivial⟩ ?_
        exact ih _ _ _ (by omega) (by omega) (by rw [q108, row_nt, g105.1]; exact gd_go hE) (by rw [q108]; exact (ha.mv g105.2.2).nt) (by rw [hv, show (n - k).toNat = (n - (k + 1)).toNat + 1 by omega, drawR, q108, row_nt, g105.1, show 16807 * u % 2147483647 = y by rw [ey, Int.mul_comm], ← em]; unfold mvR; first | rw [if_pos ((gd_may hE hm).1 h93)] | rw [if_neg (fun z => h93 ((gd_may hE hm).2 z))]) (by omega)
      · refine q_if_eq (tgt := 104) hA (by decide) dX10_decades_96 (by decide) (fun h96 => ?_) (fun h96 => absurd h96 (by decide))
        refine q_iconst hA dX10_decades_104 ?_
        refine q_callVI (b := 283) (As := [vI 2]) (st := [vR 283]) hA l_X10_174 kX10_moves (zX10_moves oE gE (by omega) (by first | exact Or.inl rfl | omega)) dX10_decades_105 rfl rfl sx_283 (by decide) rfl (Nat.le_of_ble_eq_true rfl) (by omega) (fun v105 D105 q105 => ?_)
        have g105 := mov_go hE (by omega) (by first | exact (gd_may hE (by omega)).1 h93 | exact gd_ct _ hE) q105
        refine q_callVV (b := 283) (As := [vI v105]) (st := []) hA l_X10_204 kX10_noted (zX10_noted) dX10_decades_108 rfl rfl sx_283 (by decide) rfl (Nat.le_of_ble_eq_true rfl) (by omega) (fun D108 q108 => ?_)
        refine q_iinc (j := 6) (lo2 := [vR 283, vI n, vI x, vI w, vL y, vN, vI (k + 1), vI m]) hA dX10_decades_111 rfl (by decide) rfl rfl ?_
        refine q_goto (tgt := 57) hA dX10_decades_114 (by decide) ?_
        refine q_fgt (lo2 := [vR 283, vI n, vI x, vI w, vL y, vN, vI (k + 1), vN]) hA ⟨Or.inr rfl, Or.inr rfl, Or.inr rfl, Or.inr rfl, Or.inr rfl, Or.inr rfl, Or.inr rfl, Or.inl rfl, trivial⟩ ?_
        exact ih _ _ _ (by omega) (by omega) (by rw [q108, row_nt, g105.1]; exact gd_go hE) (by rw [q108]; exact (ha.mv g105.2.2).nt) (by rw [hv, show (n - k).toNat = (n - (k + 1)).toNat + 1 by omega, drawR, q108, row_nt, g105.1, show 16807 * u % 2147483647 = y by rw [ey, Int.mul_comm], ← em]; unfold mvR; first | rw [if_pos ((gd_may hE hm).1 h93)] | rw [if_neg (fun z => h93 ((gd_may hE hm).2 z))]) (by omega)
set_option maxHeartbeats 4000000 in
set_option maxRecDepth 100000 in
theorem zX10_decades {g : Gm} {l : Launch} {D : Dat} (ho : mOk D 284) (hg0 : 0 < D 284 0 → gdR (rowM D 284 0)) {n : Int} {x : Int} {w : Int} (rn : -2147483648 ≤ n ∧ n ≤ 2147483647) (rx : -2147483648 ≤ x ∧ x ≤ 2147483647) (rw : -2147483648 ≤ w ∧ w ≤ 2147483647) : CrI g l 6 mX10_decades [vR 283, vI n, vI x, vI w] D (fun v D1 => (¬ (((0 ≤ n ∧ n ≤ 60) ∧ (1 ≤ x ∧ x ≤ 999999)) ∧ (0 ≤ w ∧ w ≤ 1)) ∧ v = -1 ∧ D1 = D) ∨ ((((0 ≤ n ∧ n ≤ 60) ∧ (1 ≤ x ∧ x ≤ 999999)) ∧ (0 ≤ w ∧ w ≤ 1)) ∧ ¬ 0 < D 284 0 ∧ v = -2 ∧ D1 = D) ∨ ((((0 ≤ n ∧ n ≤ 60) ∧ (1 ≤ x ∧ x ≤ 999999)) ∧ (0 ≤ w ∧ w ≤ 1)) ∧ 0 < D 284 0 ∧ (v = if w = 0 then rE (drawR n.toNat x (rowM D 284 0)) else rF (drawR n.toNat x (rowM D 284 0))) ∧ bkF D D1)) := by
  refine Cr.ofI (lo0 := [vR 283, vI n, vI x, vI w, vN, vN, vN, vN]) (by decide) (Nat.le_of_ble_eq_true rfl) rfl (fun J hA hR => ?_)
  have hn := ho.n
  have hf := ho.f
  have hb := ho.b
  refine q_iload_n (j := 1) hA rfl dX10_decades_0 ?_
  refine q_i2l hA (by omega) dX10_decades_1 ?_
  refine q_lconst hA dX10_decades_2 ?_
  show J _ _ (vL 0 :: _) _
  refine q_ldc2 hA c_X10_223 dX10_decades_3 ?_
  refine q_callSB (As := [vL n, vL 0, vL 60]) (st := []) hA l_X10_77 kX10_in (zX10_in (by first | assumption | omega | rfl) (by first | assumption | omega | rfl) (by first | assumption | omega | rfl)) dX10_decades_6 rfl rfl (Nat.le_of_ble_eq_true rfl) (by omega) (fun h6 => ?_) (fun h6 => ?_)
  · refine q_if_eq (tgt := 34) hA (by decide) dX10_decades_9 (by decide) (fun h9 => absurd h9 (by decide)) (fun h9 => ?_)
    refine q_iload_n (j := 2) hA rfl dX10_decades_12 ?_
    refine q_i2l hA (by omega) dX10_decades_13 ?_
    refine q_lconst hA dX10_decades_14 ?_
    show J _ _ (vL 1 :: _) _
    refine q_ldc2 hA c_X10_225 dX10_decades_15 ?_
    refine q_callSB (As := [vL x, vL 1, vL 999999]) (st := []) hA l_X10_77 kX10_in (zX10_in (by first | assumption | omega | rfl) (by first | assumption | omega | rfl) (by first | assumption | omega | rfl)) dX10_decades_18 rfl rfl (Nat.le_of_ble_eq_true rfl) (by omega) (fun h18 => ?_) (fun h18 => ?_)
    · refine q_if_eq (tgt := 34) hA (by decide) dX10_decades_21 (by decide) (fun h21 => absurd h21 (by decide)) (fun h21 => ?_)
      refine q_iload_n (j := 3) hA rfl dX10_decades_24 ?_
      refine q_i2l hA (by omega) dX10_decades_25 ?_
      refine q_lconst hA dX10_decades_26 ?_
      show J _ _ (vL 0 :: _) _
      refine q_lconst hA dX10_decades_27 ?_
      show J _ _ (vL 1 :: _) _
      refine q_callSB (As := [vL w, vL 0, vL 1]) (st := []) hA l_X10_77 kX10_in (zX10_in (by first | assumption | omega | rfl) (by first | assumption | omega | rfl) (by first | assumption | omega | rfl)) dX10_decades_28 rfl rfl (Nat.le_of_ble_eq_true rfl) (by omega) (fun h28 => ?_) (fun h28 => ?_)
      · refine q_if_ne (tgt := 36) hA (by decide) dX10_decades_31 (by decide) (fun h31 => ?_) (fun h31 => absurd h31 (by decide))
        refine q_aload_n (j := 0) hA rfl dX10_decades_36 ?_
        refine q_callVB (b := 283) (As := []) (st := []) hA l_X10_159 kX10_isThere (zX10_isThere (by first | assumption | omega | rfl)) dX10_decades_37 rfl rfl sx_283 (by decide) rfl (Nat.le_of_ble_eq_true rfl) (by omega) (fun h37 => ?_) (fun h37 => ?_)
        · refine q_if_ne (tgt := 46) hA (by decide) dX10_decades_40 (by decide) (fun h40 => ?_) (fun h40 => absurd h40 (by decide))
          have hgd := hg0 h37
          refine q_aload_n (j := 0) hA rfl dX10_decades_46 ?_
          refine q_callVV (b := 283) (As := []) (st := []) hA l_X10_201 kX10_asides (zX10_asides) dX10_decades_47 rfl rfl sx_283 (by decide) rfl (Nat.le_of_ble_eq_true rfl) (by omega) (fun D47 q47 => ?_)
          refine q_iload_n (j := 2) hA rfl dX10_decades_50 ?_
          refine q_i2l hA (by omega) dX10_decades_51 ?_
          refine q_lstore (j := 4) (lo2 := [vR 283, vI n, vI x, vI w, vL x, vN, vN, vN]) hA dX10_decades_52 (by decide) rfl rfl ?_
          refine q_iconst hA dX10_decades_54 ?_
          refine q_istore (j := 6) (lo2 := [vR 283, vI n, vI x, vI w, vL x, vN, vI 0, vN]) hA dX10_decades_55 (by decide) rfl rfl ?_
          refine zX10_decades_L57 (D := D) (n := n) (x := x) (w := w) ho hg0 rn rx rw (by omega) hA hR 1000 _ _ _ (by omega) (by omega) (by rw [rowM_c (q47.2.2 284 (by omega))]; exact hgd) (by exact asF.of q47) (by rw [rowM_c (q47.2.2 284 (by omega)), Int.sub_zero]) (by omega)
        · refine q_if_ne (tgt := 46) hA (by decide) dX10_decades_40 (by decide) (fun h40 => absurd h40 (by decide)) (fun h40 => ?_)
          refine q_bipush hA (by decide) dX10_decades_43 ?_
          exact hR 45 _ _ _ dX10_decades_45 (by exact Or.inr (Or.inl ⟨by omega, h37, rfl, rfl⟩))
      · refine q_if_ne (tgt := 36) hA (by decide) dX10_decades_31 (by decide) (fun h31 => absurd h31 (by decide)) (fun h31 => ?_)
        refine q_iconst hA dX10_decades_34 ?_
        exact hR 35 _ _ _ dX10_decades_35 (by exact Or.inl ⟨by omega, rfl, rfl⟩)
    · refine q_if_eq (tgt := 34) hA (by decide) dX10_decades_21 (by decide) (fun h21 => ?_) (fun h21 => absurd h21 (by decide))
      refine q_iconst hA dX10_decades_34 ?_
      exact hR 35 _ _ _ dX10_decades_35 (by exact Or.inl ⟨by omega, rfl, rfl⟩)
  · refine q_if_eq (tgt := 34) hA (by decide) dX10_decades_9 (by decide) (fun h9 => ?_) (fun h9 => absurd h9 (by decide))
    refine q_iconst hA dX10_decades_34 ?_
    exact hR 35 _ _ _ dX10_decades_35 (by exact Or.inl ⟨by omega, rfl, rfl⟩)
set_option maxHeartbeats 4000000 in
set_option maxRecDepth 100000 in
theorem zX10_part_L6 {g : Gm} {l : Launch} {D : Dat} {a : Int} {b : Int} {w : Int} (ha : 0 ≤ a ∧ a ≤ 1000000) (hb : 1 ≤ b ∧ b ≤ 1000000) (rw : -2147483648 ≤ w ∧ w ≤ 2147483647)   {J : JT} (hA : AX g l RX10 cX10_part 11 1 J) (hR : ReI cX10_part (fun v D1 => v = (if w = 0 then a / gI a b else b / gI a b) ∧ D1 = D) J) : ∀ (fuel : Nat) (x : Int) (y : Int), (0 ≤ x ∧ x ≤ 1000000) → (0 ≤ y ∧ y ≤ 1000000) → (gI x y = gI a b) → y < (fuel : Int) → J 6 [vL a, vN, vL b, vN, vI w, vL x, vN, vL y, vN, vN, vN] [] D := by
  intro fuel
  induction fuel with
  | zero => intro x y hx hy hg hMs; exact absurd hMs (by omega)
  | succ fuel ih =>
    intro x y hx hy hg hMs
    refine q_lload (j := 7) hA rfl dX10_part_6 ?_
    refine q_lconst hA dX10_part_8 ?_
    show J _ _ (vL 0 :: _) _
    refine q_lcmp hA (by omega) (by omega) dX10_part_9 ?_
    have hc9 := cmpL_spec y 0
    refine q_if_eq (tgt := 31) hA (by omega) dX10_part_10 (by decide) (fun h10 => ?_) (fun h10 => ?_)
    · refine q_iload (j := 4) hA rfl dX10_part_31 ?_
      refine q_if_ne (tgt := 40) hA (by omega) dX10_part_33 (by decide) (fun h33 => ?_) (fun h33 => ?_)
      · refine q_lload_n (j := 2) hA rfl dX10_part_40 ?_
        have hgp := gI_pos (a := a) (b := b) (by omega)
        have hgl := gI_le (a := a) (b := b) (by omega)
        have hxg : x = gI a b := by rw [← hg, show y = 0 by omega, gI_z (by omega)]
        refine q_lload (j := 5) hA rfl dX10_part_41 ?_
        refine q_ldiv hA (by omega) (by omega) dX10_part_43 ?_
        refine q_l2i hA dX10_part_44 ?_
        exact hR 45 _ _ _ dX10_part_45 ⟨(by rw [← hxg]; first | rw [if_pos (by omega)] | rw [if_neg (by omega)]), rfl⟩
      · refine q_lload_n (j := 0) hA rfl dX10_part_36 ?_
        refine q_goto (tgt := 41) hA dX10_part_37 (by decide) ?_
        have hgp := gI_pos (a := a) (b := b) (by omega)
        have hgl := gI_le (a := a) (b := b) (by omega)
        have hxg : x = gI a b := by rw [← hg, show y = 0 by omega, gI_z (by omega)]
        refine q_lload (j := 5) hA rfl dX10_part_41 ?_
        refine q_ldiv hA (by omega) (by omega) dX10_part_43 ?_
        refine q_l2i hA dX10_part_44 ?_
        exact hR 45 _ _ _ dX10_part_45 ⟨(by rw [← hxg]; first | rw [if_pos (by omega)] | rw [if_neg (by omega)]), rfl⟩
    · refine q_lload (j := 5) hA rfl dX10_part_13 ?_
      refine q_lload (j := 7) hA rfl dX10_part_15 ?_
      refine q_lrem hA (by omega) (by omega) dX10_part_17 ?_
      refine q_lstore (j := 9) (lo2 := [vL a, vN, vL b, vN, vI w, vL x, vN, vL y, vN, vL (x % y), vN]) hA dX10_part_18 (by decide) rfl rfl ?_
      have hem := emod_in (a := x) (b := y) (by omega)
      refine q_lload (j := 7) hA rfl dX10_part_20 ?_
      refine q_lstore (j := 5) (lo2 := [vL a, vN, vL b, vN, vI w, vL y, vN, vL y, vN, vL (x % y), vN]) hA dX10_part_22 (by decide) rfl rfl ?_
      refine q_lload (j := 9) hA rfl dX10_part_24 ?_
      refine q_lstore (j := 7) (lo2 := [vL a, vN, vL b, vN, vI w, vL y, vN, vL (x % y), vN, vL (x % y), vN]) hA dX10_part_26 (by decide) rfl rfl ?_
      refine q_goto (tgt := 6) hA dX10_part_28 (by decide) ?_
      refine q_fgt (lo2 := [vL a, vN, vL b, vN, vI w, vL y, vN, vL (x % y), vN, vN, vN]) hA ⟨Or.inr rfl, Or.inr rfl, Or.inr rfl, Or.inr rfl, Or.inr rfl, Or.inr rfl, Or.inr rfl, Or.inr rfl, Or.inr rfl, Or.inl rfl, Or.inr rfl, trivial⟩ ?_
      exact ih _ _ (by omega) (by omega) (by rw [gI_s (by omega) (by omega)]; exact hg) (by omega)
set_option maxHeartbeats 4000000 in
set_option maxRecDepth 100000 in
theorem zX10_part {g : Gm} {l : Launch} {D : Dat} {a : Int} {b : Int} {w : Int} (ha : 0 ≤ a ∧ a ≤ 1000000) (hb : 1 ≤ b ∧ b ≤ 1000000) (rw : -2147483648 ≤ w ∧ w ≤ 2147483647) : CrP g l 1 mX10_part [vL a, vL b, vI w] D (if w = 0 then a / gI a b else b / gI a b) := by
  unfold CrP
  refine Cr.ofI (lo0 := [vL a, vN, vL b, vN, vI w, vN, vN, vN, vN, vN, vN]) (by decide) (Nat.le_of_ble_eq_true rfl) rfl (fun J hA hR => ?_)
  refine q_lload_n (j := 0) hA rfl dX10_part_0 ?_
  refine q_lstore (j := 5) (lo2 := [vL a, vN, vL b, vN, vI w, vL a, vN, vN, vN, vN, vN]) hA dX10_part_1 (by decide) rfl rfl ?_
  refine q_lload_n (j := 2) hA rfl dX10_part_3 ?_
  refine q_lstore (j := 7) (lo2 := [vL a, vN, vL b, vN, vI w, vL a, vN, vL b, vN, vN, vN]) hA dX10_part_4 (by decide) rfl rfl ?_
  refine zX10_part_L6 (D := D) (a := a) (b := b) (w := w) ha hb rw  hA hR 2000000 _ _ (by omega) (by omega) (by rfl) (by omega)
set_option maxHeartbeats 4000000 in
set_option maxRecDepth 100000 in
theorem zX10_hand_L72 {g : Gm} {l : Launch} {D : Dat} (ho : mOk D 284) (hg0 : 0 < D 284 0 → gdR (rowM D 284 0)) {p : Int} {n : Int} {q : Int} {w : Int} (rp : -2147483648 ≤ p ∧ p ≤ 2147483647) (rn : -2147483648 ≤ n ∧ n ≤ 2147483647) (rq : -2147483648 ≤ q ∧ q ≤ 2147483647) (rw : -2147483648 ≤ w ∧ w ≤ 2147483647) {ab bl u : Int} (hb : (((0 ≤ p ∧ p < D 284 0) ∧ (0 ≤ n ∧ n ≤ 6)) ∧ (0 ≤ q ∧ q ≤ 10)) ∧ (0 ≤ w ∧ w ≤ 1)) (hu : 0 ≤ u ∧ u < 64) {J : JT} (hA : AX g l RX10 cX10_hand 14 6 J) (hR : ReI cX10_hand (fun v D1 => (¬ ((((0 ≤ p ∧ p < D 284 0) ∧ (0 ≤ n ∧ n ≤ 6)) ∧ (0 ≤ q ∧ q ≤ 10)) ∧ (0 ≤ w ∧ w ≤ 1)) ∧ v = -1 ∧ D1 = D) ∨ (((((0 ≤ p ∧ p < D 284 0) ∧ (0 ≤ n ∧ n ≤ 6)) ∧ (0 ≤ q ∧ q ≤ 10)) ∧ (0 ≤ w ∧ w ≤ 1)) ∧ (v = if w = 0 then partsR p q n.toNat (rowM D 284 0) / gI (partsR p q n.toNat (rowM D 284 0)) (10 ^ n.toNat) else (10 ^ n.toNat) / gI (partsR p q n.toNat (rowM D 284 0)) (10 ^ n.toNat)) ∧ bkF D D1)) J) (hx : ∀ (od : Int) (t : Int) (E : Dat), (0 ≤ t ∧ t ≤ n) → (gdR (rowM E 284 0)) → (asF D E) → (od * wHm q (n - t).toNat t u = wHm q n.toNat 0 u) → (eHm (n - t).toNat t u (rowM E 284 0) = eHm n.toNat 0 u (rowM D 284 0)) → (od = wHm q n.toNat 0 u ∧ rowM E 284 0 = eHm n.toNat 0 u (rowM D 284 0)) → J 136 [vR 283, vI p, vI n, vI q, vI w, vL ab, vN, vL bl, vN, vI u, vL od, vN, vI t, vN] [] E) : ∀ (fuel : Nat) (od : Int) (t : Int) (E : Dat), (0 ≤ t ∧ t ≤ n) → (gdR (rowM E 284 0)) → (asF D E) → (od * wHm q (n - t).toNat t u = wHm q n.toNat 0 u) → (eHm (n - t).toNat t u (rowM E 284 0) = eHm n.toNat 0 u (rowM D 284 0)) → n - t < (fuel : Int) → J 72 [vR 283, vI p, vI n, vI q, vI w, vL ab, vN, vL bl, vN, vI u, vL od, vN, vI t, vN] [] E := by
  intro fuel
  induction fuel with
  | zero => intro od t E ht hE ha ho1 hr1 hMs; exact absurd hMs (by omega)
  | succ fuel ih =>
    intro od t E ht hE ha ho1 hr1 hMs
    have oE := gd_o hE
    have gE := gd_g hE
    refine q_iload (j := 12) hA rfl dX10_hand_72 ?_
    refine q_iload_n (j := 2) hA rfl dX10_hand_74 ?_
    refine q_icmp_ge (tgt := 136) hA (by omega) (by omega) dX10_hand_75 (by decide) (fun h75 => ?_) (fun h75 => ?_)
    · exact hx _ _ _ ht hE ha ho1 hr1 (by rw [show n - t = 0 by omega] at ho1 hr1; exact ⟨by rw [← ho1]; exact (Int.mul_one _).symm, hr1⟩)
    · refine q_iload (j := 9) hA rfl dX10_hand_78 ?_
      refine q_iload (j := 12) hA rfl dX10_hand_80 ?_
      refine q_ishr hA dX10_hand_82 ?_
      refine q_iconst hA dX10_hand_83 ?_
      refine q_iand hA dX10_hand_84 ?_
      rw [show iAnd (iShr u t) 1 = bt u t from bitT (by omega) (by omega)]
      refine q_nmI (fun m em => ?_)
      refine q_istore (j := 13) (lo2 := [vR 283, vI p, vI n, vI q, vI w, vL ab, vN, vL bl, vN, vI u, vL od, vN, vI t, vI m]) hA dX10_hand_85 (by decide) rfl rfl ?_
      have hm := bt_in u t
      rw [← em] at hm
      refine q_lload (j := 10) hA rfl dX10_hand_87 ?_
      refine q_iload (j := 13) hA rfl dX10_hand_89 ?_
      refine q_if_ne (tgt := 99) hA (by omega) dX10_hand_91 (by decide) (fun h91 => ?_) (fun h91 => ?_)
      · refine q_bipush hA (by decide) dX10_hand_99 ?_
        refine q_iload_n (j := 3) hA rfl dX10_hand_101 ?_
        refine q_isub hA dX10_hand_102 ?_
        refine q_i2l hA (by omega) dX10_hand_103 ?_
        refine q_lmul hA dX10_hand_104 ?_
        refine q_nmL (fun od2 eod2 => ?_)
        refine q_lstore (j := 10) (lo2 := [vR 283, vI p, vI n, vI q, vI w, vL ab, vN, vL bl, vN, vI u, vL od2, vN, vI t, vI m]) hA dX10_hand_105 (by decide) rfl rfl ?_
        refine q_aload_n (j := 0) hA rfl dX10_hand_107 ?_
        refine q_aload_n (j := 0) hA rfl dX10_hand_108 ?_
        refine q_aload_n (j := 0) hA rfl dX10_hand_109 ?_
        refine q_iload (j := 13) hA rfl dX10_hand_110 ?_
        refine q_callVB (b := 283) (As := [vI m]) (st := [vR 283, vR 283]) hA l_X10_168 kX10_may (zX10_may oE gE (by omega)) dX10_hand_112 rfl rfl sx_283 (by decide) rfl (Nat.le_of_ble_eq_true rfl) (by omega) (fun h112 => ?_) (fun h112 => ?_)
        · refine q_if_eq (tgt := 123) hA (by decide) dX10_hand_115 (by decide) (fun h115 => absurd h115 (by decide)) (fun h115 => ?_)
          refine q_iload (j := 13) hA rfl dX10_hand_118 ?_
          refine q_goto (tgt := 124) hA dX10_hand_120 (by decide) ?_
          refine q_callVI (b := 283) (As := [vI m]) (st := [vR 283]) hA l_X10_174 kX10_moves (zX10_moves oE gE (by omega) (by first | exact Or.inl rfl | omega)) dX10_hand_124 rfl rfl sx_283 (by decide) rfl (Nat.le_of_ble_eq_true rfl) (by omega) (fun v124 D124 q124 => ?_)
          have g124 := mov_go hE (by omega) (by first | exact (gd_may hE (by omega)).1 h112 | exact gd_ct _ hE) q124
          refine q_callVV (b := 283) (As := [vI v124]) (st := []) hA l_X10_204 kX10_noted (zX10_noted) dX10_hand_127 rfl rfl sx_283 (by decide) rfl (Nat.le_of_ble_eq_true rfl) (by omega) (fun D127 q127 => ?_)
          refine q_iinc (j := 12) (lo2 := [vR 283, vI p, vI n, vI q, vI w, vL ab, vN, vL bl, vN, vI u, vL od2, vN, vI (t + 1), vI m]) hA dX10_hand_130 rfl (by decide) rfl rfl ?_
          refine q_goto (tgt := 72) hA dX10_hand_133 (by decide) ?_
          refine q_fgt (lo2 := [vR 283, vI p, vI n, vI q, vI w, vL ab, vN, vL bl, vN, vI u, vL od2, vN, vI (t + 1), vN]) hA ⟨Or.inr rfl, Or.inr rfl, Or.inr rfl, Or.inr rfl, Or.inr rfl, Or.inr rfl, Or.inr rfl, Or.inr rfl, Or.inr rfl, Or.inr rfl, Or.inr rfl, Or.inr rfl, Or.inr rfl, Or.inl rfl, trivial⟩ ?_
          exact ih _ _ _ (by omega) (by rw [q127, row_nt, g124.1]; exact gd_go hE) (by rw [q127]; exact (ha.mv g124.2.2).nt) (by rw [← ho1, show (n - t).toNat = (n - (t + 1)).toNat + 1 by omega, wHm, ← Int.mul_assoc, eod2, ← em]; unfold wtq; first | rw [if_pos (by omega)] | rw [if_neg (by omega)]) (by rw [← hr1, show (n - t).toNat = (n - (t + 1)).toNat + 1 by omega, eHm, q127, row_nt, g124.1, ← em]; unfold mvR; first | rw [if_pos ((gd_may hE (by omega)).1 h112)] | rw [if_neg (fun z => h112 ((gd_may hE (by omega)).2 z))]) (by omega)
        · refine q_if_eq (tgt := 123) hA (by decide) dX10_hand_115 (by decide) (fun h115 => ?_) (fun h115 => absurd h115 (by decide))
          refine q_iconst hA dX10_hand_123 ?_
          refine q_callVI (b := 283) (As := [vI 2]) (st := [vR 283]) hA l_X10_174 kX10_moves (zX10_moves oE gE (by omega) (by first | exact Or.inl rfl | omega)) dX10_hand_124 rfl rfl sx_283 (by decide) rfl (Nat.le_of_ble_eq_true rfl) (by omega) (fun v124 D124 q124 => ?_)
          have g124 := mov_go hE (by omega) (by first | exact (gd_may hE (by omega)).1 h112 | exact gd_ct _ hE) q124
          refine q_callVV (b := 283) (As := [vI v124]) (st := []) hA l_X10_204 kX10_noted (zX10_noted) dX10_hand_127 rfl rfl sx_283 (by decide) rfl (Nat.le_of_ble_eq_true rfl) (by omega) (fun D127 q127 => ?_)
          refine q_iinc (j := 12) (lo2 := [vR 283, vI p, vI n, vI q, vI w, vL ab, vN, vL bl, vN, vI u, vL od2, vN, vI (t + 1), vI m]) hA dX10_hand_130 rfl (by decide) rfl rfl ?_
          refine q_goto (tgt := 72) hA dX10_hand_133 (by decide) ?_
          refine q_fgt (lo2 := [vR 283, vI p, vI n, vI q, vI w, vL ab, vN, vL bl, vN, vI u, vL od2, vN, vI (t + 1), vN]) hA ⟨Or.inr rfl, Or.inr rfl, Or.inr rfl, Or.inr rfl, Or.inr rfl, Or.inr rfl, Or.inr rfl, Or.inr rfl, Or.inr rfl, Or.inr rfl, Or.inr rfl, Or.inr rfl, Or.inr rfl, Or.inl rfl, trivial⟩ ?_
          exact ih _ _ _ (by omega) (by rw [q127, row_nt, g124.1]; exact gd_go hE) (by rw [q127]; exact (ha.mv g124.2.2).nt) (by rw [← ho1, show (n - t).toNat = (n - (t + 1)).toNat + 1 by omega, wHm, ← Int.mul_assoc, eod2, ← em]; unfold wtq; first | rw [if_pos (by omega)] | rw [if_neg (by omega)]) (by rw [← hr1, show (n - t).toNat = (n - (t + 1)).toNat + 1 by omega, eHm, q127, row_nt, g124.1, ← em]; unfold mvR; first | rw [if_pos ((gd_may hE (by omega)).1 h112)] | rw [if_neg (fun z => h112 ((gd_may hE (by omega)).2 z))]) (by omega)
      · refine q_iload_n (j := 3) hA rfl dX10_hand_94 ?_
        refine q_i2l hA (by omega) dX10_hand_95 ?_
        refine q_goto (tgt := 104) hA dX10_hand_96 (by decide) ?_
        refine q_lmul hA dX10_hand_104 ?_
        refine q_nmL (fun od2 eod2 => ?_)
        refine q_lstore (j := 10) (lo2 := [vR 283, vI p, vI n, vI q, vI w, vL ab, vN, vL bl, vN, vI u, vL od2, vN, vI t, vI m]) hA dX10_hand_105 (by decide) rfl rfl ?_
        refine q_aload_n (j := 0) hA rfl dX10_hand_107 ?_
        refine q_aload_n (j := 0) hA rfl dX10_hand_108 ?_
        refine q_aload_n (j := 0) hA rfl dX10_hand_109 ?_
        refine q_iload (j := 13) hA rfl dX10_hand_110 ?_
        refine q_callVB (b := 283) (As := [vI m]) (st := [vR 283, vR 283]) hA l_X10_168 kX10_may (zX10_may oE gE (by omega)) dX10_hand_112 rfl rfl sx_283 (by decide) rfl (Nat.le_of_ble_eq_true rfl) (by omega) (fun h112 => ?_) (fun h112 => ?_)
        · refine q_if_eq (tgt := 123) hA (by decide) dX10_hand_115 (by decide) (fun h115 => absurd h115 (by decide)) (fun h115 => ?_)
          refine q_iload (j := 13) hA rfl dX10_hand_118 ?_
          refine q_goto (tgt := 124) hA dX10_hand_120 (by decide) ?_
          refine q_callVI (b := 283) (As := [vI m]) (st := [vR 283]) hA l_X10_174 kX10_moves (zX10_moves oE gE (by omega) (by first | exact Or.inl rfl | omega)) dX10_hand_124 rfl rfl sx_283 (by decide) rfl (Nat.le_of_ble_eq_true rfl) (by omega) (fun v124 D124 q124 => ?_)
          have g124 := mov_go hE (by omega) (by first | exact (gd_may hE (by omega)).1 h112 | exact gd_ct _ hE) q124
          refine q_callVV (b := 283) (As := [vI v124]) (st := []) hA l_X10_204 kX10_noted (zX10_noted) dX10_hand_127 rfl rfl sx_283 (by decide) rfl (Nat.le_of_ble_eq_true rfl) (by omega) (fun D127 q127 => ?_)
          refine q_iinc (j := 12) (lo2 := [vR 283, vI p, vI n, vI q, vI w, vL ab, vN, vL bl, vN, vI u, vL od2, vN, vI (t + 1), vI m]) hA dX10_hand_130 rfl (by decide) rfl rfl ?_
          refine q_goto (tgt := 72) hA dX10_hand_133 (by decide) ?_
          refine q_fgt (lo2 := [vR 283, vI p, vI n, vI q, vI w, vL ab, vN, vL bl, vN, vI u, vL od2, vN, vI (t + 1), vN]) hA ⟨Or.inr rfl, Or.inr rfl, Or.inr rfl, Or.inr rfl, Or.inr rfl, Or.inr rfl, Or.inr rfl, Or.inr rfl, Or.inr rfl, Or.inr rfl, Or.inr rfl, Or.inr rfl, Or.inr rfl, Or.inl rfl, trivial⟩ ?_
          exact ih _ _ _ (by omega) (by rw [q127, row_nt, g124.1]; exact gd_go hE) (by rw [q127]; exact (ha.mv g124.2.2).nt) (by rw [← ho1, show (n - t).toNat = (n - (t + 1)).toNat + 1 by omega, wHm, ← Int.mul_assoc, eod2, ← em]; unfold wtq; first | rw [if_pos (by omega)] | rw [if_neg (by omega)]) (by rw [← hr1, show (n - t).toNat = (n - (t + 1)).toNat + 1 by omega, eHm, q127, row_nt, g124.1, ← em]; unfold mvR; first | rw [if_pos ((gd_may hE (by omega)).1 h112)] | rw [if_neg (fun z => h112 ((gd_may hE (by omega)).2 z))]) (by omega)
        · refine q_if_eq (tgt := 123) hA (by decide) dX10_hand_115 (by decide) (fun h115 => ?_) (fun h115 => absurd h115 (by decide))
          refine q_iconst hA dX10_hand_123 ?_
          refine q_callVI (b := 283) (As := [vI 2]) (st := [vR 283]) hA l_X10_174 kX10_moves (zX10_moves oE gE (by omega) (by first | exact Or.inl rfl | omega)) dX10_hand_124 rfl rfl sx_283 (by decide) rfl (Nat.le_of_ble_eq_true rfl) (by omega) (fun v124 D124 q124 => ?_)
          have g124 := mov_go hE (by omega) (by first | exact (gd_may hE (by omega)).1 h112 | exact gd_ct _ hE) q124
          refine q_callVV (b := 283) (As := [vI v124]) (st := []) hA l_X10_204 kX10_noted (zX10_noted) dX10_hand_127 rfl rfl sx_283 (by decide) rfl (Nat.le_of_ble_eq_true rfl) (by omega) (fun D127 q127 => ?_)
          refine q_iinc (j := 12) (lo2 := [vR 283, vI p, vI n, vI q, vI w, vL ab, vN, vL bl, vN, vI u, vL od2, vN, vI (t + 1), vI m]) hA dX10_hand_130 rfl (by decide) rfl rfl ?_
          refine q_goto (tgt := 72) hA dX10_hand_133 (by decide) ?_
          refine q_fgt (lo2 := [vR 283, vI p, vI n, vI q, vI w, vL ab, vN, vL bl, vN, vI u, vL od2, vN, vI (t + 1), vN]) hA ⟨Or.inr rfl, Or.inr rfl, Or.inr rfl, Or.inr rfl, Or.inr rfl, Or.inr rfl, Or.inr rfl, Or.inr rfl, Or.inr rfl, Or.inr rfl, Or.inr rfl, Or.inr rfl, Or.inr rfl, Or.inl rfl, trivial⟩ ?_
          exact ih _ _ _ (by omega) (by rw [q127, row_nt, g124.1]; exact gd_go hE) (by rw [q127]; exact (ha.mv g124.2.2).nt) (by rw [← ho1, show (n - t).toNat = (n - (t + 1)).toNat + 1 by omega, wHm, ← Int.mul_assoc, eod2, ← em]; unfold wtq; first | rw [if_pos (by omega)] | rw [if_neg (by omega)]) (by rw [← hr1, show (n - t).toNat = (n - (t + 1)).toNat + 1 by omega, eHm, q127, row_nt, g124.1, ← em]; unfold mvR; first | rw [if_pos ((gd_may hE (by omega)).1 h112)] | rw [if_neg (fun z => h112 ((gd_may hE (by omega)).2 z))]) (by omega)
set_option maxHeartbeats 4000000 in
set_option maxRecDepth 100000 in
theorem zX10_hand_L58 {g : Gm} {l : Launch} {D : Dat} (ho : mOk D 284) (hg0 : 0 < D 284 0 → gdR (rowM D 284 0)) {p : Int} {n : Int} {q : Int} {w : Int} (rp : -2147483648 ≤ p ∧ p ≤ 2147483647) (rn : -2147483648 ≤ n ∧ n ≤ 2147483647) (rq : -2147483648 ≤ q ∧ q ≤ 2147483647) (rw : -2147483648 ≤ w ∧ w ≤ 2147483647)  (hb : (((0 ≤ p ∧ p < D 284 0) ∧ (0 ≤ n ∧ n ≤ 6)) ∧ (0 ≤ q ∧ q ≤ 10)) ∧ (0 ≤ w ∧ w ≤ 1)) {J : JT} (hA : AX g l RX10 cX10_hand 14 6 J) (hR : ReI cX10_hand (fun v D1 => (¬ ((((0 ≤ p ∧ p < D 284 0) ∧ (0 ≤ n ∧ n ≤ 6)) ∧ (0 ≤ q ∧ q ≤ 10)) ∧ (0 ≤ w ∧ w ≤ 1)) ∧ v = -1 ∧ D1 = D) ∨ (((((0 ≤ p ∧ p < D 284 0) ∧ (0 ≤ n ∧ n ≤ 6)) ∧ (0 ≤ q ∧ q ≤ 10)) ∧ (0 ≤ w ∧ w ≤ 1)) ∧ (v = if w = 0 then partsR p q n.toNat (rowM D 284 0) / gI (partsR p q n.toNat (rowM D 284 0)) (10 ^ n.toNat) else (10 ^ n.toNat) / gI (partsR p q n.toNat (rowM D 284 0)) (10 ^ n.toNat)) ∧ bkF D D1)) J) : ∀ (fuel : Nat) (ab : Int) (bl : Int) (u : Int) (E : Dat), (0 ≤ u ∧ u ≤ pw n) → (ab = sumI (fun u => if rF (eHm n.toNat 0 u (rowM D 284 0)) = p then wHm q n.toNat 0 u else 0) u.toNat) → (bl = sumI (fun u => wHm q n.toNat 0 u) u.toNat) → (rowM E 284 0 = (rowM D 284 0)) → (asF D E) → 64 - u < (fuel : Int) → J 58 [vR 283, vI p, vI n, vI q, vI w, vL ab, vN, vL bl, vN, vI u, vN, vN, vN, vN] [] E := by
  intro fuel
  induction fuel with
  | zero => intro ab bl u E hu hab hbl hE ha hMs; exact absurd hMs (by have := pw_6 (n := n) (by omega); omega)
  | succ fuel ih =>
    intro ab bl u E hu hab hbl hE ha hMs
    have hpw := pw_6 (n := n) (by omega)
    have hgd := hg0 (by omega)
    refine q_iload (j := 9) hA rfl dX10_hand_58 ?_
    refine q_iconst hA dX10_hand_60 ?_
    refine q_iload_n (j := 2) hA rfl dX10_hand_61 ?_
    refine q_ishl hA dX10_hand_62 ?_
    rw [show iShl 1 n = pw n from shl1 (by omega)]
    have hpw := pw_6 (n := n) (by omega)
    refine q_icmp_ge (tgt := 174) hA (by omega) (by omega) dX10_hand_63 (by decide) (fun h63 => ?_) (fun h63 => ?_)
    · have hA1 : ab = partsR p q n.toNat (rowM D 284 0) := by rw [hab, show u = pw n by omega, pw_nat]; exact above_eq (by omega) n.toNat (rowM D 284 0)
      have hB1 : bl = 10 ^ n.toNat := by rw [hbl, show u = pw n by omega, pw_nat]; exact below_eq n.toNat
      have hpi := partsR_in (p := p) (q := q) (by omega) n.toNat (rowM D 284 0)
      have hp10 := pow10_6 (n := n) (by omega)
      refine q_lload (j := 5) hA rfl dX10_hand_174 ?_
      refine q_lload (j := 7) hA rfl dX10_hand_176 ?_
      refine q_iload (j := 4) hA rfl dX10_hand_178 ?_
      refine q_callSP (As := [vL ab, vL bl, vI w]) (st := []) hA l_X10_210 kX10_part (zX10_part (by rw [hA1]; exact ⟨hpi.1, by omega⟩) (by rw [hB1]; omega) (by omega)) dX10_hand_180 rfl rfl (Nat.le_of_ble_eq_true rfl) (by omega) ?_
      refine q_nmI (fun v180 ev180 => ?_)
      exact hR 183 _ _ _ dX10_hand_183 (by exact Or.inr ⟨hb, by rw [ev180, hA1, hB1], hE, ha.1, ha.2.1⟩)
    · refine q_lconst hA dX10_hand_66 ?_
      show J _ _ (vL 1 :: _) _
      refine q_lstore (j := 10) (lo2 := [vR 283, vI p, vI n, vI q, vI w, vL ab, vN, vL bl, vN, vI u, vL 1, vN, vN, vN]) hA dX10_hand_67 (by decide) rfl rfl ?_
      refine q_iconst hA dX10_hand_69 ?_
      refine q_istore (j := 12) (lo2 := [vR 283, vI p, vI n, vI q, vI w, vL ab, vN, vL bl, vN, vI u, vL 1, vN, vI 0, vN]) hA dX10_hand_70 (by decide) rfl rfl ?_
      refine zX10_hand_L72 (D := D) (p := p) (n := n) (q := q) (w := w) ho hg0 rp rn rq rw hb (by omega) hA hR (fun od t E ht hE ha ho1 hr1 hx => ?_) 1000 _ _ _ (by omega) (by rw [hE]; exact hgd) (by exact ha) (by rw [Int.one_mul, Int.sub_zero]) (by rw [Int.sub_zero, hE]) (by omega)
      refine q_lload (j := 7) hA rfl dX10_hand_136 ?_
      refine q_lload (j := 10) hA rfl dX10_hand_138 ?_
      refine q_ladd hA dX10_hand_140 ?_
      refine q_lstore (j := 7) (lo2 := [vR 283, vI p, vI n, vI q, vI w, vL ab, vN, vL (bl + od), vN, vI u, vL od, vN, vI t, vN]) hA dX10_hand_141 (by decide) rfl rfl ?_
      have hfr := (gd_o hE).f
      refine q_lload (j := 5) hA rfl dX10_hand_143 ?_
      refine q_aload_n (j := 0) hA rfl dX10_hand_145 ?_
      refine q_getR hA f_X10_7 dX10_hand_146 sx_283 (by decide) fx_283_0 ?_
      refine q_iconst hA dX10_hand_149 ?_
      refine q_iald (x := E 284 1) hA dX10_hand_150 sx_284 (by omega) (by decide) rfl ?_
      refine q_iload_n (j := 1) hA rfl dX10_hand_151 ?_
      refine q_icmp_ne (tgt := 160) hA (by omega) (by omega) dX10_hand_152 (by decide) (fun h152 => ?_) (fun h152 => ?_)
      · refine q_lconst hA dX10_hand_160 ?_
        show J _ _ (vL 0 :: _) _
        refine q_ladd hA dX10_hand_161 ?_
        refine q_lstore (j := 5) (lo2 := [vR 283, vI p, vI n, vI q, vI w, vL (ab + 0), vN, vL (bl + od), vN, vI u, vL od, vN, vI t, vN]) hA dX10_hand_162 (by decide) rfl rfl ?_
        refine q_aload_n (j := 0) hA rfl dX10_hand_164 ?_
        refine q_callVV (b := 283) (As := []) (st := []) hA l_X10_207 kX10_backs (zX10_backs) dX10_hand_165 rfl rfl sx_283 (by decide) rfl (Nat.le_of_ble_eq_true rfl) (by omega) (fun D165 q165 => ?_)
        have hbk := ha.bk q165
        refine q_iinc (j := 9) (lo2 := [vR 283, vI p, vI n, vI q, vI w, vL (ab + 0), vN, vL (bl + od), vN, vI (u + 1), vL od, vN, vI t, vN]) hA dX10_hand_168 rfl (by decide) rfl rfl ?_
        refine q_goto (tgt := 58) hA dX10_hand_171 (by decide) ?_
        refine q_fgt (lo2 := [vR 283, vI p, vI n, vI q, vI w, vL (ab + 0), vN, vL (bl + od), vN, vI (u + 1), vN, vN, vN, vN]) hA ⟨Or.inr rfl, Or.inr rfl, Or.inr rfl, Or.inr rfl, Or.inr rfl, Or.inr rfl, Or.inr rfl, Or.inr rfl, Or.inr rfl, Or.inr rfl, Or.inl rfl, Or.inr rfl, Or.inl rfl, Or.inr rfl, trivial⟩ ?_
        exact ih _ _ _ _ (by omega) (by rw [sumI_step (by omega), hab, ← hx.2, ← hx.1]; first | rw [if_pos (by rw [mF]; omega)] | (rw [if_neg (by rw [mF]; omega)])) (by rw [sumI_step (by omega), hbl, hx.1]) (by exact hbk.2.1) (by exact hbk.1) (by omega)
      · refine q_lload (j := 10) hA rfl dX10_hand_155 ?_
        refine q_goto (tgt := 161) hA dX10_hand_157 (by decide) ?_
        refine q_ladd hA dX10_hand_161 ?_
        refine q_lstore (j := 5) (lo2 := [vR 283, vI p, vI n, vI q, vI w, vL (ab + od), vN, vL (bl + od), vN, vI u, vL od, vN, vI t, vN]) hA dX10_hand_162 (by decide) rfl rfl ?_
        refine q_aload_n (j := 0) hA rfl dX10_hand_164 ?_
        refine q_callVV (b := 283) (As := []) (st := []) hA l_X10_207 kX10_backs (zX10_backs) dX10_hand_165 rfl rfl sx_283 (by decide) rfl (Nat.le_of_ble_eq_true rfl) (by omega) (fun D165 q165 => ?_)
        have hbk := ha.bk q165
        refine q_iinc (j := 9) (lo2 := [vR 283, vI p, vI n, vI q, vI w, vL (ab + od), vN, vL (bl + od), vN, vI (u + 1), vL od, vN, vI t, vN]) hA dX10_hand_168 rfl (by decide) rfl rfl ?_
        refine q_goto (tgt := 58) hA dX10_hand_171 (by decide) ?_
        refine q_fgt (lo2 := [vR 283, vI p, vI n, vI q, vI w, vL (ab + od), vN, vL (bl + od), vN, vI (u + 1), vN, vN, vN, vN]) hA ⟨Or.inr rfl, Or.inr rfl, Or.inr rfl, Or.inr rfl, Or.inr rfl, Or.inr rfl, Or.inr rfl, Or.inr rfl, Or.inr rfl, Or.inr rfl, Or.inl rfl, Or.inr rfl, Or.inl rfl, Or.inr rfl, trivial⟩ ?_
        exact ih _ _ _ _ (by omega) (by rw [sumI_step (by omega), hab, ← hx.2, ← hx.1]; first | rw [if_pos (by rw [mF]; omega)] | (rw [if_neg (by rw [mF]; omega)])) (by rw [sumI_step (by omega), hbl, hx.1]) (by exact hbk.2.1) (by exact hbk.1) (by omega)
set_option maxHeartbeats 4000000 in
set_option maxRecDepth 100000 in
theorem zX10_hand {g : Gm} {l : Launch} {D : Dat} (ho : mOk D 284) (hg0 : 0 < D 284 0 → gdR (rowM D 284 0)) {p : Int} {n : Int} {q : Int} {w : Int} (rp : -2147483648 ≤ p ∧ p ≤ 2147483647) (rn : -2147483648 ≤ n ∧ n ≤ 2147483647) (rq : -2147483648 ≤ q ∧ q ≤ 2147483647) (rw : -2147483648 ≤ w ∧ w ≤ 2147483647) : CrI g l 6 mX10_hand [vR 283, vI p, vI n, vI q, vI w] D (fun v D1 => (¬ ((((0 ≤ p ∧ p < D 284 0) ∧ (0 ≤ n ∧ n ≤ 6)) ∧ (0 ≤ q ∧ q ≤ 10)) ∧ (0 ≤ w ∧ w ≤ 1)) ∧ v = -1 ∧ D1 = D) ∨ (((((0 ≤ p ∧ p < D 284 0) ∧ (0 ≤ n ∧ n ≤ 6)) ∧ (0 ≤ q ∧ q ≤ 10)) ∧ (0 ≤ w ∧ w ≤ 1)) ∧ (v = if w = 0 then partsR p q n.toNat (rowM D 284 0) / gI (partsR p q n.toNat (rowM D 284 0)) (10 ^ n.toNat) else (10 ^ n.toNat) / gI (partsR p q n.toNat (rowM D 284 0)) (10 ^ n.toNat)) ∧ bkF D D1)) := by
  refine Cr.ofI (lo0 := [vR 283, vI p, vI n, vI q, vI w, vN, vN, vN, vN, vN, vN, vN, vN, vN]) (by decide) (Nat.le_of_ble_eq_true rfl) rfl (fun J hA hR => ?_)
  have hn := ho.n
  have hf := ho.f
  have hb := ho.b
  refine q_aload_n (j := 0) hA rfl dX10_hand_0 ?_
  refine q_iload_n (j := 1) hA rfl dX10_hand_1 ?_
  refine q_callVB (b := 283) (As := [vI p]) (st := []) hA l_X10_136 kX10_isPicture (zX10_isPicture (by first | assumption | omega | rfl) (by first | assumption | omega | rfl)) dX10_hand_2 rfl rfl sx_283 (by decide) rfl (Nat.le_of_ble_eq_true rfl) (by omega) (fun h2 => ?_) (fun h2 => ?_)
  · refine q_if_eq (tgt := 43) hA (by decide) dX10_hand_5 (by decide) (fun h5 => absurd h5 (by decide)) (fun h5 => ?_)
    refine q_iload_n (j := 2) hA rfl dX10_hand_8 ?_
    refine q_i2l hA (by omega) dX10_hand_9 ?_
    refine q_lconst hA dX10_hand_10 ?_
    show J _ _ (vL 0 :: _) _
    refine q_ldc2 hA c_X10_197 dX10_hand_11 ?_
    refine q_callSB (As := [vL n, vL 0, vL 6]) (st := []) hA l_X10_77 kX10_in (zX10_in (by first | assumption | omega | rfl) (by first | assumption | omega | rfl) (by first | assumption | omega | rfl)) dX10_hand_14 rfl rfl (Nat.le_of_ble_eq_true rfl) (by omega) (fun h14 => ?_) (fun h14 => ?_)
    · refine q_if_eq (tgt := 43) hA (by decide) dX10_hand_17 (by decide) (fun h17 => absurd h17 (by decide)) (fun h17 => ?_)
      refine q_iload_n (j := 3) hA rfl dX10_hand_20 ?_
      refine q_i2l hA (by omega) dX10_hand_21 ?_
      refine q_lconst hA dX10_hand_22 ?_
      show J _ _ (vL 0 :: _) _
      refine q_ldc2 hA c_X10_199 dX10_hand_23 ?_
      refine q_callSB (As := [vL q, vL 0, vL 10]) (st := []) hA l_X10_77 kX10_in (zX10_in (by first | assumption | omega | rfl) (by first | assumption | omega | rfl) (by first | assumption | omega | rfl)) dX10_hand_26 rfl rfl (Nat.le_of_ble_eq_true rfl) (by omega) (fun h26 => ?_) (fun h26 => ?_)
      · refine q_if_eq (tgt := 43) hA (by decide) dX10_hand_29 (by decide) (fun h29 => absurd h29 (by decide)) (fun h29 => ?_)
        refine q_iload (j := 4) hA rfl dX10_hand_32 ?_
        refine q_i2l hA (by omega) dX10_hand_34 ?_
        refine q_lconst hA dX10_hand_35 ?_
        show J _ _ (vL 0 :: _) _
        refine q_lconst hA dX10_hand_36 ?_
        show J _ _ (vL 1 :: _) _
        refine q_callSB (As := [vL w, vL 0, vL 1]) (st := []) hA l_X10_77 kX10_in (zX10_in (by first | assumption | omega | rfl) (by first | assumption | omega | rfl) (by first | assumption | omega | rfl)) dX10_hand_37 rfl rfl (Nat.le_of_ble_eq_true rfl) (by omega) (fun h37 => ?_) (fun h37 => ?_)
        · refine q_if_ne (tgt := 45) hA (by decide) dX10_hand_40 (by decide) (fun h40 => ?_) (fun h40 => absurd h40 (by decide))
          refine q_lconst hA dX10_hand_45 ?_
          show J _ _ (vL 0 :: _) _
          refine q_lstore (j := 5) (lo2 := [vR 283, vI p, vI n, vI q, vI w, vL 0, vN, vN, vN, vN, vN, vN, vN, vN]) hA dX10_hand_46 (by decide) rfl rfl ?_
          refine q_lconst hA dX10_hand_48 ?_
          show J _ _ (vL 0 :: _) _
          refine q_lstore (j := 7) (lo2 := [vR 283, vI p, vI n, vI q, vI w, vL 0, vN, vL 0, vN, vN, vN, vN, vN, vN]) hA dX10_hand_49 (by decide) rfl rfl ?_
          have hgd := hg0 (by omega)
          refine q_aload_n (j := 0) hA rfl dX10_hand_51 ?_
          refine q_callVV (b := 283) (As := []) (st := []) hA l_X10_201 kX10_asides (zX10_asides) dX10_hand_52 rfl rfl sx_283 (by decide) rfl (Nat.le_of_ble_eq_true rfl) (by omega) (fun D52 q52 => ?_)
          refine q_iconst hA dX10_hand_55 ?_
          refine q_istore (j := 9) (lo2 := [vR 283, vI p, vI n, vI q, vI w, vL 0, vN, vL 0, vN, vI 0, vN, vN, vN, vN]) hA dX10_hand_56 (by decide) rfl rfl ?_
          refine zX10_hand_L58 (D := D) (p := p) (n := n) (q := q) (w := w) ho hg0 rp rn rq rw (by omega) hA hR 1000 _ _ _ _ (by have := pw_6 (n := n) (by omega); omega) (by rfl) (by rfl) (by rw [rowM_c (q52.2.2 284 (by omega))]) (by exact asF.of q52) (by omega)
        · refine q_if_ne (tgt := 45) hA (by decide) dX10_hand_40 (by decide) (fun h40 => absurd h40 (by decide)) (fun h40 => ?_)
          refine q_iconst hA dX10_hand_43 ?_
          exact hR 44 _ _ _ dX10_hand_44 (by exact Or.inl ⟨by omega, rfl, rfl⟩)
      · refine q_if_eq (tgt := 43) hA (by decide) dX10_hand_29 (by decide) (fun h29 => ?_) (fun h29 => absurd h29 (by decide))
        refine q_iconst hA dX10_hand_43 ?_
        exact hR 44 _ _ _ dX10_hand_44 (by exact Or.inl ⟨by omega, rfl, rfl⟩)
    · refine q_if_eq (tgt := 43) hA (by decide) dX10_hand_17 (by decide) (fun h17 => ?_) (fun h17 => absurd h17 (by decide))
      refine q_iconst hA dX10_hand_43 ?_
      exact hR 44 _ _ _ dX10_hand_44 (by exact Or.inl ⟨by omega, rfl, rfl⟩)
  · refine q_if_eq (tgt := 43) hA (by decide) dX10_hand_5 (by decide) (fun h5 => ?_) (fun h5 => absurd h5 (by decide))
    refine q_iconst hA dX10_hand_43 ?_
    exact hR 44 _ _ _ dX10_hand_44 (by exact Or.inl ⟨by omega, rfl, rfl⟩)
set_option maxHeartbeats 4000000 in
set_option maxRecDepth 100000 in
theorem zX10_reach_L12 {g : Gm} {l : Launch} {D : Dat} (ho : mOk D 284) (hg0 : 0 < D 284 0 → gdR (rowM D 284 0))  (hb : 0 < D 284 0) {J : JT} (hA : AX g l RX10 cX10_reach 6 5 J) (hR : ReI cX10_reach (fun v D1 => (¬ 0 < D 284 0 ∧ v = -2 ∧ D1 = D) ∨ (0 < D 284 0 ∧ isReach (rowM D 284 0) (8 * D 284 1 + D 284 2) v ∧ ∀ c, c ≠ 290 → c ≠ 291 → D1 c = D c)) J) (hx : ∀ (k : Int) (E : Dat), (0 ≤ k ∧ k ≤ 64) → (∀ i : Int, 0 ≤ i → i < k → E 291 i = 0) → (∀ c, c ≠ 291 → E c = D c) → (k = 64) → J 31 [vR 283, vI k, vN, vN, vN, vN] [] E) : ∀ (fuel : Nat) (k : Int) (E : Dat), (0 ≤ k ∧ k ≤ 64) → (∀ i : Int, 0 ≤ i → i < k → E 291 i = 0) → (∀ c, c ≠ 291 → E c = D c) → 64 - k < (fuel : Int) → J 12 [vR 283, vI k, vN, vN, vN, vN] [] E := by
  intro fuel
  induction fuel with
  | zero => intro k E hk he hf hMs; exact absurd hMs (by omega)
  | succ fuel ih =>
    intro k E hk he hf hMs
    refine q_iload_n (j := 1) hA rfl dX10_reach_12 ?_
    refine q_bipush hA (by decide) dX10_reach_13 ?_
    refine q_icmp_ge (tgt := 31) hA (by omega) (by omega) dX10_reach_15 (by decide) (fun h15 => ?_) (fun h15 => ?_)
    · exact hx _ _ hk he hf (by omega)
    · refine q_aload_n (j := 0) hA rfl dX10_reach_18 ?_
      refine q_getR hA f_X10_31 dX10_reach_19 sx_283 (by decide) fx_283_10 ?_
      refine q_iload_n (j := 1) hA rfl dX10_reach_22 ?_
      refine q_iconst hA dX10_reach_23 ?_
      refine q_zast hA dX10_reach_24 sx_291 (by omega) (by decide) (by omega) ?_
      refine q_iinc (j := 1) (lo2 := [vR 283, vI (k + 1), vN, vN, vN, vN]) hA dX10_reach_25 rfl (by decide) rfl rfl ?_
      refine q_goto (tgt := 12) hA dX10_reach_28 (by decide) ?_
      exact ih _ _ (by omega) (by intro i i1 i2; by_cases h : i = k; (subst h; exact upD_s); (rw [upD_n (Or.inr h)]; exact he i i1 (by omega))) (by exact fun c hc => (upD_other hc).trans (hf c hc)) (by omega)
set_option maxHeartbeats 4000000 in
set_option maxRecDepth 100000 in
theorem zX10_reach_L81 {g : Gm} {l : Launch} {D : Dat} (ho : mOk D 284) (hg0 : 0 < D 284 0 → gdR (rowM D 284 0)) {ac2 k : Int} (hb : 0 < D 284 0) {J : JT} (hA : AX g l RX10 cX10_reach 6 5 J) (hR : ReI cX10_reach (fun v D1 => (¬ 0 < D 284 0 ∧ v = -2 ∧ D1 = D) ∨ (0 < D 284 0 ∧ isReach (rowM D 284 0) (8 * D 284 1 + D 284 2) v ∧ ∀ c, c ≠ 290 → c ≠ 291 → D1 c = D c)) J) (hx : ∀ (e : Int) (m : Int) (E : Dat), (0 ≤ m ∧ m ≤ 3) → (k < e) → (rqI (rowM D 284 0) (8 * D 284 1 + D 284 2) D E k e) → (rqS E ac2 (k + 1)) → (rqM (rowM D 284 0) E k m) → (k < e ∧ rqM (rowM D 284 0) E k 3) → J 143 [vR 283, vI ac2, vI e, vI k, vI m, vN] [] E) : ∀ (fuel : Nat) (e : Int) (m : Int) (E : Dat), (0 ≤ m ∧ m ≤ 3) → (k < e) → (rqI (rowM D 284 0) (8 * D 284 1 + D 284 2) D E k e) → (rqS E ac2 (k + 1)) → (rqM (rowM D 284 0) E k m) → 3 - m < (fuel : Int) → J 81 [vR 283, vI ac2, vI e, vI k, vI m, vN] [] E := by
  intro fuel
  induction fuel with
  | zero => intro e m E hm hke hQ hS hM hMs; exact absurd hMs (by omega)
  | succ fuel ih =>
    intro e m E hm hke hQ hS hM hMs
    have hle := hQ.le
    have hgd := hg0 hb
    have hn8 := hgd.1.2.1.2.1
    have hqk := hQ.2.1 k (by omega) (by omega)
    have hz64 := hqk.1.1
    have eR : rowM E 284 0 = (rowM D 284 0) := rowM_c (hQ.2.2.2.2.2 284 (by omega) (by omega))
    have hg2 := gd_c hgd eR
    have hz2 : zOk (rowM E 284 0) (E 290 k) := by rw [eR]; exact hqk.1
    refine q_iload (j := 4) hA rfl dX10_reach_81 ?_
    refine q_iconst hA dX10_reach_83 ?_
    refine q_icmp_ge (tgt := 143) hA (by omega) (by omega) dX10_reach_84 (by decide) (fun h84 => ?_) (fun h84 => ?_)
    · exact hx _ _ _ hm hke hQ hS hM ⟨hke, by rw [show (3 : Int) = m by omega]; exact hM⟩
    · refine q_aload_n (j := 0) hA rfl dX10_reach_87 ?_
      refine q_aload_n (j := 0) hA rfl dX10_reach_88 ?_
      refine q_getR hA f_X10_28 dX10_reach_89 sx_283 (by decide) fx_283_9 ?_
      refine q_iload_n (j := 3) hA rfl dX10_reach_92 ?_
      refine q_iald (x := E 290 k) hA dX10_reach_93 sx_290 (by omega) (by decide) rfl ?_
      refine q_iload (j := 4) hA rfl dX10_reach_94 ?_
      refine q_callVP (b := 283) (As := [vI (E 290 k), vI m]) (st := []) hA l_X10_180 kX10_next (zX10_next hg2 hz2 (by omega)) dX10_reach_96 rfl rfl sx_283 (by decide) rfl (Nat.le_of_ble_eq_true rfl) (by omega) ?_
      refine q_nmI (fun tt ett => ?_)
      rw [eR] at ett
      have hti := bhR_in (r := (rowM D 284 0)) (z := E 290 k) (m := m) hn8
      rw [← ett] at hti
      refine q_istore (j := 5) (lo2 := [vR 283, vI ac2, vI e, vI k, vI m, vI tt]) hA dX10_reach_99 (by decide) rfl rfl ?_
      refine q_iload (j := 5) hA rfl dX10_reach_101 ?_
      refine q_bipush hA (by decide) dX10_reach_103 ?_
      refine q_icmp_eq (tgt := 137) hA (by omega) (by omega) dX10_reach_105 (by decide) (fun h105 => ?_) (fun h105 => ?_)
      · refine q_iinc (j := 4) (lo2 := [vR 283, vI ac2, vI e, vI k, vI (m + 1), vI tt]) hA dX10_reach_137 rfl (by decide) rfl rfl ?_
        refine q_goto (tgt := 81) hA dX10_reach_140 (by decide) ?_
        refine q_fgt (lo2 := [vR 283, vI ac2, vI e, vI k, vI (m + 1), vN]) hA ⟨Or.inr rfl, Or.inr rfl, Or.inr rfl, Or.inr rfl, Or.inr rfl, Or.inl rfl, trivial⟩ ?_
        exact ih _ _ _ (by omega) (by omega) (by first | exact rq_add hQ hzt (hqk.2.1.step (by omega) ett.symm (by omega)) (by omega) | exact hQ) (by first | exact hS.up (by omega) | exact hS) (by first | exact hM.up hke ett.symm | exact hM.no (by rw [← ett]; omega)) (by omega)
      · have hsv := hQ.2.2.1 tt (by omega) (by omega)
        have hsr : E 291 tt = 0 ∨ E 291 tt = 1 := by rcases hsv with q | q; exact Or.inl q; exact Or.inr q.1
        clear hsv
        refine q_aload_n (j := 0) hA rfl dX10_reach_108 ?_
        refine q_getR hA f_X10_31 dX10_reach_109 sx_283 (by decide) fx_283_10 ?_
        refine q_iload (j := 5) hA rfl dX10_reach_112 ?_
        refine q_zald (x := E 291 tt) hA dX10_reach_114 sx_291 (by omega) (by decide) rfl ?_
        refine q_if_ne (tgt := 137) hA (by omega) dX10_reach_115 (by decide) (fun h115 => ?_) (fun h115 => ?_)
        · refine q_iinc (j := 4) (lo2 := [vR 283, vI ac2, vI e, vI k, vI (m + 1), vI tt]) hA dX10_reach_137 rfl (by decide) rfl rfl ?_
          refine q_goto (tgt := 81) hA dX10_reach_140 (by decide) ?_
          refine q_fgt (lo2 := [vR 283, vI ac2, vI e, vI k, vI (m + 1), vN]) hA ⟨Or.inr rfl, Or.inr rfl, Or.inr rfl, Or.inr rfl, Or.inr rfl, Or.inl rfl, trivial⟩ ?_
          exact ih _ _ _ (by omega) (by omega) (by first | exact rq_add hQ hzt (hqk.2.1.step (by omega) ett.symm (by omega)) (by omega) | exact hQ) (by first | exact hS.up (by omega) | exact hS) (by first | exact hM.up hke ett.symm | exact hM.no (by rw [← ett]; omega)) (by omega)
        · have hzt : zOk (rowM D 284 0) tt := by rcases bhR_ok (m := m) hgd.2.1 hn8 hqk.1 (by omega) with q | q; (have := q.1; omega); (rw [ett]; exact q)
          refine q_aload_n (j := 0) hA rfl dX10_reach_118 ?_
          refine q_getR hA f_X10_31 dX10_reach_119 sx_283 (by decide) fx_283_10 ?_
          refine q_iload (j := 5) hA rfl dX10_reach_122 ?_
          refine q_iconst hA dX10_reach_124 ?_
          refine q_zast hA dX10_reach_125 sx_291 (by omega) (by decide) (by omega) ?_
          refine q_aload_n (j := 0) hA rfl dX10_reach_126 ?_
          refine q_getR hA f_X10_28 dX10_reach_127 sx_283 (by decide) fx_283_9 ?_
          refine q_iload_n (j := 2) hA rfl dX10_reach_130 ?_
          refine q_iload (j := 5) hA rfl dX10_reach_131 ?_
          refine q_iast hA dX10_reach_133 sx_290 (by omega) (by decide) ?_
          refine q_iinc (j := 2) (lo2 := [vR 283, vI ac2, vI (e + 1), vI k, vI m, vI tt]) hA dX10_reach_134 rfl (by decide) rfl rfl ?_
          refine q_iinc (j := 4) (lo2 := [vR 283, vI ac2, vI (e + 1), vI k, vI (m + 1), vI tt]) hA dX10_reach_137 rfl (by decide) rfl rfl ?_
          refine q_goto (tgt := 81) hA dX10_reach_140 (by decide) ?_
          refine q_fgt (lo2 := [vR 283, vI ac2, vI (e + 1), vI k, vI (m + 1), vN]) hA ⟨Or.inr rfl, Or.inr rfl, Or.inr rfl, Or.inr rfl, Or.inr rfl, Or.inl rfl, trivial⟩ ?_
          exact ih _ _ _ (by omega) (by omega) (by first | exact rq_add hQ hzt (hqk.2.1.step (by omega) ett.symm (by omega)) (by omega) | exact hQ) (by first | exact hS.up (by omega) | exact hS) (by first | exact hM.up hke ett.symm | exact hM.no (by rw [← ett]; omega)) (by omega)
set_option maxHeartbeats 4000000 in
set_option maxRecDepth 100000 in
theorem zX10_reach_L59 {g : Gm} {l : Launch} {D : Dat} (ho : mOk D 284) (hg0 : 0 < D 284 0 → gdR (rowM D 284 0))  (hb : 0 < D 284 0) {J : JT} (hA : AX g l RX10 cX10_reach 6 5 J) (hR : ReI cX10_reach (fun v D1 => (¬ 0 < D 284 0 ∧ v = -2 ∧ D1 = D) ∨ (0 < D 284 0 ∧ isReach (rowM D 284 0) (8 * D 284 1 + D 284 2) v ∧ ∀ c, c ≠ 290 → c ≠ 291 → D1 c = D c)) J) : ∀ (fuel : Nat) (acc : Int) (e : Int) (k : Int) (E : Dat), (rqI (rowM D 284 0) (8 * D 284 1 + D 284 2) D E k e) → (rqS E acc k) → 64 - k < (fuel : Int) → J 59 [vR 283, vI acc, vI e, vI k, vN, vN] [] E := by
  intro fuel
  induction fuel with
  | zero => intro acc e k E hQ hS hMs; exact absurd hMs (by have := hQ.le; omega)
  | succ fuel ih =>
    intro acc e k E hQ hS hMs
    have hle := hQ.le
    refine q_iload_n (j := 3) hA rfl dX10_reach_59 ?_
    refine q_iload_n (j := 2) hA rfl dX10_reach_60 ?_
    refine q_icmp_ge (tgt := 149) hA (by omega) (by omega) dX10_reach_61 (by decide) (fun h61 => ?_) (fun h61 => ?_)
    · refine q_iload_n (j := 1) hA rfl dX10_reach_149 ?_
      exact hR 150 _ _ _ dX10_reach_150 (by have hgd := hg0 hb; exact Or.inr ⟨hb, rq_end hgd.1.2.1.2.1 (z0_ok hgd).1 hQ (by omega) hS, hQ.2.2.2.2.2⟩)
    · have hle := hQ.le
      have hqk := hQ.2.1 k (by omega) (by omega)
      have hz64 := hqk.1.1
      have hS1 := hQ.1
      refine q_iload_n (j := 1) hA rfl dX10_reach_64 ?_
      refine q_iconst hA dX10_reach_65 ?_
      refine q_aload_n (j := 0) hA rfl dX10_reach_66 ?_
      refine q_getR hA f_X10_28 dX10_reach_67 sx_283 (by decide) fx_283_9 ?_
      refine q_iload_n (j := 3) hA rfl dX10_reach_70 ?_
      refine q_iald (x := E 290 k) hA dX10_reach_71 sx_290 (by omega) (by decide) rfl ?_
      refine q_bipush hA (by decide) dX10_reach_72 ?_
      refine q_idiv hA (by omega) (by omega) dX10_reach_74 ?_
      refine q_ishl hA dX10_reach_75 ?_
      refine q_ior hA dX10_reach_76 ?_
      rw [show iOr acc (iShl 1 ((E 290 k) / 8)) = sb acc (E 290 k / 8) from or8 hS.1 (by omega)]
      refine q_nmI (fun ac2 eac2 => ?_)
      refine q_istore_n (j := 1) (lo2 := [vR 283, vI ac2, vI e, vI k, vN, vN]) hA dX10_reach_77 (by decide) rfl rfl ?_
      refine q_iconst hA dX10_reach_78 ?_
      refine q_istore (j := 4) (lo2 := [vR 283, vI ac2, vI e, vI k, vI 0, vN]) hA dX10_reach_79 (by decide) rfl rfl ?_
      refine zX10_reach_L81 (D := D) ho hg0 hb hA hR (fun e m E hm hke hQ hS hM hx => ?_) 1000 _ _ _ (by omega) (by omega) (by exact hQ) (by rw [eac2]; exact hS.s (by omega) (by omega)) (by intro n n0 n1; omega) (by omega)
      refine q_iinc (j := 3) (lo2 := [vR 283, vI ac2, vI e, vI (k + 1), vI m, vN]) hA dX10_reach_143 rfl (by decide) rfl rfl ?_
      refine q_goto (tgt := 59) hA dX10_reach_146 (by decide) ?_
      refine q_fgt (lo2 := [vR 283, vI ac2, vI e, vI (k + 1), vN, vN]) hA ⟨Or.inr rfl, Or.inr rfl, Or.inr rfl, Or.inr rfl, Or.inl rfl, Or.inr rfl, trivial⟩ ?_
      exact ih _ _ _ _ (by exact hQ.nx (by omega) hx.2) (by exact hS) (by omega)
set_option maxHeartbeats 4000000 in
set_option maxRecDepth 100000 in
theorem zX10_reach {g : Gm} {l : Launch} {D : Dat} (ho : mOk D 284) (hg0 : 0 < D 284 0 → gdR (rowM D 284 0)) : CrI g l 5 mX10_reach [vR 283] D (fun v D1 => (¬ 0 < D 284 0 ∧ v = -2 ∧ D1 = D) ∨ (0 < D 284 0 ∧ isReach (rowM D 284 0) (8 * D 284 1 + D 284 2) v ∧ ∀ c, c ≠ 290 → c ≠ 291 → D1 c = D c)) := by
  refine Cr.ofI (lo0 := [vR 283, vN, vN, vN, vN, vN]) (by decide) (Nat.le_of_ble_eq_true rfl) rfl (fun J hA hR => ?_)
  have hn := ho.n
  have hf := ho.f
  have hb := ho.b
  refine q_aload_n (j := 0) hA rfl dX10_reach_0 ?_
  refine q_callVB (b := 283) (As := []) (st := []) hA l_X10_159 kX10_isThere (zX10_isThere (by first | assumption | omega | rfl)) dX10_reach_1 rfl rfl sx_283 (by decide) rfl (Nat.le_of_ble_eq_true rfl) (by omega) (fun h1 => ?_) (fun h1 => ?_)
  · refine q_if_ne (tgt := 10) hA (by decide) dX10_reach_4 (by decide) (fun h4 => ?_) (fun h4 => absurd h4 (by decide))
    refine q_iconst hA dX10_reach_10 ?_
    refine q_istore_n (j := 1) (lo2 := [vR 283, vI 0, vN, vN, vN, vN]) hA dX10_reach_11 (by decide) rfl rfl ?_
    refine zX10_reach_L12 (D := D) ho hg0 h1 hA hR (fun k E hk he hf hx => ?_) 1000 _ _ (by omega) (by intro i i1 i2; omega) (by exact fun _ _ => rfl) (by omega)
    refine q_iconst hA dX10_reach_31 ?_
    refine q_istore_n (j := 1) (lo2 := [vR 283, vI 0, vN, vN, vN, vN]) hA dX10_reach_32 (by decide) rfl rfl ?_
    refine q_iconst hA dX10_reach_33 ?_
    refine q_istore_n (j := 2) (lo2 := [vR 283, vI 0, vI 1, vN, vN, vN]) hA dX10_reach_34 (by decide) rfl rfl ?_
    refine q_aload_n (j := 0) hA rfl dX10_reach_35 ?_
    refine q_getR hA f_X10_28 dX10_reach_36 sx_283 (by decide) fx_283_9 ?_
    refine q_iconst hA dX10_reach_39 ?_
    have hgd := hg0 h1
    have e84 : E 284 = D 284 := hf 284 (by omega)
    refine q_aload_n (j := 0) hA rfl dX10_reach_40 ?_
    refine q_callVP (b := 283) (As := []) (st := [vI 0, vR 290]) hA l_X10_177 kX10_stateNow (zX10_stateNow (gd_c hgd (rowM_c e84))) dX10_reach_41 rfl rfl sx_283 (by decide) rfl (Nat.le_of_ble_eq_true rfl) (by omega) ?_
    refine q_nmI (fun zs ezs => ?_)
    rw [e84] at ezs
    have hz0 := z0_ok hgd
    have hz64 := hz0.1
    refine q_iast hA dX10_reach_44 sx_290 (by omega) (by decide) ?_
    refine q_aload_n (j := 0) hA rfl dX10_reach_45 ?_
    refine q_getR hA f_X10_31 dX10_reach_46 sx_283 (by decide) fx_283_10 ?_
    refine q_aload_n (j := 0) hA rfl dX10_reach_49 ?_
    refine q_getR hA f_X10_28 dX10_reach_50 sx_283 (by decide) fx_283_9 ?_
    refine q_iconst hA dX10_reach_53 ?_
    refine q_iald (x := zs) hA dX10_reach_54 sx_290 (by omega) (by decide) ((upD_s).trans (rfl)) ?_
    refine q_iconst hA dX10_reach_55 ?_
    refine q_zast hA dX10_reach_56 sx_291 (by omega) (by decide) (by omega) ?_
    refine q_iconst hA dX10_reach_57 ?_
    refine q_istore_n (j := 3) (lo2 := [vR 283, vI 0, vI 1, vI 0, vN, vN]) hA dX10_reach_58 (by decide) rfl rfl ?_
    refine zX10_reach_L59 (D := D) ho hg0 h1 hA hR 1000 _ _ _ _ (by rw [ezs]; exact rq_0 hz0 (fun i i0 i1 => he i i0 (by omega)) (fun c _ c2 => hf c c2)) (by exact rqS.z) (by omega)
  · refine q_if_ne (tgt := 10) hA (by decide) dX10_reach_4 (by decide) (fun h4 => absurd h4 (by decide)) (fun h4 => ?_)
    refine q_bipush hA (by decide) dX10_reach_7 ?_
    exact hR 9 _ _ _ dX10_reach_9 (by exact Or.inl ⟨h1, rfl, rfl⟩)
