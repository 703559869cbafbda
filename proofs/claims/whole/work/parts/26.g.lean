set_option maxHeartbeats 4000000 in
set_option maxRecDepth 100000 in
theorem zX4_moveOfCircle {g : Gm} {l : Launch} {D : Dat} {r : Row} (hnx : ∀ z m : Int, 0 ≤ z → z < 64 → 0 ≤ m → m ≤ 2 → D 191 (z * 3 + m) = nxR r z m) {z : Int} {s : Int} (hsy : sym r) (hn8 : rN r ≤ 8) (hz : 0 ≤ z ∧ z < 64) (hs : 0 ≤ s ∧ s ≤ 1) : CrP g l 2 mX4_moveOfCircle [vR 190, vI z, vI s] D (mvC r z s) := by
  unfold CrP
  refine Cr.ofI (lo0 := [vR 190, vI z, vI s]) (by decide) (Nat.le_of_ble_eq_true rfl) rfl (fun J hA hR => ?_)
  refine q_aload_n (j := 0) hA rfl dX4_moveOfCircle_0 ?_
  refine q_iload_n (j := 1) hA rfl dX4_moveOfCircle_1 ?_
  refine q_iload_n (j := 2) hA rfl dX4_moveOfCircle_2 ?_
  refine q_callVP (b := 190) (As := [vI z, vI s]) (st := []) hA l_X4_67 kX4_behind (zX4_behind hnx (by omega) (by omega)) dX4_moveOfCircle_3 rfl rfl sx_190 (by decide) rfl (Nat.le_of_ble_eq_true rfl) (by omega) ?_
  refine q_nmI (fun v ev => ?_)
  have hvi : v = -4 ∨ (0 ≤ v ∧ v < 64) := by rw [ev]; unfold bhR; rw [if_pos (by omega)]; exact nxR_in hn8
  refine q_if_lt (tgt := 11) hA (by omega) dX4_moveOfCircle_6 (by decide) (fun h6 => ?_) (fun h6 => ?_)
  · refine q_aload_n (j := 0) hA rfl dX4_moveOfCircle_11 ?_
    refine q_iload_n (j := 1) hA rfl dX4_moveOfCircle_12 ?_
    refine q_iconst hA dX4_moveOfCircle_13 ?_
    refine q_iload_n (j := 2) hA rfl dX4_moveOfCircle_14 ?_
    refine q_isub hA dX4_moveOfCircle_15 ?_
    refine q_callVP (b := 190) (As := [vI z, vI (1 - s)]) (st := []) hA l_X4_67 kX4_behind (zX4_behind hnx (by omega) (by omega)) dX4_moveOfCircle_16 rfl rfl sx_190 (by decide) rfl (Nat.le_of_ble_eq_true rfl) (by omega) ?_
    refine q_nmI (fun w ew => ?_)
    have hwi : w = -4 ∨ (0 ≤ w ∧ w < 64) := by rw [ew]; unfold bhR; rw [if_pos (by omega)]; exact nxR_in hn8
    refine q_if_lt (tgt := 28) hA (by omega) dX4_moveOfCircle_19 (by decide) (fun h19 => ?_) (fun h19 => ?_)
    · refine q_iconst hA dX4_moveOfCircle_28 ?_
      exact hR 29 _ _ _ dX4_moveOfCircle_29 ⟨(by unfold mvC; rw [← ev, if_neg (by omega), ← ew]; first | rw [if_pos (by omega)] | rw [if_neg (by omega)]), rfl⟩
    · refine q_iconst hA dX4_moveOfCircle_22 ?_
      refine q_iload_n (j := 2) hA rfl dX4_moveOfCircle_23 ?_
      refine q_isub hA dX4_moveOfCircle_24 ?_
      refine q_goto (tgt := 29) hA dX4_moveOfCircle_25 (by decide) ?_
      exact hR 29 _ _ _ dX4_moveOfCircle_29 ⟨(by unfold mvC; rw [← ev, if_neg (by omega), ← ew]; first | rw [if_pos (by omega)] | rw [if_neg (by omega)]), rfl⟩
  · refine q_iload_n (j := 2) hA rfl dX4_moveOfCircle_9 ?_
    exact hR 10 _ _ _ dX4_moveOfCircle_10 ⟨(by unfold mvC; rw [← ev, if_pos (by omega)]), rfl⟩
set_option maxHeartbeats 4000000 in
set_option maxRecDepth 100000 in
theorem zX4_circle_L2 {g : Gm} {l : Launch} {D : Dat} {r : Row} (hnx : ∀ z m : Int, 0 ≤ z → z < 64 → 0 ≤ m → m ≤ 2 → D 191 (z * 3 + m) = nxR r z m) {ah : Int} (hsy : sym r) (hn8 : rN r ≤ 8) (hz0 : zOk r (D 190 5)) (hah : ah = 0 ∨ ah = 1)   {J : JT} (hA : AX g l RX4 cX4_circle 6 4 J) (hR : ReI cX4_circle (fun v D1 => (∃ i j : Nat, isCirc r (D 190 5) i j ∧ v = if ah = 1 then (i : Int) else (j : Int) - i) ∧ frm 193 1 D D1) J) (hx : ∀ (k : Int) (E : Dat), (0 ≤ k ∧ k ≤ 128) → (∀ i : Int, 0 ≤ i → i < k → E 193 i = -4) → (frm 193 1 D E) → (k = 128) → J 25 [vR 190, vI ah, vI k, vN, vN, vN] [] E) : ∀ (fuel : Nat) (k : Int) (E : Dat), (0 ≤ k ∧ k ≤ 128) → (∀ i : Int, 0 ≤ i → i < k → E 193 i = -4) → (frm 193 1 D E) → 128 - k < (fuel : Int) → J 2 [vR 190, vI ah, vI k, vN, vN, vN] [] E := by
  intro fuel
  induction fuel with
  | zero => intro k E hk he hf hMs; exact absurd hMs (by omega)
  | succ fuel ih =>
    intro k E hk he hf hMs
    refine q_iload_n (j := 2) hA rfl dX4_circle_2 ?_
    refine q_aload_n (j := 0) hA rfl dX4_circle_3 ?_
    refine q_getR hA f_X4_18 dX4_circle_4 sx_190 (by decide) fx_190_2 ?_
    refine q_alen hA (Or.inl rfl) dX4_circle_7 sx_193 ?_
    show J _ _ (vI 128 :: _) _
    refine q_icmp_ge (tgt := 25) hA (by omega) (by omega) dX4_circle_8 (by decide) (fun h8 => ?_) (fun h8 => ?_)
    · exact hx _ _ hk he hf (by omega)
    · refine q_aload_n (j := 0) hA rfl dX4_circle_11 ?_
      refine q_getR hA f_X4_18 dX4_circle_12 sx_190 (by decide) fx_190_2 ?_
      refine q_iload_n (j := 2) hA rfl dX4_circle_15 ?_
      refine q_bipush hA (by decide) dX4_circle_16 ?_
      refine q_iast hA dX4_circle_18 sx_193 (by omega) (by decide) ?_
      refine q_iinc (j := 2) (lo2 := [vR 190, vI ah, vI (k + 1), vN, vN, vN]) hA dX4_circle_19 rfl (by decide) rfl rfl ?_
      refine q_goto (tgt := 2) hA dX4_circle_22 (by decide) ?_
      exact ih _ _ (by omega) (by intro i i1 i2; by_cases h : i = k; (subst h; exact upD_s); (rw [upD_n (Or.inr h)]; exact he i i1 (by omega))) (by exact hf.up (by omega)) (by omega)
set_option maxHeartbeats 4000000 in
set_option maxRecDepth 100000 in
theorem zX4_circle_L32 {g : Gm} {l : Launch} {D : Dat} {r : Row} (hnx : ∀ z m : Int, 0 ≤ z → z < 64 → 0 ≤ m → m ≤ 2 → D 191 (z * 3 + m) = nxR r z m) {ah : Int} (hsy : sym r) (hn8 : rN r ≤ 8) (hz0 : zOk r (D 190 5)) (hah : ah = 0 ∨ ah = 1)   {J : JT} (hA : AX g l RX4 cX4_circle 6 4 J) (hR : ReI cX4_circle (fun v D1 => (∃ i j : Nat, isCirc r (D 190 5) i j ∧ v = if ah = 1 then (i : Int) else (j : Int) - i) ∧ frm 193 1 D D1) J) : ∀ (fuel : Nat) (z : Int) (j : Int) (E : Dat), (0 ≤ j ∧ j ≤ 129) → (z = cSeq r (D 190 5) j.toNat) → (∀ a : Nat, a < j.toNat → E 193 (cKey r (D 190 5) a) = a) → (∀ key : Int, 0 ≤ key → key < 128 → E 193 key = -4 ∨ ∃ a : Nat, a < j.toNat ∧ cKey r (D 190 5) a = key ∧ E 193 key = a) → (frm 193 1 D E) → 129 - j < (fuel : Int) → J 32 [vR 190, vI ah, vI z, vI j, vN, vN] [] E := by
  intro fuel
  induction fuel with
  | zero => intro z j E hj hzs h1 h2 hf hMs; exact absurd hMs (by omega)
  | succ fuel ih =>
    intro z j E hj hzs h1 h2 hf hMs
    have hzo := cSeq_ok hsy hn8 hz0 j.toNat
    rw [← hzs] at hzo
    have hz64 := hzo.1
    have hnxE : ∀ z m : Int, 0 ≤ z → z < 64 → 0 ≤ m → m ≤ 2 → E 191 (z * 3 + m) = nxR r z m := fun z m z1 z2 m1 m2 => by rw [hf 191 (by omega)]; exact hnx z m z1 z2 m1 m2
    have hds : ∀ a b : Nat, a < b → b < j.toNat → cKey r (D 190 5) a ≠ cKey r (D 190 5) b := fun a b ab bj hk => by
      have q1 := h1 a (by omega)
      have q2 := h1 b bj
      rw [hk, q2] at q1
      omega
    have hj128 : j ≤ 128 := by
      rcases Int.lt_or_le 128 j with hlt | hle
      · obtain ⟨a, b, ab, b8, hk⟩ := cKey_rep hsy hn8 hz0
        exact absurd hk (hds a b ab (by omega))
      · exact hle
    refine q_iload_n (j := 3) hA rfl dX4_circle_32 ?_
    refine q_aload_n (j := 0) hA rfl dX4_circle_33 ?_
    refine q_getR hA f_X4_18 dX4_circle_34 sx_190 (by decide) fx_190_2 ?_
    refine q_alen hA (Or.inl rfl) dX4_circle_37 sx_193 ?_
    show J _ _ (vI 128 :: _) _
    refine q_icmp_gt (tgt := 133) hA (by omega) (by omega) dX4_circle_38 (by decide) (fun h38 => absurd h38 (by omega)) (fun h38 => ?_)
    refine q_iload_n (j := 3) hA rfl dX4_circle_41 ?_
    refine q_iconst hA dX4_circle_42 ?_
    refine q_irem hA (by omega) (by omega) dX4_circle_43 ?_
    refine q_nmI (fun sd esd => ?_)
    refine q_istore (j := 4) (lo2 := [vR 190, vI ah, vI z, vI j, vI sd, vN]) hA dX4_circle_44 (by decide) rfl rfl ?_
    refine q_iload_n (j := 2) hA rfl dX4_circle_46 ?_
    refine q_iconst hA dX4_circle_47 ?_
    refine q_imul hA dX4_circle_48 ?_
    refine q_iload (j := 4) hA rfl dX4_circle_49 ?_
    refine q_iadd hA dX4_circle_51 ?_
    refine q_nmI (fun ky eky => ?_)
    refine q_istore (j := 5) (lo2 := [vR 190, vI ah, vI z, vI j, vI sd, vI ky]) hA dX4_circle_52 (by decide) rfl rfl ?_
    have hky : ky = cKey r (D 190 5) j.toNat := by unfold cKey; rw [← hzs, eky, esd, show ((j.toNat : Nat) : Int) = j by omega]
    have hky0 : 0 ≤ ky ∧ ky < 128 := by omega
    have hval := h2 ky hky0.1 hky0.2
    have hvr : -4 ≤ E 193 ky ∧ E 193 ky ≤ 129 := by rcases hval with q | ⟨a, q1, q2, q3⟩ <;> omega
    refine q_iload (j := 5) hA rfl dX4_circle_54 ?_
    refine q_if_lt (tgt := 69) hA (by omega) dX4_circle_56 (by decide) (fun h56 => absurd h56 (by omega)) (fun h56 => ?_)
    refine q_iload (j := 5) hA rfl dX4_circle_59 ?_
    refine q_aload_n (j := 0) hA rfl dX4_circle_61 ?_
    refine q_getR hA f_X4_18 dX4_circle_62 sx_190 (by decide) fx_190_2 ?_
    refine q_alen hA (Or.inl rfl) dX4_circle_65 sx_193 ?_
    show J _ _ (vI 128 :: _) _
    refine q_icmp_lt (tgt := 72) hA (by omega) (by omega) dX4_circle_66 (by decide) (fun h66 => ?_) (fun h66 => absurd h66 (by omega))
    refine q_aload_n (j := 0) hA rfl dX4_circle_72 ?_
    refine q_getR hA f_X4_18 dX4_circle_73 sx_190 (by decide) fx_190_2 ?_
    refine q_iload (j := 5) hA rfl dX4_circle_76 ?_
    refine q_iald (x := E 193 ky) hA dX4_circle_78 sx_193 (by omega) (by decide) rfl ?_
    refine q_if_lt (tgt := 106) hA (by omega) dX4_circle_79 (by decide) (fun h79 => ?_) (fun h79 => ?_)
    · refine q_aload_n (j := 0) hA rfl dX4_circle_106 ?_
      refine q_getR hA f_X4_18 dX4_circle_107 sx_190 (by decide) fx_190_2 ?_
      refine q_iload (j := 5) hA rfl dX4_circle_110 ?_
      refine q_iload_n (j := 3) hA rfl dX4_circle_112 ?_
      refine q_iast hA dX4_circle_113 sx_193 (by omega) (by decide) ?_
      have hnxE : ∀ z m : Int, 0 ≤ z → z < 64 → 0 ≤ m → m ≤ 2 → upD E 193 ky j 191 (z * 3 + m) = nxR r z m := fun z m z1 z2 m1 m2 => by rw [upD_n (Or.inl (by omega))]; exact hnxE z m z1 z2 m1 m2
      refine q_aload_n (j := 0) hA rfl dX4_circle_114 ?_
      refine q_iload_n (j := 2) hA rfl dX4_circle_115 ?_
      refine q_aload_n (j := 0) hA rfl dX4_circle_116 ?_
      refine q_iload_n (j := 2) hA rfl dX4_circle_117 ?_
      refine q_iload (j := 4) hA rfl dX4_circle_118 ?_
      refine q_callVP (b := 190) (As := [vI z, vI sd]) (st := [vI z, vR 190]) hA l_X4_100 kX4_moveOfCircle (zX4_moveOfCircle hnxE hsy hn8 (by omega) (by omega)) dX4_circle_120 rfl rfl sx_190 (by decide) rfl (Nat.le_of_ble_eq_true rfl) (by omega) ?_
      refine q_nmI (fun mv emv => ?_)
      have hmv : 0 ≤ mv ∧ mv ≤ 2 := by rw [emv]; unfold mvC; split; omega; split <;> omega
      refine q_callVP (b := 190) (As := [vI z, vI mv]) (st := []) hA l_X4_67 kX4_behind (zX4_behind hnxE (by omega) (by omega)) dX4_circle_123 rfl rfl sx_190 (by decide) rfl (Nat.le_of_ble_eq_true rfl) (by omega) ?_
      refine q_nmI (fun z2 ez2 => ?_)
      refine q_istore_n (j := 2) (lo2 := [vR 190, vI ah, vI z2, vI j, vI sd, vI ky]) hA dX4_circle_126 (by decide) rfl rfl ?_
      refine q_iinc (j := 3) (lo2 := [vR 190, vI ah, vI z2, vI (j + 1), vI sd, vI ky]) hA dX4_circle_127 rfl (by decide) rfl rfl ?_
      refine q_goto (tgt := 32) hA dX4_circle_130 (by decide) ?_
      refine q_fgt (lo2 := [vR 190, vI ah, vI z2, vI (j + 1), vN, vN]) hA ⟨Or.inr rfl, Or.inr rfl, Or.inr rfl, Or.inr rfl, Or.inl rfl, Or.inl rfl, trivial⟩ ?_
      exact ih _ _ _ (by omega) (by rw [cSeq_step (by omega), ← hzs, ez2, emv, esd]) (by intro a ha; by_cases h : a = j.toNat; (subst h; rw [← hky, upD_s]; omega); (rw [upD_n (Or.inr (by intro hk; rw [hky] at hk; have q := h1 a (by omega); rw [hk, ← hky] at q; omega))]; exact h1 a (by omega))) (by intro key k1 k2; by_cases h : key = ky; (subst h; right; exact ⟨j.toNat, by omega, hky.symm, by rw [upD_s]; omega⟩); (rw [upD_n (Or.inr h)]; rcases h2 key k1 k2 with q | ⟨a, q1, q2, q3⟩; exact Or.inl q; exact Or.inr ⟨a, by omega, q2, q3⟩)) (by exact hf.up (by omega)) (by omega)
    · refine q_iload_n (j := 1) hA rfl dX4_circle_82 ?_
      refine q_if_eq (tgt := 96) hA (by rcases hah with h | h <;> rw [h] <;> decide) dX4_circle_83 (by decide) (fun h83 => ?_) (fun h83 => ?_)
      · refine q_iload_n (j := 3) hA rfl dX4_circle_96 ?_
        refine q_aload_n (j := 0) hA rfl dX4_circle_97 ?_
        refine q_getR hA f_X4_18 dX4_circle_98 sx_190 (by decide) fx_190_2 ?_
        refine q_iload (j := 5) hA rfl dX4_circle_101 ?_
        refine q_iald (x := E 193 ky) hA dX4_circle_103 sx_193 (by omega) (by decide) rfl ?_
        refine q_isub hA dX4_circle_104 ?_
        exact hR 105 _ _ _ dX4_circle_105 (by rcases hval with q | ⟨a, q1, q2, q3⟩; omega; exact ⟨⟨a, j.toNat, ⟨q1, q2.trans hky, hds⟩, by first | (rw [if_pos (by omega)]; omega) | (rw [if_neg (by omega)]; omega)⟩, hf⟩)
      · refine q_aload_n (j := 0) hA rfl dX4_circle_86 ?_
        refine q_getR hA f_X4_18 dX4_circle_87 sx_190 (by decide) fx_190_2 ?_
        refine q_iload (j := 5) hA rfl dX4_circle_90 ?_
        refine q_iald (x := E 193 ky) hA dX4_circle_92 sx_193 (by omega) (by decide) rfl ?_
        refine q_goto (tgt := 105) hA dX4_circle_93 (by decide) ?_
        exact hR 105 _ _ _ dX4_circle_105 (by rcases hval with q | ⟨a, q1, q2, q3⟩; omega; exact ⟨⟨a, j.toNat, ⟨q1, q2.trans hky, hds⟩, by first | (rw [if_pos (by omega)]; omega) | (rw [if_neg (by omega)]; omega)⟩, hf⟩)
set_option maxHeartbeats 4000000 in
set_option maxRecDepth 100000 in
theorem zX4_circle {g : Gm} {l : Launch} {D : Dat} {r : Row} (hnx : ∀ z m : Int, 0 ≤ z → z < 64 → 0 ≤ m → m ≤ 2 → D 191 (z * 3 + m) = nxR r z m) {ah : Int} (hsy : sym r) (hn8 : rN r ≤ 8) (hz0 : zOk r (D 190 5)) (hah : ah = 0 ∨ ah = 1) : CrI g l 4 mX4_circle [vR 190, vI ah] D (fun v D1 => (∃ i j : Nat, isCirc r (D 190 5) i j ∧ v = if ah = 1 then (i : Int) else (j : Int) - i) ∧ frm 193 1 D D1) := by
  refine Cr.ofI (lo0 := [vR 190, vI ah, vN, vN, vN, vN]) (by decide) (Nat.le_of_ble_eq_true rfl) rfl (fun J hA hR => ?_)
  refine q_iconst hA dX4_circle_0 ?_
  refine q_istore_n (j := 2) (lo2 := [vR 190, vI ah, vI 0, vN, vN, vN]) hA dX4_circle_1 (by decide) rfl rfl ?_
  refine zX4_circle_L2 (D := D) (r := r) (ah := ah) hnx hsy hn8 hz0 hah  hA hR (fun k E hk he hf hx => ?_) 1000 _ _ (by omega) (by intro i i1 i2; omega) (by exact frm.rf) (by omega)
  refine q_aload_n (j := 0) hA rfl dX4_circle_25 ?_
  refine q_getI (x := E 190 5) hA f_X4_40 dX4_circle_26 sx_190 (by decide) rfl ?_
  refine q_istore_n (j := 2) (lo2 := [vR 190, vI ah, vI (E 190 5), vN, vN, vN]) hA dX4_circle_29 (by decide) rfl rfl ?_
  refine q_iconst hA dX4_circle_30 ?_
  refine q_istore_n (j := 3) (lo2 := [vR 190, vI ah, vI (E 190 5), vI 0, vN, vN]) hA dX4_circle_31 (by decide) rfl rfl ?_
  refine zX4_circle_L32 (D := D) (r := r) (ah := ah) hnx hsy hn8 hz0 hah  hA hR 1000 _ _ _ (by omega) (by rw [hf 190 (by omega)]; rfl) (by intro a ha; exact absurd ha (Nat.not_lt_zero _)) (by intro key k1 k2; exact Or.inl (he key k1 (by omega))) (by exact hf) (by omega)
set_option maxHeartbeats 4000000 in
set_option maxRecDepth 100000 in
theorem zX4_movesAheadOfCircle {g : Gm} {l : Launch} {D : Dat} {r : Row} (hnx : ∀ z m : Int, 0 ≤ z → z < 64 → 0 ≤ m → m ≤ 2 → D 191 (z * 3 + m) = nxR r z m) (hsy : sym r) (hn8 : rN r ≤ 8) (hz0 : zOk r (D 190 5)) : CrI g l 5 mX4_movesAheadOfCircle [vR 190] D (fun v D1 => (∃ i j : Nat, isCirc r (D 190 5) i j ∧ v = i) ∧ frm 193 1 D D1) := by
  refine Cr.ofI (lo0 := [vR 190]) (by decide) (Nat.le_of_ble_eq_true rfl) rfl (fun J hA hR => ?_)
  refine q_aload_n (j := 0) hA rfl dX4_movesAheadOfCircle_0 ?_
  refine q_iconst hA dX4_movesAheadOfCircle_1 ?_
  refine q_callVI (b := 190) (As := [vI 1]) (st := []) hA l_X4_96 kX4_circle (zX4_circle hnx hsy hn8 hz0 (Or.inr rfl)) dX4_movesAheadOfCircle_2 rfl rfl sx_190 (by decide) rfl (Nat.le_of_ble_eq_true rfl) (by omega) (fun v2 D2 q2 => ?_)
  exact hR 5 _ _ _ dX4_movesAheadOfCircle_5 (by obtain ⟨⟨i, j, h1, h2⟩, h3⟩ := q2; exact ⟨⟨i, j, h1, by rw [h2, if_pos rfl]⟩, h3⟩)
set_option maxHeartbeats 4000000 in
set_option maxRecDepth 100000 in
theorem zX4_movesOfCircle {g : Gm} {l : Launch} {D : Dat} {r : Row} (hnx : ∀ z m : Int, 0 ≤ z → z < 64 → 0 ≤ m → m ≤ 2 → D 191 (z * 3 + m) = nxR r z m) (hsy : sym r) (hn8 : rN r ≤ 8) (hz0 : zOk r (D 190 5)) : CrI g l 5 mX4_movesOfCircle [vR 190] D (fun v D1 => (∃ i j : Nat, isCirc r (D 190 5) i j ∧ v = (j : Int) - i) ∧ frm 193 1 D D1) := by
  refine Cr.ofI (lo0 := [vR 190]) (by decide) (Nat.le_of_ble_eq_true rfl) rfl (fun J hA hR => ?_)
  refine q_aload_n (j := 0) hA rfl dX4_movesOfCircle_0 ?_
  refine q_iconst hA dX4_movesOfCircle_1 ?_
  refine q_callVI (b := 190) (As := [vI 0]) (st := []) hA l_X4_96 kX4_circle (zX4_circle hnx hsy hn8 hz0 (Or.inl rfl)) dX4_movesOfCircle_2 rfl rfl sx_190 (by decide) rfl (Nat.le_of_ble_eq_true rfl) (by omega) (fun v2 D2 q2 => ?_)
  exact hR 5 _ _ _ dX4_movesOfCircle_5 (by obtain ⟨⟨i, j, h1, h2⟩, h3⟩ := q2; exact ⟨⟨i, j, h1, by rw [h2, if_neg (by omega)]⟩, h3⟩)
set_option maxHeartbeats 4000000 in
set_option maxRecDepth 100000 in
theorem zX4_writeCircle_L9 {g : Gm} {l : Launch} {D : Dat} {r : Row} (hnx : ∀ z m : Int, 0 ≤ z → z < 64 → 0 ≤ m → m ≤ 2 → D 191 (z * 3 + m) = nxR r z m) (hsy : sym r) (hn8 : rN r ≤ 8) (hz0 : zOk r (D 190 5)) {s : Nat} (hs : isSh s) (ho : shOk D s) {i : Int} {n : Int} (hi : 0 ≤ i ∧ 0 ≤ n ∧ i + n ≤ D s 2)   {J : JT} (hA : AX g l RX4 cX4_writeCircle 6 4 J) (hR : ReV cX4_writeCircle (fun D1 => (∀ k : Nat, (k : Int) < n → D1 (s + 1) (i + k) = cSeq r (D 190 5) (k + 1) / 8) ∧ (∀ y : Int, (y < i ∨ i + n ≤ y) → D1 (s + 1) y = D (s + 1) y) ∧ frm (s + 1) 1 D D1) J) : ∀ (fuel : Nat) (z : Int) (k : Int) (E : Dat), (0 ≤ k ∧ k ≤ n) → (z = cSeq r (D 190 5) k.toNat) → (∀ j : Nat, (j : Int) < k → E (s + 1) (i + j) = cSeq r (D 190 5) (j + 1) / 8) → (∀ y : Int, (y < i ∨ i + n ≤ y) → E (s + 1) y = D (s + 1) y) → (shOk E s) → (frm (s + 1) 1 D E) → n - k < (fuel : Int) → J 9 [vR 190, vR s, vI i, vI n, vI z, vI k] [] E := by
  intro fuel
  induction fuel with
  | zero => intro z k E hk hzs h1 h2 hoE hf hMs; exact absurd hMs (by omega)
  | succ fuel ih =>
    intro z k E hk hzs h1 h2 hoE hf hMs
    have hso := shOut hs
    have hl2 := ho.2.1
    have hzo := cSeq_ok hsy hn8 hz0 k.toNat
    rw [← hzs] at hzo
    have hz64 := hzo.1
    have hnxE : ∀ z m : Int, 0 ≤ z → z < 64 → 0 ≤ m → m ≤ 2 → E 191 (z * 3 + m) = nxR r z m := fun z m z1 z2 m1 m2 => by rw [hf 191 (by omega)]; exact hnx z m z1 z2 m1 m2
    refine q_iload (j := 5) hA rfl dX4_writeCircle_9 ?_
    refine q_iload_n (j := 3) hA rfl dX4_writeCircle_11 ?_
    refine q_icmp_ge (tgt := 54) hA (by omega) (by omega) dX4_writeCircle_12 (by decide) (fun h12 => ?_) (fun h12 => ?_)
    · exact hR 54 _ _ dX4_writeCircle_54 ⟨fun j hj => h1 j (by omega), h2, hf⟩
    · refine q_aload_n (j := 0) hA rfl dX4_writeCircle_15 ?_
      refine q_iload (j := 4) hA rfl dX4_writeCircle_16 ?_
      refine q_aload_n (j := 0) hA rfl dX4_writeCircle_18 ?_
      refine q_iload (j := 4) hA rfl dX4_writeCircle_19 ?_
      refine q_iload (j := 5) hA rfl dX4_writeCircle_21 ?_
      refine q_iconst hA dX4_writeCircle_23 ?_
      refine q_irem hA (by omega) (by omega) dX4_writeCircle_24 ?_
      refine q_callVP (b := 190) (As := [vI z, vI (k % 2)]) (st := [vI z, vR 190]) hA l_X4_100 kX4_moveOfCircle (zX4_moveOfCircle hnxE hsy hn8 (by omega) (by omega)) dX4_writeCircle_25 rfl rfl sx_190 (by decide) rfl (Nat.le_of_ble_eq_true rfl) (by omega) ?_
      refine q_nmI (fun mv emv => ?_)
      have hmv : 0 ≤ mv ∧ mv ≤ 2 := by rw [emv]; unfold mvC; split; omega; split <;> omega
      refine q_callVP (b := 190) (As := [vI z, vI mv]) (st := []) hA l_X4_67 kX4_behind (zX4_behind hnxE (by omega) (by omega)) dX4_writeCircle_28 rfl rfl sx_190 (by decide) rfl (Nat.le_of_ble_eq_true rfl) (by omega) ?_
      refine q_nmI (fun z2 ez2 => ?_)
      have hzo2 := (cN_ok (s := k % 2) hsy hn8 hzo (by omega)).1
      rw [← emv, ← ez2] at hzo2
      refine q_istore (j := 4) (lo2 := [vR 190, vR s, vI i, vI n, vI z2, vI k]) hA dX4_writeCircle_31 (by decide) rfl rfl ?_
      refine q_aload_n (j := 1) hA rfl dX4_writeCircle_33 ?_
      refine q_iload_n (j := 2) hA rfl dX4_writeCircle_34 ?_
      refine q_iload (j := 5) hA rfl dX4_writeCircle_35 ?_
      refine q_iadd hA dX4_writeCircle_37 ?_
      refine q_iload (j := 4) hA rfl dX4_writeCircle_38 ?_
      refine q_callSP (As := [vI z2]) (st := [vI (i + k), vR s]) hA l_X4_47 kX4_frontOf (zX4_frontOf (by omega)) dX4_writeCircle_40 rfl rfl (Nat.le_of_ble_eq_true rfl) (by omega) ?_
      refine q_nmI (fun f ef => ?_)
      have hf8 : 0 ≤ f ∧ f < 8 := by omega
      refine q_i2l hA (by omega) dX4_writeCircle_43 ?_
      refine q_callVL (b := s) (As := [vI (i + k), vL f]) (st := []) hA l_X4_103 kX6_put (zX6_put hs hoE (by omega)) dX4_writeCircle_44 rfl rfl (shS hs) (by decide) rfl (Nat.le_of_ble_eq_true rfl) (by omega) (fun pv D44 q44 => ?_)
      have hlE : E s 1 = D s 1 ∧ E s 2 = D s 2 := by rw [hf s (by omega)]; exact ⟨rfl, rfl⟩
      have hD : D44 = upD E (s + 1) (i + k) f := by rcases q44 with ⟨q1, -⟩ | ⟨-, -, q3⟩; exact absurd (show 0 ≤ i + k ∧ i + k < E s 2 by omega) q1; rw [q3, cutL_small hf8]
      refine q_pop2L hA dX4_writeCircle_47 ?_
      refine q_iinc (j := 5) (lo2 := [vR 190, vR s, vI i, vI n, vI z2, vI (k + 1)]) hA dX4_writeCircle_48 rfl (by decide) rfl rfl ?_
      refine q_goto (tgt := 9) hA dX4_writeCircle_51 (by decide) ?_
      exact ih _ _ _ (by omega) (by rw [cSeq_step (by omega), ← hzs, ez2, emv]) (by intro j hj; rw [hD]; by_cases h : (j : Int) = k; (rw [h, upD_s, ef, ez2, emv, hzs]; rw [show j + 1 = (k + 1).toNat by omega, cSeq_step (by omega)]); (rw [upD_n (Or.inr (by omega))]; exact h1 j (by omega))) (by intro y hy; rw [hD, upD_n (Or.inr (by omega))]; exact h2 y hy) (by rw [hD]; exact ⟨by rw [upD_n (Or.inl (by omega))]; exact hoE.1, by rw [upD_n (Or.inl (by omega))]; exact hoE.2.1, fun y y1 y2 => by unfold upD; rw [if_pos rfl]; split; omega; exact hoE.2.2 y y1 y2⟩) (by rw [hD]; exact hf.up (by omega)) (by omega)
set_option maxHeartbeats 4000000 in
set_option maxRecDepth 100000 in
theorem zX4_writeCircle {g : Gm} {l : Launch} {D : Dat} {r : Row} (hnx : ∀ z m : Int, 0 ≤ z → z < 64 → 0 ≤ m → m ≤ 2 → D 191 (z * 3 + m) = nxR r z m) (hsy : sym r) (hn8 : rN r ≤ 8) (hz0 : zOk r (D 190 5)) {s : Nat} (hs : isSh s) (ho : shOk D s) {i : Int} {n : Int} (hi : 0 ≤ i ∧ 0 ≤ n ∧ i + n ≤ D s 2) : CrV g l 4 mX4_writeCircle [vR 190, vR s, vI i, vI n] D (fun D1 => (∀ k : Nat, (k : Int) < n → D1 (s + 1) (i + k) = cSeq r (D 190 5) (k + 1) / 8) ∧ (∀ y : Int, (y < i ∨ i + n ≤ y) → D1 (s + 1) y = D (s + 1) y) ∧ frm (s + 1) 1 D D1) := by
  refine Cr.ofV (lo0 := [vR 190, vR s, vI i, vI n, vN, vN]) (by decide) (Nat.le_of_ble_eq_true rfl) rfl (fun J hA hR => ?_)
  have hso := shOut hs
  have hl2 := ho.2.1
  refine q_aload_n (j := 0) hA rfl dX4_writeCircle_0 ?_
  refine q_getI (x := D 190 5) hA f_X4_40 dX4_writeCircle_1 sx_190 (by decide) rfl ?_
  refine q_istore (j := 4) (lo2 := [vR 190, vR s, vI i, vI n, vI (D 190 5), vN]) hA dX4_writeCircle_4 (by decide) rfl rfl ?_
  refine q_iconst hA dX4_writeCircle_6 ?_
  refine q_istore (j := 5) (lo2 := [vR 190, vR s, vI i, vI n, vI (D 190 5), vI 0]) hA dX4_writeCircle_7 (by decide) rfl rfl ?_
  refine zX4_writeCircle_L9 (D := D) (r := r) (s := s) (i := i) (n := n) hnx hsy hn8 hz0 hs ho hi  hA hR 1000 _ _ _ (by omega) (by rfl) (by intro j hj; omega) (by intro y _; rfl) (by exact ho) (by exact frm.rf) (by omega)
