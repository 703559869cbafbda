set_option maxHeartbeats 4000000 in
set_option maxRecDepth 100000 in
theorem zX0_isBelow {g : Gm} {l : Launch} {D : Dat} {x : Int} {y : Int} (hx : -9223372036854775808 ≤ x ∧ x ≤ 9223372036854775807) (ry : -2147483648 ≤ y ∧ y ≤ 2147483647) : CrB g l 1 mX0_isBelow [vL x, vI y] D (0 ≤ x ∧ x < y) := by
  unfold CrB
  refine Cr.ofZ (lo0 := [vL x, vN, vI y]) (by decide) (Nat.le_of_ble_eq_true rfl) rfl (fun J hA hR => ?_)
  refine q_lload_n (j := 0) hA rfl dX0_isBelow_0 ?_
  refine q_lconst hA dX0_isBelow_1 ?_
  show J _ _ (vL 0 :: _) _
  refine q_lcmp hA (by omega) (by omega) dX0_isBelow_2 ?_
  have hc2 := cmpL_spec x 0
  refine q_if_lt (tgt := 17) hA (by omega) dX0_isBelow_3 (by decide) (fun h3 => ?_) (fun h3 => ?_)
  · refine q_iconst hA dX0_isBelow_17 ?_
    exact hR 18 _ _ _ dX0_isBelow_18 (Or.inl rfl) ⟨rfl, Or.inr ⟨(by omega), rfl⟩⟩
  · refine q_lload_n (j := 0) hA rfl dX0_isBelow_6 ?_
    refine q_iload_n (j := 2) hA rfl dX0_isBelow_7 ?_
    refine q_i2l hA (by omega) dX0_isBelow_8 ?_
    refine q_lcmp hA (by omega) (by omega) dX0_isBelow_9 ?_
    have hc9 := cmpL_spec x y
    refine q_if_ge (tgt := 17) hA (by omega) dX0_isBelow_10 (by decide) (fun h10 => ?_) (fun h10 => ?_)
    · refine q_iconst hA dX0_isBelow_17 ?_
      exact hR 18 _ _ _ dX0_isBelow_18 (Or.inl rfl) ⟨rfl, Or.inr ⟨(by omega), rfl⟩⟩
    · refine q_iconst hA dX0_isBelow_13 ?_
      refine q_goto (tgt := 18) hA dX0_isBelow_14 (by decide) ?_
      exact hR 18 _ _ _ dX0_isBelow_18 (Or.inr rfl) ⟨rfl, Or.inl ⟨(by omega), rfl⟩⟩
set_option maxHeartbeats 4000000 in
set_option maxRecDepth 100000 in
theorem zX0_hear_L66 {g : Gm} {l : Launch} {D : Dat} {s : Nat} (hs : isSh s) (ho : shOk D s) {i : Int} {n : Int} {N : Int} (hn : 0 ≤ n ∧ n ≤ 8) (hN : 1 ≤ N ∧ N ≤ 8) (hi : 0 ≤ i ∧ i + 2 * n + 2 ≤ D s 2)  (hb : (0 ≤ (D (s + 1)) i ∧ (D (s + 1)) i < N) ∧ (0 ≤ (D (s + 1)) (i + 1) ∧ (D (s + 1)) (i + 1) < N)) {J : JT} (hA : AX g l RX0 cX0_hear 10 2 J) (hR : ReZ cX0_hear (fun v D1 => ((whB (D (s + 1)) N i n.toNat = true ∧ v = 1 ∧ hrdM D1 (D (s + 1)) i n) ∨ (whB (D (s + 1)) N i n.toNat = false ∧ v = 0)) ∧ (∀ c, c ≠ 247 → c ≠ 258 → c ≠ 259 → D1 c = D c) ∧ ∀ j : Int, j ≠ 8 → j ≠ 9 → j ≠ 10 → D1 247 j = D 247 j) J) : ∀ (fuel : Nat) (k : Int) (E : Dat), (0 ≤ k ∧ k ≤ n) → (∀ j : Int, 1 ≤ j → j ≤ k → (0 ≤ (D (s + 1)) (i + 2 * j) ∧ (D (s + 1)) (i + 2 * j) ≤ 2) ∧ (0 ≤ (D (s + 1)) (i + 2 * j + 1) ∧ (D (s + 1)) (i + 2 * j + 1) ≤ N - 1)) → (E 247 8 = n ∧ E 247 9 = (D (s + 1)) i ∧ E 247 10 = (D (s + 1)) (i + 1) ∧ ∀ j : Int, 0 ≤ j → j < k → E 258 j = (D (s + 1)) (i + 2 * (j + 1)) ∧ E 259 j = (D (s + 1)) (i + 2 * (j + 1) + 1)) → ((∀ c, c ≠ 247 → c ≠ 258 → c ≠ 259 → E c = D c) ∧ ∀ j : Int, j ≠ 8 → j ≠ 9 → j ≠ 10 → E 247 j = D 247 j) → n - k < (fuel : Int) → J 66 [vR 247, vR s, vI i, vI n, vI N, vI k, vN, vN, vN, vN] [] E := by
  intro fuel
  induction fuel with
  | zero => intro k E hk hw hE hf hMs; exact absurd hMs (by omega)
  | succ fuel ih =>
    intro k E hk hw hE hf hMs
    have hso := shOut hs
    have hl2 := ho.2.1
    have hit := ho.2.2
    have eEs : E s = D s ∧ E (s + 1) = D (s + 1) := ⟨hf.1 s (by omega) (by omega) (by omega), hf.1 (s + 1) (by omega) (by omega) (by omega)⟩
    have oE : shOk E s := by unfold shOk; rw [eEs.1, eEs.2]; exact ho
    refine q_iload (j := 5) hA rfl dX0_hear_66 ?_
    refine q_iload_n (j := 3) hA rfl dX0_hear_68 ?_
    refine q_icmp_ge (tgt := 147) hA (by omega) (by omega) dX0_hear_69 (by decide) (fun h69 => ?_) (fun h69 => ?_)
    · refine q_aload_n (j := 0) hA rfl dX0_hear_147 ?_
      refine q_getI (x := (D (s + 1)) i) hA f_X0_47 dX0_hear_148 sx_247 (by decide) hE.2.1 ?_
      refine q_aload_n (j := 0) hA rfl dX0_hear_151 ?_
      refine q_getI (x := (D (s + 1)) (i + 1)) hA f_X0_51 dX0_hear_152 sx_247 (by decide) hE.2.2.1 ?_
      refine q_icmp_eq (tgt := 162) hA (by omega) (by omega) dX0_hear_155 (by decide) (fun h155 => ?_) (fun h155 => ?_)
      · refine q_iconst hA dX0_hear_162 ?_
        exact hR 163 _ _ _ dX0_hear_163 (by omega) (by have e : k = n := (by omega); subst e; first | exact ⟨Or.inl ⟨wh_yes (by omega) hb hw h155, rfl, hE⟩, hf⟩ | exact ⟨Or.inr ⟨wh_eq h155, rfl⟩, hf⟩)
      · refine q_iconst hA dX0_hear_158 ?_
        refine q_goto (tgt := 163) hA dX0_hear_159 (by decide) ?_
        exact hR 163 _ _ _ dX0_hear_163 (by omega) (by have e : k = n := (by omega); subst e; first | exact ⟨Or.inl ⟨wh_yes (by omega) hb hw h155, rfl, hE⟩, hf⟩ | exact ⟨Or.inr ⟨wh_eq h155, rfl⟩, hf⟩)
    · refine q_aload_n (j := 1) hA rfl dX0_hear_72 ?_
      refine q_iload_n (j := 2) hA rfl dX0_hear_73 ?_
      refine q_iconst hA dX0_hear_74 ?_
      refine q_iadd hA dX0_hear_75 ?_
      refine q_iconst hA dX0_hear_76 ?_
      refine q_iload (j := 5) hA rfl dX0_hear_77 ?_
      refine q_imul hA dX0_hear_79 ?_
      refine q_iadd hA dX0_hear_80 ?_
      refine q_callVQ (b := s) (As := [vI ((i + 2) + (2 * k))]) (st := []) hA l_X0_37 kX6_at (zX6_at hs oE (by omega)) dX0_hear_81 rfl rfl (shS hs) (by decide) rfl (Nat.le_of_ble_eq_true rfl) (by omega) ?_
      refine q_nmL (fun mv emv => ?_)
      rw [eEs.1, eEs.2, if_pos (by omega)] at emv
      have j0 := hit (i + 2 + 2 * k) (by omega) (by omega)
      rw [← emv] at j0
      refine q_lstore (j := 6) (lo2 := [vR 247, vR s, vI i, vI n, vI N, vI k, vL mv, vN, vN, vN]) hA dX0_hear_84 (by decide) rfl rfl ?_
      refine q_aload_n (j := 1) hA rfl dX0_hear_86 ?_
      refine q_iload_n (j := 2) hA rfl dX0_hear_87 ?_
      refine q_iconst hA dX0_hear_88 ?_
      refine q_iadd hA dX0_hear_89 ?_
      refine q_iconst hA dX0_hear_90 ?_
      refine q_iload (j := 5) hA rfl dX0_hear_91 ?_
      refine q_imul hA dX0_hear_93 ?_
      refine q_iadd hA dX0_hear_94 ?_
      refine q_callVQ (b := s) (As := [vI ((i + 3) + (2 * k))]) (st := []) hA l_X0_37 kX6_at (zX6_at hs oE (by omega)) dX0_hear_95 rfl rfl (shS hs) (by decide) rfl (Nat.le_of_ble_eq_true rfl) (by omega) ?_
      refine q_nmL (fun ft eft => ?_)
      rw [eEs.1, eEs.2, if_pos (by omega)] at eft
      have j1 := hit (i + 3 + 2 * k) (by omega) (by omega)
      rw [← eft] at j1
      have f1 : mv = D (s + 1) (i + 2 * (k + 1)) := by rw [emv]; congr 1; omega
      have f2 : ft = D (s + 1) (i + 2 * (k + 1) + 1) := by rw [eft]; congr 1; omega
      refine q_lstore (j := 8) (lo2 := [vR 247, vR s, vI i, vI n, vI N, vI k, vL mv, vN, vL ft, vN]) hA dX0_hear_98 (by decide) rfl rfl ?_
      refine q_lload (j := 6) hA rfl dX0_hear_100 ?_
      refine q_iconst hA dX0_hear_102 ?_
      refine q_callSB (As := [vL mv, vI 3]) (st := []) hA l_X0_43 kX0_isBelow (zX0_isBelow (by omega) (by omega)) dX0_hear_103 rfl rfl (Nat.le_of_ble_eq_true rfl) (by omega) (fun h103 => ?_) (fun h103 => ?_)
      · refine q_if_eq (tgt := 119) hA (by decide) dX0_hear_106 (by decide) (fun h106 => absurd h106 (by decide)) (fun h106 => ?_)
        refine q_lload (j := 8) hA rfl dX0_hear_109 ?_
        refine q_iload (j := 4) hA rfl dX0_hear_111 ?_
        refine q_callSB (As := [vL ft, vI N]) (st := []) hA l_X0_43 kX0_isBelow (zX0_isBelow (by omega) (by omega)) dX0_hear_113 rfl rfl (Nat.le_of_ble_eq_true rfl) (by omega) (fun h113 => ?_) (fun h113 => ?_)
        · refine q_if_ne (tgt := 121) hA (by decide) dX0_hear_116 (by decide) (fun h116 => ?_) (fun h116 => absurd h116 (by decide))
          refine q_aload_n (j := 0) hA rfl dX0_hear_121 ?_
          refine q_getR hA f_X0_28 dX0_hear_122 sx_247 (by decide) fx_247_4 ?_
          refine q_iload (j := 5) hA rfl dX0_hear_125 ?_
          refine q_lload (j := 6) hA rfl dX0_hear_127 ?_
          refine q_l2i hA dX0_hear_129 ?_
          refine q_iast hA dX0_hear_130 sx_258 (by omega) (by decide) ?_
          refine q_aload_n (j := 0) hA rfl dX0_hear_131 ?_
          refine q_getR hA f_X0_31 dX0_hear_132 sx_247 (by decide) fx_247_5 ?_
          refine q_iload (j := 5) hA rfl dX0_hear_135 ?_
          refine q_lload (j := 8) hA rfl dX0_hear_137 ?_
          refine q_l2i hA dX0_hear_139 ?_
          refine q_iast hA dX0_hear_140 sx_259 (by omega) (by decide) ?_
          refine q_iinc (j := 5) (lo2 := [vR 247, vR s, vI i, vI n, vI N, vI (k + 1), vL mv, vN, vL ft, vN]) hA dX0_hear_141 rfl (by decide) rfl rfl ?_
          refine q_goto (tgt := 66) hA dX0_hear_144 (by decide) ?_
          refine q_fgt (lo2 := [vR 247, vR s, vI i, vI n, vI N, vI (k + 1), vN, vN, vN, vN]) hA ⟨Or.inr rfl, Or.inr rfl, Or.inr rfl, Or.inr rfl, Or.inr rfl, Or.inr rfl, Or.inl rfl, Or.inr rfl, Or.inl rfl, Or.inr rfl, trivial⟩ ?_
          exact ih _ _ (by omega) (by intro j j0 j1; by_cases q : j = k + 1; (rw [q, ← f1, ← f2]; exact ⟨⟨h103.1, by omega⟩, h113.1, by omega⟩); exact hw j j0 (by omega)) (by refine ⟨(upD_n (Or.inl (by omega))).trans ((upD_n (Or.inl (by omega))).trans hE.1), (upD_n (Or.inl (by omega))).trans ((upD_n (Or.inl (by omega))).trans hE.2.1), (upD_n (Or.inl (by omega))).trans ((upD_n (Or.inl (by omega))).trans hE.2.2.1), fun j j0 j1 => ?_⟩; by_cases q : j = k; (rw [q, upD_n (Or.inl (by omega)), upD_s, upD_s]; exact ⟨f1, f2⟩); (rw [upD_n (Or.inl (by omega)), upD_n (Or.inr q), upD_n (Or.inr q), upD_n (Or.inl (by omega))]; exact hE.2.2.2 j j0 (by omega))) (by refine ⟨fun c c1 c2 c3 => (upD_other c3).trans ((upD_other c2).trans (hf.1 c c1 c2 c3)), fun j j1 j2 j3 => (upD_n (Or.inl (by omega))).trans ((upD_n (Or.inl (by omega))).trans (hf.2 j j1 j2 j3))⟩) (by omega)
        · refine q_if_ne (tgt := 121) hA (by decide) dX0_hear_116 (by decide) (fun h116 => absurd h116 (by decide)) (fun h116 => ?_)
          refine q_iconst hA dX0_hear_119 ?_
          exact hR 120 _ _ _ dX0_hear_120 (by omega) ⟨Or.inr ⟨wh_no (k := k + 1) (by omega) (by omega) (by rw [← f1, ← f2]; first | exact fun z => h103 ⟨z.1.1, by omega⟩ | exact fun z => h113 ⟨z.2.1, by omega⟩), rfl⟩, hf⟩
      · refine q_if_eq (tgt := 119) hA (by decide) dX0_hear_106 (by decide) (fun h106 => ?_) (fun h106 => absurd h106 (by decide))
        refine q_iconst hA dX0_hear_119 ?_
        exact hR 120 _ _ _ dX0_hear_120 (by omega) ⟨Or.inr ⟨wh_no (k := k + 1) (by omega) (by omega) (by rw [← f1, ← f2]; first | exact fun z => h103 ⟨z.1.1, by omega⟩ | exact fun z => h113 ⟨z.2.1, by omega⟩), rfl⟩, hf⟩
set_option maxHeartbeats 4000000 in
set_option maxRecDepth 100000 in
theorem zX0_hear {g : Gm} {l : Launch} {D : Dat} {s : Nat} (hs : isSh s) (ho : shOk D s) {i : Int} {n : Int} {N : Int} (hn : 0 ≤ n ∧ n ≤ 8) (hN : 1 ≤ N ∧ N ≤ 8) (hi : 0 ≤ i ∧ i + 2 * n + 2 ≤ D s 2) : CrI g l 2 mX0_hear [vR 247, vR s, vI i, vI n, vI N] D (fun v D1 => ((whB (D (s + 1)) N i n.toNat = true ∧ v = 1 ∧ hrdM D1 (D (s + 1)) i n) ∨ (whB (D (s + 1)) N i n.toNat = false ∧ v = 0)) ∧ (∀ c, c ≠ 247 → c ≠ 258 → c ≠ 259 → D1 c = D c) ∧ ∀ j : Int, j ≠ 8 → j ≠ 9 → j ≠ 10 → D1 247 j = D 247 j) := by
  refine Cr.ofZ (lo0 := [vR 247, vR s, vI i, vI n, vI N, vN, vN, vN, vN, vN]) (by decide) (Nat.le_of_ble_eq_true rfl) rfl (fun J hA hR => ?_)
  have hso := shOut hs
  have hl2 := ho.2.1
  have hit := ho.2.2
  have i0 := hit i (by omega) (by omega)
  have i1 := hit (i + 1) (by omega) (by omega)
  refine q_iload_n (j := 3) hA rfl dX0_hear_0 ?_
  refine q_bipush hA (by decide) dX0_hear_1 ?_
  refine q_icmp_gt (tgt := 34) hA (by omega) (by omega) dX0_hear_3 (by decide) (fun h3 => absurd h3 (by omega)) (fun h3 => ?_)
  refine q_aload_n (j := 1) hA rfl dX0_hear_6 ?_
  refine q_iload_n (j := 2) hA rfl dX0_hear_7 ?_
  refine q_callVQ (b := s) (As := [vI i]) (st := []) hA l_X0_37 kX6_at (zX6_at hs ho (by omega)) dX0_hear_8 rfl rfl (shS hs) (by decide) rfl (Nat.le_of_ble_eq_true rfl) (by omega) ?_
  refine q_nmL (fun a0 ea0 => ?_)
  rw [if_pos (by omega)] at ea0
  refine q_iload (j := 4) hA rfl dX0_hear_11 ?_
  refine q_callSB (As := [vL a0, vI N]) (st := []) hA l_X0_43 kX0_isBelow (zX0_isBelow (by omega) (by omega)) dX0_hear_13 rfl rfl (Nat.le_of_ble_eq_true rfl) (by omega) (fun h13 => ?_) (fun h13 => ?_)
  · refine q_if_eq (tgt := 34) hA (by decide) dX0_hear_16 (by decide) (fun h16 => absurd h16 (by decide)) (fun h16 => ?_)
    refine q_aload_n (j := 1) hA rfl dX0_hear_19 ?_
    refine q_iload_n (j := 2) hA rfl dX0_hear_20 ?_
    refine q_iconst hA dX0_hear_21 ?_
    refine q_iadd hA dX0_hear_22 ?_
    refine q_callVQ (b := s) (As := [vI (i + 1)]) (st := []) hA l_X0_37 kX6_at (zX6_at hs ho (by omega)) dX0_hear_23 rfl rfl (shS hs) (by decide) rfl (Nat.le_of_ble_eq_true rfl) (by omega) ?_
    refine q_nmL (fun a1 ea1 => ?_)
    rw [if_pos (by omega)] at ea1
    refine q_iload (j := 4) hA rfl dX0_hear_26 ?_
    refine q_callSB (As := [vL a1, vI N]) (st := []) hA l_X0_43 kX0_isBelow (zX0_isBelow (by omega) (by omega)) dX0_hear_28 rfl rfl (Nat.le_of_ble_eq_true rfl) (by omega) (fun h28 => ?_) (fun h28 => ?_)
    · refine q_if_ne (tgt := 36) hA (by decide) dX0_hear_31 (by decide) (fun h31 => ?_) (fun h31 => absurd h31 (by decide))
      refine q_aload_n (j := 0) hA rfl dX0_hear_36 ?_
      refine q_aload_n (j := 1) hA rfl dX0_hear_37 ?_
      refine q_iload_n (j := 2) hA rfl dX0_hear_38 ?_
      refine q_callVQ (b := s) (As := [vI i]) (st := [vR 247]) hA l_X0_37 kX6_at (zX6_at hs ho (by omega)) dX0_hear_39 rfl rfl (shS hs) (by decide) rfl (Nat.le_of_ble_eq_true rfl) (by omega) ?_
      refine q_nmL (fun a2 ea2 => ?_)
      rw [if_pos (by omega)] at ea2
      refine q_l2i hA dX0_hear_42 ?_
      refine q_putI hA f_X0_47 dX0_hear_43 sx_247 (by decide) ?_
      refine q_nmD (fun U eU => ?_)
      replace eU : U = upD D 247 9 a2 := eU
      have oU : shOk U s := by unfold shOk; rw [eU, upD_other (by omega), upD_other (by omega)]; exact ho
      have eUs : U s = D s ∧ U (s + 1) = D (s + 1) := by rw [eU, upD_other (by omega), upD_other (by omega)]; exact ⟨rfl, rfl⟩
      refine q_aload_n (j := 0) hA rfl dX0_hear_46 ?_
      refine q_aload_n (j := 1) hA rfl dX0_hear_47 ?_
      refine q_iload_n (j := 2) hA rfl dX0_hear_48 ?_
      refine q_iconst hA dX0_hear_49 ?_
      refine q_iadd hA dX0_hear_50 ?_
      refine q_callVQ (b := s) (As := [vI (i + 1)]) (st := [vR 247]) hA l_X0_37 kX6_at (zX6_at hs oU (by omega)) dX0_hear_51 rfl rfl (shS hs) (by decide) rfl (Nat.le_of_ble_eq_true rfl) (by omega) ?_
      refine q_nmL (fun a3 ea3 => ?_)
      rw [eUs.1, eUs.2, if_pos (by omega)] at ea3
      refine q_l2i hA dX0_hear_54 ?_
      refine q_putI hA f_X0_51 dX0_hear_55 sx_247 (by decide) ?_
      show J _ _ _ (upD U 247 10 a3)
      refine q_aload_n (j := 0) hA rfl dX0_hear_58 ?_
      refine q_iload_n (j := 3) hA rfl dX0_hear_59 ?_
      refine q_putI hA f_X0_54 dX0_hear_60 sx_247 (by decide) ?_
      refine q_nmD (fun V eV => ?_)
      replace eV : V = upD (upD U 247 10 a3) 247 8 n := eV
      refine q_iconst hA dX0_hear_63 ?_
      refine q_istore (j := 5) (lo2 := [vR 247, vR s, vI i, vI n, vI N, vI 0, vN, vN, vN, vN]) hA dX0_hear_64 (by decide) rfl rfl ?_
      refine zX0_hear_L66 (D := D) (s := s) (i := i) (n := n) (N := N) hs ho hn hN hi (by rw [← ea0, ← ea1]; exact ⟨h13, h28⟩) hA hR 1000 _ _ (by omega) (by intro j j0 j1; omega) (by refine ⟨by rw [eV, upD_s], by rw [eV, upD_n (Or.inr (by decide)), upD_n (Or.inr (by decide)), eU, upD_s]; exact ea2, by rw [eV, upD_n (Or.inr (by decide)), upD_s]; exact ea3, fun j j0 j1 => by omega⟩) (by refine ⟨fun c c1 c2 c3 => by rw [eV, upD_other c1, upD_other c1, eU, upD_other c1], fun j j1 j2 j3 => by rw [eV, upD_n (Or.inr j1), upD_n (Or.inr j3), eU, upD_n (Or.inr j2)]⟩) (by omega)
    · refine q_if_ne (tgt := 36) hA (by decide) dX0_hear_31 (by decide) (fun h31 => absurd h31 (by decide)) (fun h31 => ?_)
      refine q_iconst hA dX0_hear_34 ?_
      exact hR 35 _ _ _ dX0_hear_35 (by omega) ⟨Or.inr ⟨wh_no0 (by first | exact Or.inl (by rw [← ea0]; exact h13) | exact Or.inr (by rw [← ea1]; exact h28)), rfl⟩, fun _ _ _ _ => rfl, fun _ _ _ _ => rfl⟩
  · refine q_if_eq (tgt := 34) hA (by decide) dX0_hear_16 (by decide) (fun h16 => ?_) (fun h16 => absurd h16 (by decide))
    refine q_iconst hA dX0_hear_34 ?_
    exact hR 35 _ _ _ dX0_hear_35 (by omega) ⟨Or.inr ⟨wh_no0 (by first | exact Or.inl (by rw [← ea0]; exact h13) | exact Or.inr (by rw [← ea1]; exact h28)), rfl⟩, fun _ _ _ _ => rfl, fun _ _ _ _ => rfl⟩
set_option maxHeartbeats 4000000 in
set_option maxRecDepth 100000 in
theorem zX0_wouldGo_L24 {g : Gm} {l : Launch} {D : Dat} {a : Nat} (hs : isStrip a) {f : Int → Int} {o : Int} {n : Int} (ho : sOk D a) (hN : 1 ≤ D a 6) (hn : 0 ≤ n ∧ n ≤ 8) (hh : hrdM D f o n) (hwh : whB f (D a 6) o n.toNat = true)   {J : JT} (hA : AX g l RX0 cX0_wouldGo 6 3 J) (hR : ReZ cX0_wouldGo (fun v D1 => (gsX (rL (rowX D a)) (rN (rowX D a)) f o n = -4 ∧ v = 0 ∧ D1 = D) ∨ (gsX (rL (rowX D a)) (rN (rowX D a)) f o n ≠ -4 ∧ v = 1 ∧ D1 = upD (upD D 247 11 (gsX (rL (rowX D a)) (rN (rowX D a)) f o n / 8)) 247 12 (gsX (rL (rowX D a)) (rN (rowX D a)) f o n % 8))) J) : ∀ (fuel : Nat) (fr : Int) (bk : Int) (k : Int), (0 ≤ k ∧ k ≤ n) → (0 ≤ fr ∧ fr < D a 6) → (0 ≤ bk ∧ bk < D a 6) → (gsX (rL (rowX D a)) (rN (rowX D a)) f o n = gxGo (rL (rowX D a)) (rN (rowX D a)) f o (n - k).toNat (k + 1) fr bk) → n - k < (fuel : Int) → J 24 [vR 247, vR a, vI fr, vI bk, vI k, vN] [] D := by
  intro fuel
  induction fuel with
  | zero => intro fr bk k hk hfr hbk hv hMs; exact absurd hMs (by omega)
  | succ fuel ih =>
    intro fr bk k hk hfr hbk hv hMs
    have hN8 := ho.n
    have w0 := whB_0 hwh
    refine q_iload (j := 4) hA rfl dX0_wouldGo_24 ?_
    refine q_aload_n (j := 0) hA rfl dX0_wouldGo_26 ?_
    refine q_getI (x := n) hA f_X0_54 dX0_wouldGo_27 sx_247 (by decide) hh.1 ?_
    refine q_icmp_ge (tgt := 95) hA (by omega) (by omega) dX0_wouldGo_30 (by decide) (fun h30 => ?_) (fun h30 => ?_)
    · refine q_aload_n (j := 0) hA rfl dX0_wouldGo_95 ?_
      refine q_iload_n (j := 2) hA rfl dX0_wouldGo_96 ?_
      refine q_putI hA f_X0_65 dX0_wouldGo_97 sx_247 (by decide) ?_
      show J _ _ _ (upD D 247 11 fr)
      refine q_aload_n (j := 0) hA rfl dX0_wouldGo_100 ?_
      refine q_iload_n (j := 3) hA rfl dX0_wouldGo_101 ?_
      refine q_putI hA f_X0_68 dX0_wouldGo_102 sx_247 (by decide) ?_
      show J _ _ _ (upD (upD D 247 11 fr) 247 12 bk)
      refine q_iconst hA dX0_wouldGo_105 ?_
      exact hR 106 _ _ _ dX0_wouldGo_106 (by omega) (by have e : gsX (rL (rowX D a)) (rN (rowX D a)) f o n = 8 * fr + bk := (by rw [hv, show (n - k).toNat = 0 by omega, gxGo]); exact Or.inr ⟨by rw [e]; omega, rfl, by rw [e, show (8 * fr + bk) / 8 = fr by omega, show (8 * fr + bk) % 8 = bk by omega]⟩)
    · refine q_iload (j := 4) hA rfl dX0_wouldGo_33 ?_
      refine q_bipush hA (by decide) dX0_wouldGo_35 ?_
      refine q_icmp_ge (tgt := 95) hA (by omega) (by omega) dX0_wouldGo_37 (by decide) (fun h37 => absurd h37 (by omega)) (fun h37 => ?_)
      have hk1 := hh.2.2.2 k (by omega) (by omega)
      have wk := whB_at hwh (k + 1) (by omega) (by omega)
      refine q_aload_n (j := 0) hA rfl dX0_wouldGo_40 ?_
      refine q_getR hA f_X0_28 dX0_wouldGo_41 sx_247 (by decide) fx_247_4 ?_
      refine q_iload (j := 4) hA rfl dX0_wouldGo_44 ?_
      refine q_iald (x := f (o + 2 * (k + 1))) hA dX0_wouldGo_46 sx_258 (by omega) (by decide) hk1.1 ?_
      refine q_iconst hA dX0_wouldGo_47 ?_
      refine q_icmp_ne (tgt := 55) hA (by omega) (by omega) dX0_wouldGo_48 (by decide) (fun h48 => ?_) (fun h48 => ?_)
      · refine q_aload_n (j := 1) hA rfl dX0_wouldGo_55 ?_
        refine q_iload_n (j := 2) hA rfl dX0_wouldGo_56 ?_
        refine q_iload_n (j := 3) hA rfl dX0_wouldGo_57 ?_
        refine q_aload_n (j := 0) hA rfl dX0_wouldGo_58 ?_
        refine q_getR hA f_X0_28 dX0_wouldGo_59 sx_247 (by decide) fx_247_4 ?_
        refine q_iload (j := 4) hA rfl dX0_wouldGo_62 ?_
        refine q_iald (x := f (o + 2 * (k + 1))) hA dX0_wouldGo_64 sx_258 (by omega) (by decide) hk1.1 ?_
        refine q_callVP (b := a) (As := [vI fr, vI bk, vI (f (o + 2 * (k + 1)))]) (st := []) hA l_X0_61 kX7_third (zX7_third hs ho (by omega) (by omega) (by omega)) dX0_wouldGo_65 rfl rfl (strS hs) (by decide) rfl (Nat.le_of_ble_eq_true rfl) (by omega) ?_
        refine q_nmI (fun th eth => ?_)
        refine q_nmI (fun cm ecm => ?_)
        refine q_istore (j := 5) (lo2 := [vR 247, vR a, vI fr, vI bk, vI k, vI cm]) hA dX0_wouldGo_68 (by decide) rfl rfl ?_
        have hcm : cm = gxP (rL (rowX D a)) (rN (rowX D a)) f o (k + 1) fr bk := by unfold gxP; first | (rw [if_pos (by omega)]; exact ecm) | (rw [if_neg (by omega)]; exact ecm.trans eth)
        have hci := gxP_in (L := rL (rowX D a)) (N := rN (rowX D a)) (f := f) (o := o) (j := k + 1) (fr := fr) (bk := bk) (by rw [xN]; omega) (by rw [xN]; omega)
        rw [← hcm, xN] at hci
        refine q_iload (j := 5) hA rfl dX0_wouldGo_70 ?_
        refine q_aload_n (j := 0) hA rfl dX0_wouldGo_72 ?_
        refine q_getR hA f_X0_31 dX0_wouldGo_73 sx_247 (by decide) fx_247_5 ?_
        refine q_iload (j := 4) hA rfl dX0_wouldGo_76 ?_
        refine q_iald (x := f (o + 2 * (k + 1) + 1)) hA dX0_wouldGo_78 sx_259 (by omega) (by decide) hk1.2 ?_
        refine q_icmp_eq (tgt := 84) hA (by omega) (by omega) dX0_wouldGo_79 (by decide) (fun h79 => ?_) (fun h79 => ?_)
        · refine q_iload_n (j := 2) hA rfl dX0_wouldGo_84 ?_
          refine q_istore_n (j := 3) (lo2 := [vR 247, vR a, vI fr, vI fr, vI k, vI cm]) hA dX0_wouldGo_85 (by decide) rfl rfl ?_
          refine q_iload (j := 5) hA rfl dX0_wouldGo_86 ?_
          refine q_istore_n (j := 2) (lo2 := [vR 247, vR a, vI cm, vI fr, vI k, vI cm]) hA dX0_wouldGo_88 (by decide) rfl rfl ?_
          refine q_iinc (j := 4) (lo2 := [vR 247, vR a, vI cm, vI fr, vI (k + 1), vI cm]) hA dX0_wouldGo_89 rfl (by decide) rfl rfl ?_
          refine q_goto (tgt := 24) hA dX0_wouldGo_92 (by decide) ?_
          refine q_fgt (lo2 := [vR 247, vR a, vI cm, vI fr, vI (k + 1), vN]) hA ⟨Or.inr rfl, Or.inr rfl, Or.inr rfl, Or.inr rfl, Or.inr rfl, Or.inl rfl, trivial⟩ ?_
          exact ih _ _ _ (by omega) (by omega) (by omega) (by rw [hv, show (n - k).toNat = (n - (k + 1)).toNat + 1 by omega, gxGo, ← hcm, if_pos (by omega)]) (by omega)
        · refine q_iconst hA dX0_wouldGo_82 ?_
          exact hR 83 _ _ _ dX0_wouldGo_83 (by omega) (by exact Or.inl ⟨by rw [hv, show (n - k).toNat = (n - (k + 1)).toNat + 1 by omega, gxGo, ← hcm, if_neg (by omega)], rfl, rfl⟩)
      · refine q_iload_n (j := 3) hA rfl dX0_wouldGo_51 ?_
        refine q_goto (tgt := 68) hA dX0_wouldGo_52 (by decide) ?_
        refine q_nmI (fun cm ecm => ?_)
        refine q_istore (j := 5) (lo2 := [vR 247, vR a, vI fr, vI bk, vI k, vI cm]) hA dX0_wouldGo_68 (by decide) rfl rfl ?_
        have hcm : cm = gxP (rL (rowX D a)) (rN (rowX D a)) f o (k + 1) fr bk := by unfold gxP; first | (rw [if_pos (by omega)]; exact ecm) | (rw [if_neg (by omega)]; exact ecm.trans eth)
        have hci := gxP_in (L := rL (rowX D a)) (N := rN (rowX D a)) (f := f) (o := o) (j := k + 1) (fr := fr) (bk := bk) (by rw [xN]; omega) (by rw [xN]; omega)
        rw [← hcm, xN] at hci
        refine q_iload (j := 5) hA rfl dX0_wouldGo_70 ?_
        refine q_aload_n (j := 0) hA rfl dX0_wouldGo_72 ?_
        refine q_getR hA f_X0_31 dX0_wouldGo_73 sx_247 (by decide) fx_247_5 ?_
        refine q_iload (j := 4) hA rfl dX0_wouldGo_76 ?_
        refine q_iald (x := f (o + 2 * (k + 1) + 1)) hA dX0_wouldGo_78 sx_259 (by omega) (by decide) hk1.2 ?_
        refine q_icmp_eq (tgt := 84) hA (by omega) (by omega) dX0_wouldGo_79 (by decide) (fun h79 => ?_) (fun h79 => ?_)
        · refine q_iload_n (j := 2) hA rfl dX0_wouldGo_84 ?_
          refine q_istore_n (j := 3) (lo2 := [vR 247, vR a, vI fr, vI fr, vI k, vI cm]) hA dX0_wouldGo_85 (by decide) rfl rfl ?_
          refine q_iload (j := 5) hA rfl dX0_wouldGo_86 ?_
          refine q_istore_n (j := 2) (lo2 := [vR 247, vR a, vI cm, vI fr, vI k, vI cm]) hA dX0_wouldGo_88 (by decide) rfl rfl ?_
          refine q_iinc (j := 4) (lo2 := [vR 247, vR a, vI cm, vI fr, vI (k + 1), vI cm]) hA dX0_wouldGo_89 rfl (by decide) rfl rfl ?_
          refine q_goto (tgt := 24) hA dX0_wouldGo_92 (by decide) ?_
          refine q_fgt (lo2 := [vR 247, vR a, vI cm, vI fr, vI (k + 1), vN]) hA ⟨Or.inr rfl, Or.inr rfl, Or.inr rfl, Or.inr rfl, Or.inr rfl, Or.inl rfl, trivial⟩ ?_
          exact ih _ _ _ (by omega) (by omega) (by omega) (by rw [hv, show (n - k).toNat = (n - (k + 1)).toNat + 1 by omega, gxGo, ← hcm, if_pos (by omega)]) (by omega)
        · refine q_iconst hA dX0_wouldGo_82 ?_
          exact hR 83 _ _ _ dX0_wouldGo_83 (by omega) (by exact Or.inl ⟨by rw [hv, show (n - k).toNat = (n - (k + 1)).toNat + 1 by omega, gxGo, ← hcm, if_neg (by omega)], rfl, rfl⟩)
set_option maxHeartbeats 4000000 in
set_option maxRecDepth 100000 in
theorem zX0_wouldGo {g : Gm} {l : Launch} {D : Dat} {a : Nat} (hs : isStrip a) {f : Int → Int} {o : Int} {n : Int} (ho : sOk D a) (hN : 1 ≤ D a 6) (hn : 0 ≤ n ∧ n ≤ 8) (hh : hrdM D f o n) (hwh : whB f (D a 6) o n.toNat = true) : CrI g l 3 mX0_wouldGo [vR 247, vR a] D (fun v D1 => (gsX (rL (rowX D a)) (rN (rowX D a)) f o n = -4 ∧ v = 0 ∧ D1 = D) ∨ (gsX (rL (rowX D a)) (rN (rowX D a)) f o n ≠ -4 ∧ v = 1 ∧ D1 = upD (upD D 247 11 (gsX (rL (rowX D a)) (rN (rowX D a)) f o n / 8)) 247 12 (gsX (rL (rowX D a)) (rN (rowX D a)) f o n % 8))) := by
  refine Cr.ofZ (lo0 := [vR 247, vR a, vN, vN, vN, vN]) (by decide) (Nat.le_of_ble_eq_true rfl) rfl (fun J hA hR => ?_)
  have hN8 := ho.n
  have w0 := whB_0 hwh
  refine q_aload_n (j := 0) hA rfl dX0_wouldGo_0 ?_
  refine q_getI (x := f o) hA f_X0_47 dX0_wouldGo_1 sx_247 (by decide) hh.2.1 ?_
  refine q_istore_n (j := 2) (lo2 := [vR 247, vR a, vI (f o), vN, vN, vN]) hA dX0_wouldGo_4 (by decide) rfl rfl ?_
  refine q_aload_n (j := 0) hA rfl dX0_wouldGo_5 ?_
  refine q_getI (x := f (o + 1)) hA f_X0_51 dX0_wouldGo_6 sx_247 (by decide) hh.2.2.1 ?_
  refine q_istore_n (j := 3) (lo2 := [vR 247, vR a, vI (f o), vI (f (o + 1)), vN, vN]) hA dX0_wouldGo_9 (by decide) rfl rfl ?_
  refine q_aload_n (j := 1) hA rfl dX0_wouldGo_10 ?_
  refine q_iload_n (j := 2) hA rfl dX0_wouldGo_11 ?_
  refine q_iload_n (j := 3) hA rfl dX0_wouldGo_12 ?_
  refine q_callVB (b := a) (As := [vI (f o), vI (f (o + 1))]) (st := []) hA l_X0_57 kX7_areLinked (zX7_areLinked hs ho (by omega) (by omega)) dX0_wouldGo_13 rfl rfl (strS hs) (by decide) rfl (Nat.le_of_ble_eq_true rfl) (by omega) (fun h13 => ?_) (fun h13 => ?_)
  · refine q_if_ne (tgt := 21) hA (by decide) dX0_wouldGo_16 (by decide) (fun h16 => ?_) (fun h16 => absurd h16 (by decide))
    refine q_iconst hA dX0_wouldGo_21 ?_
    refine q_istore (j := 4) (lo2 := [vR 247, vR a, vI (f o), vI (f (o + 1)), vI 0, vN]) hA dX0_wouldGo_22 (by decide) rfl rfl ?_
    refine zX0_wouldGo_L24 (D := D) (a := a) (f := f) (o := o) (n := n) hs ho hN hn hh hwh  hA hR 1000 _ _ _ (by omega) (by omega) (by omega) (by unfold gsX; rw [if_pos (by rw [xL (by omega)]; exact h13.2.2), Int.sub_zero]; rfl) (by omega)
  · refine q_if_ne (tgt := 21) hA (by decide) dX0_wouldGo_16 (by decide) (fun h16 => absurd h16 (by decide)) (fun h16 => ?_)
    refine q_iconst hA dX0_wouldGo_19 ?_
    exact hR 20 _ _ _ dX0_wouldGo_20 (by omega) (by exact Or.inl ⟨by unfold gsX; rw [if_neg (by rw [xL (by omega)]; exact fun z => h13 ⟨by omega, by omega, z⟩)], rfl, rfl⟩)
