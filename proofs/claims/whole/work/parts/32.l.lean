set_option maxHeartbeats 4000000 in
set_option maxRecDepth 100000 in
theorem zX10_readsFolds_L48 {g : Gm} {l : Launch} {D : Dat} (ht : 0 ≤ D 283 3 ∧ D 283 3 ≤ D 283 2 ∧ D 283 2 ≤ 80) (htp : ∀ i : Int, 0 ≤ i → i < 80 → 0 ≤ D 285 i ∧ D 285 i ≤ 255) (hN : 3 ≤ D 286 0 ∧ D 286 0 ≤ 8) {n : Int} (hn4 : 4 ≤ n ∧ n ≤ 8) (en : n = D 286 0) {J : JT} (hA : AX g l RX10 cX10_readsFolds 5 3 J) (hR : ReZ cX10_readsFolds (fun v D1 => MB D D1 v (pb (pFolds (mAt D) (rowM D 286 0) (D 283 3)) (fun r p => sgn (mAt D) 59 r p)) ∧ (v = 1 → lkOk D1 286 44 ∧ D1 286 0 = D 286 0)) J) : ∀ (fuel : Nat) (k : Int) (E : Dat), (0 ≤ k ∧ k ≤ n - 3) → (pf D E) → (0 ≤ E 283 3 ∧ E 283 3 ≤ D 283 2) → (E 286 0 = n) → (lkOk E 286 44) → (sym8 (rowM E 286 0)) → (pFolds (mAt D) (rowM D 286 0) (D 283 3) = pFoldG (mAt D) (n - 3 - k).toNat (decide (k = 0)) (rowM E 286 0) (E 283 3)) → n - k < (fuel : Int) → J 48 [vR 283, vI n, vI k, vN, vN] [] E := by
  intro fuel
  induction fuel with
  | zero => intro k E hk hE hpl hrn hlk hsy hv hMs; exact absurd hMs (by omega)
  | succ fuel ih =>
    intro k E hk hE hpl hrn hlk hsy hv hMs
    have hts := hE.ts
    have hat := hE.at
    have htp2 := hE.tp htp
    have hrN : rN (rowM E 286 0) = n := (mN E 286).trans hrn
    refine q_iload_n (j := 2) hA rfl dX10_readsFolds_48 ?_
    refine q_iload_n (j := 1) hA rfl dX10_readsFolds_49 ?_
    refine q_iconst hA dX10_readsFolds_50 ?_
    refine q_isub hA dX10_readsFolds_51 ?_
    refine q_icmp_ge (tgt := 154) hA (by omega) (by omega) dX10_readsFolds_52 (by decide) (fun h52 => ?_) (fun h52 => ?_)
    · refine q_aload_n (j := 0) hA rfl dX10_readsFolds_154 ?_
      refine q_bipush hA (by decide) dX10_readsFolds_155 ?_
      refine q_callVI (b := 283) (As := [vI 59]) (st := []) hA l_X10_100 kX10_has (zX10_has (by first | assumption | omega | rfl) (by first | assumption | omega | rfl) (by first | assumption | omega | rfl)) dX10_readsFolds_157 rfl rfl sx_283 (by decide) rfl (Nat.le_of_ble_eq_true rfl) (by omega) (fun v157 D157 q157 => ?_)
      have g157 := hasQ_of (by omega) q157
      have b157 : v157 = 0 ∨ v157 = 1 := (by rcases g157.2.2 with z | z <;> omega)
      exact hR 160 _ _ _ dX10_readsFolds_160 (by omega) (by exact ⟨MB_s (fg_z (by omega) hv) hE rfl rfl (by omega) g157 rfl, fun _ => ⟨lk_c hlk g157.2.1, by rw [g157.2.1, hrn]; exact en⟩⟩)
    · refine q_iload_n (j := 2) hA rfl dX10_readsFolds_55 ?_
      refine q_if_le (tgt := 70) hA (by omega) dX10_readsFolds_56 (by decide) (fun h56 => ?_) (fun h56 => ?_)
      · refine q_nmD (fun W eW => ?_)
        have hW : pf D W := by first | exact eW ▸ hE | exact eW ▸ (hE.tr f62)
        have hWe : W 286 = E 286 := by first | (rw [eW]; done) | (rw [eW]; exact r62)
        have hWk : lkOk W 286 44 := lk_c hlk hWe
        have hWx : pFolds (mAt D) (rowM D 286 0) (D 283 3) = pb (pFold (mAt D) (rowM E 286 0) (W 283 3)) (fun r p => pFoldG (mAt D) (n - 3 - (k + 1)).toNat false r p) := by first | (rw [eW]; exact fg_0 (by omega) h56 hv) | (rw [eW, show D62 283 3 = E 283 3 + 1 by omega]; exact fg_1 (by omega) (by omega) (by omega) hv)
        have hWi : 0 ≤ W 283 3 ∧ W 283 3 ≤ D 283 2 := by first | (rw [eW]; exact hpl) | (rw [eW]; omega)
        have hWs := hW.ts
        have hWt := hW.tp htp
        have i75 := figT_in (mAt D) (W 283 3)
        refine q_aload_n (j := 0) hA rfl dX10_readsFolds_70 ?_
        refine q_iconst hA dX10_readsFolds_71 ?_
        refine q_iload_n (j := 1) hA rfl dX10_readsFolds_72 ?_
        refine q_iconst hA dX10_readsFolds_73 ?_
        refine q_isub hA dX10_readsFolds_74 ?_
        refine q_callVI (b := 283) (As := [vI 0, vI (n - 1)]) (st := []) hA l_X10_96 kX10_figure (zX10_figure (by first | assumption | omega | rfl) (by first | assumption | omega | rfl) (by first | assumption | omega | rfl) (by first | assumption | omega | rfl)) dX10_readsFolds_75 rfl rfl sx_283 (by decide) rfl (Nat.le_of_ble_eq_true rfl) (by omega) (fun v75 D75 q75 => ?_)
        have g75 := figQ_of (by omega) (by omega) q75
        unfold figQ at g75
        rw [hW.at, hW.ts] at g75
        obtain ⟨f75, r75, c75⟩ := g75
        refine q_istore_n (j := 3) (lo2 := [vR 283, vI n, vI k, vI v75, vN]) hA dX10_readsFolds_78 (by decide) rfl rfl ?_
        refine q_iload_n (j := 3) hA rfl dX10_readsFolds_79 ?_
        have hV : pf D D75 := hW.tr f75
        have hVs := hV.ts
        refine q_if_ge (tgt := 85) hA (by omega) dX10_readsFolds_80 (by decide) (fun h80 => ?_) (fun h80 => ?_)
        · have hVt := hV.tp htp
          have hVp : D75 283 3 = W 283 3 + 1 := by omega
          have ea : v75 = figT (mAt D) (W 283 3) := by omega
          have hVk : lkOk D75 286 44 := lk_c hWk r75
          have hmi := mAt_in htp (p := W 283 3 + 1) (by omega)
          refine q_aload_n (j := 0) hA rfl dX10_readsFolds_85 ?_
          refine q_callVP (b := 283) (As := []) (st := []) hA l_X10_88 kX10_here (zX10_here (by first | assumption | omega | rfl) (by first | assumption | omega | rfl)) dX10_readsFolds_86 rfl rfl sx_283 (by decide) rfl (Nat.le_of_ble_eq_true rfl) (by omega) ?_
          refine q_nmI (fun v86 ev86 => ?_)
          rw [hV.at, hVp] at ev86
          rw [← ev86] at hmi
          refine q_bipush hA (by decide) dX10_readsFolds_89 ?_
          refine q_isub hA dX10_readsFolds_91 ?_
          refine q_nmI (fun b eb => ?_)
          refine q_istore (j := 4) (lo2 := [vR 283, vI n, vI k, vI v75, vI b]) hA dX10_readsFolds_92 (by decide) rfl rfl ?_
          have hfb := figT_b (t := mAt D) (p := W 283 3 + 1) (b := b) (n := n) (by rw [← ev86]; exact eb) (by omega)
          refine q_iload (j := 4) hA rfl dX10_readsFolds_94 ?_
          refine q_i2l hA (by omega) dX10_readsFolds_96 ?_
          refine q_lconst hA dX10_readsFolds_97 ?_
          show J _ _ (vL 0 :: _) _
          refine q_iload_n (j := 1) hA rfl dX10_readsFolds_98 ?_
          refine q_iconst hA dX10_readsFolds_99 ?_
          refine q_isub hA dX10_readsFolds_100 ?_
          refine q_i2l hA (by omega) dX10_readsFolds_101 ?_
          refine q_callSB (As := [vL b, vL 0, vL (n - 1)]) (st := []) hA l_X10_77 kX10_in (zX10_in (by first | assumption | omega | rfl) (by first | assumption | omega | rfl) (by first | assumption | omega | rfl)) dX10_readsFolds_102 rfl rfl (Nat.le_of_ble_eq_true rfl) (by omega) (fun h102 => ?_) (fun h102 => ?_)
          · refine q_if_eq (tgt := 124) hA (by decide) dX10_readsFolds_105 (by decide) (fun h105 => absurd h105 (by decide)) (fun h105 => ?_)
            have hcj := can_jn (r := rowM E 286 0) (L := fun p => D75 286 (44 + p)) (n := n) (a := v75) (b := b) ⟨hrN, by omega⟩ hsy (fun p p0 p1 => by rw [mL ⟨p0, p1⟩, r75, hWe]) (by omega) (by omega)
            refine q_aload_n (j := 0) hA rfl dX10_readsFolds_108 ?_
            refine q_getR hA f_X10_16 dX10_readsFolds_109 sx_283 (by decide) fx_283_4 ?_
            refine q_bipush hA (by decide) dX10_readsFolds_112 ?_
            refine q_iload_n (j := 1) hA rfl dX10_readsFolds_114 ?_
            refine q_iload_n (j := 3) hA rfl dX10_readsFolds_115 ?_
            refine q_iload (j := 4) hA rfl dX10_readsFolds_116 ?_
            refine q_callSB (As := [vR 286, vI 44, vI n, vI v75, vI b]) (st := []) hA l_X10_116 kX10_joins (zX10_joins (c := 286) (w := 52) ⟨sx_286, by omega⟩ (by omega) (by omega) hVk (by omega) (by omega)) dX10_readsFolds_118 rfl rfl (Nat.le_of_ble_eq_true rfl) (by omega) (fun h118 => ?_) (fun h118 => ?_)
            · refine q_if_ne (tgt := 126) hA (by decide) dX10_readsFolds_121 (by decide) (fun h121 => ?_) (fun h121 => absurd h121 (by decide))
              refine q_aload_n (j := 0) hA rfl dX10_readsFolds_126 ?_
              refine q_dupR hA dX10_readsFolds_127 ?_
              refine q_getI (x := D75 283 3) hA f_X10_85 dX10_readsFolds_128 sx_283 (by decide) rfl ?_
              refine q_iconst hA dX10_readsFolds_131 ?_
              refine q_iadd hA dX10_readsFolds_132 ?_
              refine q_putI hA f_X10_85 dX10_readsFolds_133 sx_283 (by decide) ?_
              refine q_nmD (fun U eU => ?_)
              replace eU : U = upD D75 283 3 (D75 283 3 + 1) := eU
              have hU : pf D U := eU ▸ hV.pl
              have hUe : U 286 = D75 286 := by rw [eU, upD_other (by omega)]
              have hUk : lkOk U 286 44 := lk_c hVk hUe
              have hUp : U 283 3 = W 283 3 + 2 := by rw [eU, upD_s]; omega
              have hpf : pFold (mAt D) (rowM E 286 0) (W 283 3) = (true, joinR (rowM E 286 0) v75 b, W 283 3 + 2) := pFold_4 hrN ea (by omega) (hfb.2 (by omega) (by omega)) (by omega) (hcj.1 h118)
              refine q_aload_n (j := 0) hA rfl dX10_readsFolds_136 ?_
              refine q_getR hA f_X10_16 dX10_readsFolds_137 sx_283 (by decide) fx_283_4 ?_
              refine q_bipush hA (by decide) dX10_readsFolds_140 ?_
              refine q_iload_n (j := 3) hA rfl dX10_readsFolds_142 ?_
              refine q_iload (j := 4) hA rfl dX10_readsFolds_143 ?_
              refine q_callSV (As := [vR 286, vI 44, vI v75, vI b]) (st := []) hA l_X10_108 kX10_links (zX10_links (c := 286) (w := 52) ⟨sx_286, by omega⟩ (by omega) hUk (by omega) (by omega)) dX10_readsFolds_145 rfl rfl (Nat.le_of_ble_eq_true rfl) (by omega) (fun D145 q145 => ?_)
              have hJr : rowM D145 286 0 = joinR (rowM E 286 0) v75 b := by rw [q145, ln_row (by omega) (by omega), rowM_c (hUe.trans (r75.trans hWe))]
              have hJp : D145 283 3 = W 283 3 + 2 := by rw [q145, lnM_fr (Or.inl (by omega))]; exact hUp
              refine q_iinc (j := 2) (lo2 := [vR 283, vI n, vI (k + 1), vI v75, vI b]) hA dX10_readsFolds_148 rfl (by decide) rfl rfl ?_
              refine q_goto (tgt := 48) hA dX10_readsFolds_151 (by decide) ?_
              refine q_fgt (lo2 := [vR 283, vI n, vI (k + 1), vN, vN]) hA ⟨Or.inr rfl, Or.inr rfl, Or.inr rfl, Or.inl rfl, Or.inl rfl, trivial⟩ ?_
              exact ih _ _ (by omega) (by rw [q145]; exact ln_pf hU) (by omega) (by rw [q145, lnM_fr (Or.inr (by omega)), hUe, r75, hWe]; exact hrn) (by rw [q145]; exact lnM_ok hUk (by omega) (by omega)) (by rw [hJr]; exact hsy.join (rowM_len _ _ _) (by omega) (by omega)) (by rw [hJr, hJp, decide_eq_false (show ¬ k + 1 = 0 by omega)]; exact fg_t hWx hpf) (by omega)
            · refine q_if_ne (tgt := 126) hA (by decide) dX10_readsFolds_121 (by decide) (fun h121 => absurd h121 (by decide)) (fun h121 => ?_)
              refine q_iconst hA dX10_readsFolds_124 ?_
              exact hR 125 _ _ _ dX10_readsFolds_125 (by omega) (by first | exact ⟨MB_f (fg_f hWx (pFold_2 hrN ea (by omega) (fun z => h102 (hfb.1.1 z)))) hVp hV (by omega), fun z => absurd z (by decide)⟩ | exact ⟨MB_f (fg_f hWx (pFold_3 hrN ea (by omega) (hfb.2 (by omega) (by omega)) (fun z => h118 (hcj.2 z)))) hVp hV (by omega), fun z => absurd z (by decide)⟩)
          · refine q_if_eq (tgt := 124) hA (by decide) dX10_readsFolds_105 (by decide) (fun h105 => ?_) (fun h105 => absurd h105 (by decide))
            refine q_iconst hA dX10_readsFolds_124 ?_
            exact hR 125 _ _ _ dX10_readsFolds_125 (by omega) (by first | exact ⟨MB_f (fg_f hWx (pFold_2 hrN ea (by omega) (fun z => h102 (hfb.1.1 z)))) hVp hV (by omega), fun z => absurd z (by decide)⟩ | exact ⟨MB_f (fg_f hWx (pFold_3 hrN ea (by omega) (hfb.2 (by omega) (by omega)) (fun z => h118 (hcj.2 z)))) hVp hV (by omega), fun z => absurd z (by decide)⟩)
        · refine q_iconst hA dX10_readsFolds_83 ?_
          exact hR 84 _ _ _ dX10_readsFolds_84 (by omega) (by exact ⟨MB_f (fg_f hWx (pFold_1 hrN (by omega))) (by omega) hV (by omega), fun z => absurd z (by decide)⟩)
      · refine q_aload_n (j := 0) hA rfl dX10_readsFolds_59 ?_
        refine q_bipush hA (by decide) dX10_readsFolds_60 ?_
        refine q_callVI (b := 283) (As := [vI 44]) (st := []) hA l_X10_100 kX10_has (zX10_has (by first | assumption | omega | rfl) (by first | assumption | omega | rfl) (by first | assumption | omega | rfl)) dX10_readsFolds_62 rfl rfl sx_283 (by decide) rfl (Nat.le_of_ble_eq_true rfl) (by omega) (fun v62 D62 q62 => ?_)
        have g62 := hasQ_of (by omega) q62
        have G62 := g62
        unfold hasQ at g62
        rw [hE.at, hE.ts] at g62
        obtain ⟨f62, r62, c62⟩ := g62
        have b62 : v62 = 0 ∨ v62 = 1 := by omega
        refine q_if_ne (tgt := 70) hA (by omega) dX10_readsFolds_65 (by decide) (fun h65 => ?_) (fun h65 => ?_)
        · refine q_nmD (fun W eW => ?_)
          have hW : pf D W := by first | exact eW ▸ hE | exact eW ▸ (hE.tr f62)
          have hWe : W 286 = E 286 := by first | (rw [eW]; done) | (rw [eW]; exact r62)
          have hWk : lkOk W 286 44 := lk_c hlk hWe
          have hWx : pFolds (mAt D) (rowM D 286 0) (D 283 3) = pb (pFold (mAt D) (rowM E 286 0) (W 283 3)) (fun r p => pFoldG (mAt D) (n - 3 - (k + 1)).toNat false r p) := by first | (rw [eW]; exact fg_0 (by omega) h56 hv) | (rw [eW, show D62 283 3 = E 283 3 + 1 by omega]; exact fg_1 (by omega) (by omega) (by omega) hv)
          have hWi : 0 ≤ W 283 3 ∧ W 283 3 ≤ D 283 2 := by first | (rw [eW]; exact hpl) | (rw [eW]; omega)
          have hWs := hW.ts
          have hWt := hW.tp htp
          have i75 := figT_in (mAt D) (W 283 3)
          refine q_aload_n (j := 0) hA rfl dX10_readsFolds_70 ?_
          refine q_iconst hA dX10_readsFolds_71 ?_
          refine q_iload_n (j := 1) hA rfl dX10_readsFolds_72 ?_
          refine q_iconst hA dX10_readsFolds_73 ?_
          refine q_isub hA dX10_readsFolds_74 ?_
          refine q_callVI (b := 283) (As := [vI 0, vI (n - 1)]) (st := []) hA l_X10_96 kX10_figure (zX10_figure (by first | assumption | omega | rfl) (by first | assumption | omega | rfl) (by first | assumption | omega | rfl) (by first | assumption | omega | rfl)) dX10_readsFolds_75 rfl rfl sx_283 (by decide) rfl (Nat.le_of_ble_eq_true rfl) (by omega) (fun v75 D75 q75 => ?_)
          have g75 := figQ_of (by omega) (by omega) q75
          unfold figQ at g75
          rw [hW.at, hW.ts] at g75
          obtain ⟨f75, r75, c75⟩ := g75
          refine q_istore_n (j := 3) (lo2 := [vR 283, vI n, vI k, vI v75, vN]) hA dX10_readsFolds_78 (by decide) rfl rfl ?_
          refine q_iload_n (j := 3) hA rfl dX10_readsFolds_79 ?_
          have hV : pf D D75 := hW.tr f75
          have hVs := hV.ts
          refine q_if_ge (tgt := 85) hA (by omega) dX10_readsFolds_80 (by decide) (fun h80 => ?_) (fun h80 => ?_)
          · have hVt := hV.tp htp
            have hVp : D75 283 3 = W 283 3 + 1 := by omega
            have ea : v75 = figT (mAt D) (W 283 3) := by omega
            have hVk : lkOk D75 286 44 := lk_c hWk r75
            have hmi := mAt_in htp (p := W 283 3 + 1) (by omega)
            refine q_aload_n (j := 0) hA rfl dX10_readsFolds_85 ?_
            refine q_callVP (b := 283) (As := []) (st := []) hA l_X10_88 kX10_here (zX10_here (by first | assumption | omega | rfl) (by first | assumption | omega | rfl)) dX10_readsFolds_86 rfl rfl sx_283 (by decide) rfl (Nat.le_of_ble_eq_true rfl) (by omega) ?_
            refine q_nmI (fun v86 ev86 => ?_)
            rw [hV.at, hVp] at ev86
            rw [← ev86] at hmi
            refine q_bipush hA (by decide) dX10_readsFolds_89 ?_
            refine q_isub hA dX10_readsFolds_91 ?_
            refine q_nmI (fun b eb => ?_)
            refine q_istore (j := 4) (lo2 := [vR 283, vI n, vI k, vI v75, vI b]) hA dX10_readsFolds_92 (by decide) rfl rfl ?_
            have hfb := figT_b (t := mAt D) (p := W 283 3 + 1) (b := b) (n := n) (by rw [← ev86]; exact eb) (by omega)
            refine q_iload (j := 4) hA rfl dX10_readsFolds_94 ?_
            refine q_i2l hA (by omega) dX10_readsFolds_96 ?_
            refine q_lconst hA dX10_readsFolds_97 ?_
            show J _ _ (vL 0 :: _) _
            refine q_iload_n (j := 1) hA rfl dX10_readsFolds_98 ?_
            refine q_iconst hA dX10_readsFolds_99 ?_
            refine q_isub hA dX10_readsFolds_100 ?_
            refine q_i2l hA (by omega) dX10_readsFolds_101 ?_
            refine q_callSB (As := [vL b, vL 0, vL (n - 1)]) (st := []) hA l_X10_77 kX10_in (zX10_in (by first | assumption | omega | rfl) (by first | assumption | omega | rfl) (by first | assumption | omega | rfl)) dX10_readsFolds_102 rfl rfl (Nat.le_of_ble_eq_true rfl) (by omega) (fun h102 => ?_) (fun h102 => ?_)
            · refine q_if_eq (tgt := 124) hA (by decide) dX10_readsFolds_105 (by decide) (fun h105 => absurd h105 (by decide)) (fun h105 => ?_)
              have hcj := can_jn (r := rowM E 286 0) (L := fun p => D75 286 (44 + p)) (n := n) (a := v75) (b := b) ⟨hrN, by omega⟩ hsy (fun p p0 p1 => by rw [mL ⟨p0, p1⟩, r75, hWe]) (by omega) (by omega)
              refine q_aload_n (j := 0) hA rfl dX10_readsFolds_108 ?_
              refine q_getR hA f_X10_16 dX10_readsFolds_109 sx_283 (by decide) fx_283_4 ?_
              refine q_bipush hA (by decide) dX10_readsFolds_112 ?_
              refine q_iload_n (j := 1) hA rfl dX10_readsFolds_114 ?_
              refine q_iload_n (j := 3) hA rfl dX10_readsFolds_115 ?_
              refine q_iload (j := 4) hA rfl dX10_readsFolds_116 ?_
              refine q_callSB (As := [vR 286, vI 44, vI n, vI v75, vI b]) (st := []) hA l_X10_116 kX10_joins (zX10_joins (c := 286) (w := 52) ⟨sx_286, by omega⟩ (by omega) (by omega) hVk (by omega) (by omega)) dX10_readsFolds_118 rfl rfl (Nat.le_of_ble_eq_true rfl) (by omega) (fun h118 => ?_) (fun h118 => ?_)
              · refine q_if_ne (tgt := 126) hA (by decide) dX10_readsFolds_121 (by decide) (fun h121 => ?_) (fun h121 => absurd h121 (by decide))
                refine q_aload_n (j := 0) hA rfl dX10_readsFolds_126 ?_
                refine q_dupR hA dX10_readsFolds_127 ?_
                refine q_getI (x := D75 283 3) hA f_X10_85 dX10_readsFolds_128 sx_283 (by decide) rfl ?_
                refine q_iconst hA dX10_readsFolds_131 ?_
                refine q_iadd hA dX10_readsFolds_132 ?_
                refine q_putI hA f_X10_85 dX10_readsFolds_133 sx_283 (by decide) ?_
                refine q_nmD (fun U eU => ?_)
                replace eU : U = upD D75 283 3 (D75 283 3 + 1) := eU
                have hU : pf D U := eU ▸ hV.pl
                have hUe : U 286 = D75 286 := by rw [eU, upD_other (by omega)]
                have hUk : lkOk U 286 44 := lk_c hVk hUe
                have hUp : U 283 3 = W 283 3 + 2 := by rw [eU, upD_s]; omega
                have hpf : pFold (mAt D) (rowM E 286 0) (W 283 3) = (true, joinR (rowM E 286 0) v75 b, W 283 3 + 2) := pFold_4 hrN ea (by omega) (hfb.2 (by omega) (by omega)) (by omega) (hcj.1 h118)
                refine q_aload_n (j := 0) hA rfl dX10_readsFolds_136 ?_
                refine q_getR hA f_X10_16 dX10_readsFolds_137 sx_283 (by decide) fx_283_4 ?_
                refine q_bipush hA (by decide) dX10_readsFolds_140 ?_
                refine q_iload_n (j := 3) hA rfl dX10_readsFolds_142 ?_
                refine q_iload (j := 4) hA rfl dX10_readsFolds_143 ?_
                refine q_callSV (As := [vR 286, vI 44, vI v75, vI b]) (st := []) hA l_X10_108 kX10_links (zX10_links (c := 286) (w := 52) ⟨sx_286, by omega⟩ (by omega) hUk (by omega) (by omega)) dX10_readsFolds_145 rfl rfl (Nat.le_of_ble_eq_true rfl) (by omega) (fun D145 q145 => ?_)
                have hJr : rowM D145 286 0 = joinR (rowM E 286 0) v75 b := by rw [q145, ln_row (by omega) (by omega), rowM_c (hUe.trans (r75.trans hWe))]
                have hJp : D145 283 3 = W 283 3 + 2 := by rw [q145, lnM_fr (Or.inl (by omega))]; exact hUp
                refine q_iinc (j := 2) (lo2 := [vR 283, vI n, vI (k + 1), vI v75, vI b]) hA dX10_readsFolds_148 rfl (by decide) rfl rfl ?_
                refine q_goto (tgt := 48) hA dX10_readsFolds_151 (by decide) ?_
                refine q_fgt (lo2 := [vR 283, vI n, vI (k + 1), vN, vN]) hA ⟨Or.inr rfl, Or.inr rfl, Or.inr rfl, Or.inl rfl, Or.inl rfl, trivial⟩ ?_
                exact ih _ _ (by omega) (by rw [q145]; exact ln_pf hU) (by omega) (by rw [q145, lnM_fr (Or.inr (by omega)), hUe, r75, hWe]; exact hrn) (by rw [q145]; exact lnM_ok hUk (by omega) (by omega)) (by rw [hJr]; exact hsy.join (rowM_len _ _ _) (by omega) (by omega)) (by rw [hJr, hJp, decide_eq_false (show ¬ k + 1 = 0 by omega)]; exact fg_t hWx hpf) (by omega)
              · refine q_if_ne (tgt := 126) hA (by decide) dX10_readsFolds_121 (by decide) (fun h121 => absurd h121 (by decide)) (fun h121 => ?_)
                refine q_iconst hA dX10_readsFolds_124 ?_
                exact hR 125 _ _ _ dX10_readsFolds_125 (by omega) (by first | exact ⟨MB_f (fg_f hWx (pFold_2 hrN ea (by omega) (fun z => h102 (hfb.1.1 z)))) hVp hV (by omega), fun z => absurd z (by decide)⟩ | exact ⟨MB_f (fg_f hWx (pFold_3 hrN ea (by omega) (hfb.2 (by omega) (by omega)) (fun z => h118 (hcj.2 z)))) hVp hV (by omega), fun z => absurd z (by decide)⟩)
            · refine q_if_eq (tgt := 124) hA (by decide) dX10_readsFolds_105 (by decide) (fun h105 => ?_) (fun h105 => absurd h105 (by decide))
              refine q_iconst hA dX10_readsFolds_124 ?_
              exact hR 125 _ _ _ dX10_readsFolds_125 (by omega) (by first | exact ⟨MB_f (fg_f hWx (pFold_2 hrN ea (by omega) (fun z => h102 (hfb.1.1 z)))) hVp hV (by omega), fun z => absurd z (by decide)⟩ | exact ⟨MB_f (fg_f hWx (pFold_3 hrN ea (by omega) (hfb.2 (by omega) (by omega)) (fun z => h118 (hcj.2 z)))) hVp hV (by omega), fun z => absurd z (by decide)⟩)
          · refine q_iconst hA dX10_readsFolds_83 ?_
            exact hR 84 _ _ _ dX10_readsFolds_84 (by omega) (by exact ⟨MB_f (fg_f hWx (pFold_1 hrN (by omega))) (by omega) hV (by omega), fun z => absurd z (by decide)⟩)
        · refine q_iconst hA dX10_readsFolds_68 ?_
          exact hR 69 _ _ _ dX10_readsFolds_69 (by omega) (by exact ⟨MB_f (fg_2 (by omega) (by omega) (by omega) hv) (by omega) (hE.tr f62) (by have := f62.ts; omega), fun z => absurd z (by decide)⟩)
set_option maxHeartbeats 4000000 in
set_option maxRecDepth 100000 in
theorem zX10_readsFolds {g : Gm} {l : Launch} {D : Dat} (ht : 0 ≤ D 283 3 ∧ D 283 3 ≤ D 283 2 ∧ D 283 2 ≤ 80) (htp : ∀ i : Int, 0 ≤ i → i < 80 → 0 ≤ D 285 i ∧ D 285 i ≤ 255) (hN : 3 ≤ D 286 0 ∧ D 286 0 ≤ 8) : CrI g l 3 mX10_readsFolds [vR 283] D (fun v D1 => MB D D1 v (pb (pFolds (mAt D) (rowM D 286 0) (D 283 3)) (fun r p => sgn (mAt D) 59 r p)) ∧ (v = 1 → lkOk D1 286 44 ∧ D1 286 0 = D 286 0)) := by
  refine Cr.ofZ (lo0 := [vR 283, vN, vN, vN, vN]) (by decide) (Nat.le_of_ble_eq_true rfl) rfl (fun J hA hR => ?_)
  refine q_aload_n (j := 0) hA rfl dX10_readsFolds_0 ?_
  refine q_getR hA f_X10_16 dX10_readsFolds_1 sx_283 (by decide) fx_283_4 ?_
  refine q_iconst hA dX10_readsFolds_4 ?_
  refine q_iald (x := D 286 0) hA dX10_readsFolds_5 sx_286 (by omega) (by decide) rfl ?_
  refine q_nmI (fun n en => ?_)
  refine q_istore_n (j := 1) (lo2 := [vR 283, vI n, vN, vN, vN]) hA dX10_readsFolds_6 (by decide) rfl rfl ?_
  have en0 : rN (rowM D 286 0) = n := (mN D 286).trans en.symm
  refine q_aload_n (j := 0) hA rfl dX10_readsFolds_7 ?_
  refine q_getR hA f_X10_16 dX10_readsFolds_8 sx_283 (by decide) fx_283_4 ?_
  refine q_bipush hA (by decide) dX10_readsFolds_11 ?_
  refine q_iload_n (j := 1) hA rfl dX10_readsFolds_13 ?_
  refine q_callSV (As := [vR 286, vI 44, vI n]) (st := []) hA l_X10_112 kX10_ring (zX10_ring (c := 286) (w := 52) ⟨sx_286, by omega⟩ (by omega) (by omega)) dX10_readsFolds_14 rfl rfl (Nat.le_of_ble_eq_true rfl) (by omega) (fun D14 q14 => ?_)
  refine q_nmD (fun E0 eE0 => ?_)
  have h0 : pf D E0 := by rw [eE0, q14]; exact rn_pf (by omega)
  have h0s := h0.ts
  have h0t := h0.tp htp
  have h0p : E0 283 3 = D 283 3 := by rw [eE0, q14]; exact rnM_fr (by omega) _ (by omega) (Or.inl (by omega))
  have h0r : rowM E0 286 0 = ringR (rowM D 286 0) n.toNat := by rw [eE0, q14]; exact ring_row (by omega) en.symm _ (by omega)
  have h0n : E0 286 0 = D 286 0 := by rw [eE0, q14]; exact rnM_fr (by omega) _ (by omega) (Or.inr (Or.inl (by omega)))
  have h0k : lkOk E0 286 44 := by rw [eE0, q14]; exact rnM_ok (by omega) _ (by omega)
  refine q_iload_n (j := 1) hA rfl dX10_readsFolds_17 ?_
  refine q_iconst hA dX10_readsFolds_18 ?_
  refine q_icmp_ne (tgt := 46) hA (by omega) (by omega) dX10_readsFolds_19 (by decide) (fun h19 => ?_) (fun h19 => ?_)
  · refine q_iconst hA dX10_readsFolds_46 ?_
    refine q_istore_n (j := 2) (lo2 := [vR 283, vI n, vI 0, vN, vN]) hA dX10_readsFolds_47 (by decide) rfl rfl ?_
    refine zX10_readsFolds_L48 (D := D) ht htp hN ((by first | assumption | omega | rfl)) ((by first | assumption | omega | rfl)) hA hR 1000 _ _ (by omega) (by exact h0) (by omega) (by exact (mN E0 286).symm.trans (by rw [h0r]; exact (ringR_lo (rowM_len _ _ _) _ (by decide)).trans en0)) (by exact h0k) (by rw [h0r]; exact ring_sym (rowM_len _ _ _) (by omega) _ (by omega)) (by rw [h0r, h0p]; exact pFolds_n en0 h19) (by omega)
  · refine q_aload_n (j := 0) hA rfl dX10_readsFolds_22 ?_
    refine q_bipush hA (by decide) dX10_readsFolds_23 ?_
    refine q_callVI (b := 283) (As := [vI 45]) (st := []) hA l_X10_100 kX10_has (zX10_has (by first | assumption | omega | rfl) (by first | assumption | omega | rfl) (by first | assumption | omega | rfl)) dX10_readsFolds_25 rfl rfl sx_283 (by decide) rfl (Nat.le_of_ble_eq_true rfl) (by omega) (fun v25 D25 q25 => ?_)
    have g25 := hasQ_of (by omega) q25
    have G25 := g25
    unfold hasQ at g25
    rw [h0.at, h0.ts] at g25
    rw [h0p] at g25
    obtain ⟨f25, r25, c25⟩ := g25
    have b25 : v25 = 0 ∨ v25 = 1 := by omega
    refine q_if_eq (tgt := 44) hA (by omega) dX10_readsFolds_28 (by decide) (fun h28 => ?_) (fun h28 => ?_)
    · refine q_iconst hA dX10_readsFolds_44 ?_
      exact hR 45 _ _ _ dX10_readsFolds_45 (by omega) (by first | exact ⟨MB_f ((pFolds_3 en0 (by omega)).trans (if_neg (by omega))) (by omega) (h0.tr f25) (by have := f25.ts; omega), fun z => absurd z (by decide)⟩ | exact ⟨MB_s ((pFolds_3 en0 (by omega)).trans (if_pos (by omega))) h1 (by omega) ((rowM_c r25).trans h0r) (by omega) g34 (by omega), fun _ => ⟨lk_c h0k (g34.2.1.trans r25), by rw [g34.2.1, r25]; exact h0n⟩⟩)
    · have h1 : pf D D25 := h0.tr f25
      have h1s := h1.ts
      have h1t := h1.tp htp
      refine q_aload_n (j := 0) hA rfl dX10_readsFolds_31 ?_
      refine q_bipush hA (by decide) dX10_readsFolds_32 ?_
      refine q_callVI (b := 283) (As := [vI 59]) (st := []) hA l_X10_100 kX10_has (zX10_has (by first | assumption | omega | rfl) (by first | assumption | omega | rfl) (by first | assumption | omega | rfl)) dX10_readsFolds_34 rfl rfl sx_283 (by decide) rfl (Nat.le_of_ble_eq_true rfl) (by omega) (fun v34 D34 q34 => ?_)
      have g34 := hasQ_of (by omega) q34
      have b34 : v34 = 0 ∨ v34 = 1 := (by rcases g34.2.2 with z | z <;> omega)
      refine q_if_eq (tgt := 44) hA (by omega) dX10_readsFolds_37 (by decide) (fun h37 => ?_) (fun h37 => ?_)
      · refine q_iconst hA dX10_readsFolds_44 ?_
        exact hR 45 _ _ _ dX10_readsFolds_45 (by omega) (by first | exact ⟨MB_f ((pFolds_3 en0 (by omega)).trans (if_neg (by omega))) (by omega) (h0.tr f25) (by have := f25.ts; omega), fun z => absurd z (by decide)⟩ | exact ⟨MB_s ((pFolds_3 en0 (by omega)).trans (if_pos (by omega))) h1 (by omega) ((rowM_c r25).trans h0r) (by omega) g34 (by omega), fun _ => ⟨lk_c h0k (g34.2.1.trans r25), by rw [g34.2.1, r25]; exact h0n⟩⟩)
      · refine q_iconst hA dX10_readsFolds_40 ?_
        refine q_goto (tgt := 45) hA dX10_readsFolds_41 (by decide) ?_
        exact hR 45 _ _ _ dX10_readsFolds_45 (by omega) (by first | exact ⟨MB_f ((pFolds_3 en0 (by omega)).trans (if_neg (by omega))) (by omega) (h0.tr f25) (by have := f25.ts; omega), fun z => absurd z (by decide)⟩ | exact ⟨MB_s ((pFolds_3 en0 (by omega)).trans (if_pos (by omega))) h1 (by omega) ((rowM_c r25).trans h0r) (by omega) g34 (by omega), fun _ => ⟨lk_c h0k (g34.2.1.trans r25), by rw [g34.2.1, r25]; exact h0n⟩⟩)
set_option maxHeartbeats 4000000 in
set_option maxRecDepth 100000 in
theorem zX10_reads_L2 {g : Gm} {l : Launch} {D : Dat} (ht : 0 ≤ D 283 2 ∧ D 283 2 ≤ 80) (htp : ∀ i : Int, 0 ≤ i → i < 80 → 0 ≤ D 285 i ∧ D 285 i ≤ 255)   {J : JT} (hA : AX g l RX10 cX10_reads 2 4 J) (hR : ReZ cX10_reads (fun v D1 => MB D D1 v (pWhole (mAt D) (D 283 2) zR)) J) (hx : ∀ (k : Int) (E : Dat), (0 ≤ k ∧ k ≤ 52) → (pf D E) → (∀ i : Int, 0 ≤ i → i < k → E 286 i = 0) → (52 ≤ k) → J 21 [vR 283, vI k] [] E) : ∀ (fuel : Nat) (k : Int) (E : Dat), (0 ≤ k ∧ k ≤ 52) → (pf D E) → (∀ i : Int, 0 ≤ i → i < k → E 286 i = 0) → 52 - k < (fuel : Int) → J 2 [vR 283, vI k] [] E := by
  intro fuel
  induction fuel with
  | zero => intro k E hk hE hz hMs; exact absurd hMs (by omega)
  | succ fuel ih =>
    intro k E hk hE hz hMs
    refine q_iload_n (j := 1) hA rfl dX10_reads_2 ?_
    refine q_bipush hA (by decide) dX10_reads_3 ?_
    refine q_icmp_ge (tgt := 21) hA (by omega) (by omega) dX10_reads_5 (by decide) (fun h5 => ?_) (fun h5 => ?_)
    · exact hx _ _ hk hE hz h5
    · refine q_aload_n (j := 0) hA rfl dX10_reads_8 ?_
      refine q_getR hA f_X10_16 dX10_reads_9 sx_283 (by decide) fx_283_4 ?_
      refine q_iload_n (j := 1) hA rfl dX10_reads_12 ?_
      refine q_iconst hA dX10_reads_13 ?_
      refine q_iast hA dX10_reads_14 sx_286 (by omega) (by decide) ?_
      refine q_iinc (j := 1) (lo2 := [vR 283, vI (k + 1)]) hA dX10_reads_15 rfl (by decide) rfl rfl ?_
      refine q_goto (tgt := 2) hA dX10_reads_18 (by decide) ?_
      exact ih _ _ (by omega) (by exact hE.up) (by exact fun i h0 h1 => by (by_cases hi : i = k; (rw [hi]; exact upD_s); (rw [upD_n (Or.inr hi)]; exact hz i h0 (by omega)))) (by omega)
set_option maxHeartbeats 4000000 in
set_option maxRecDepth 100000 in
theorem zX10_reads {g : Gm} {l : Launch} {D : Dat} (ht : 0 ≤ D 283 2 ∧ D 283 2 ≤ 80) (htp : ∀ i : Int, 0 ≤ i → i < 80 → 0 ≤ D 285 i ∧ D 285 i ≤ 255) : CrI g l 4 mX10_reads [vR 283] D (fun v D1 => MB D D1 v (pWhole (mAt D) (D 283 2) zR)) := by
  refine Cr.ofZ (lo0 := [vR 283, vN]) (by decide) (Nat.le_of_ble_eq_true rfl) rfl (fun J hA hR => ?_)
  refine q_iconst hA dX10_reads_0 ?_
  refine q_istore_n (j := 1) (lo2 := [vR 283, vI 0]) hA dX10_reads_1 (by decide) rfl rfl ?_
  refine zX10_reads_L2 (D := D) ht htp  hA hR (fun k E hk hE hz hx => ?_) 1000 _ _ (by omega) (by exact pf.rf) (fun i h0 h1 => by omega) (by omega)
  refine q_aload_n (j := 0) hA rfl dX10_reads_21 ?_
  refine q_iconst hA dX10_reads_22 ?_
  refine q_putI hA f_X10_85 dX10_reads_23 sx_283 (by decide) ?_
  refine q_nmD (fun P eP => ?_)
  replace eP : P = upD E 283 3 0 := eP
  have hP : pf D P := eP ▸ hE.pl
  have hPp : P 283 3 = 0 := by rw [eP, upD_s]
  have hPr : rowM P 286 0 = zR := by rw [eP, rowM_c (upD_other (by omega))]; exact zrow (fun i i0 i1 => hz i i0 (by omega))
  have hPs := hP.ts
  have hPt := hP.tp htp
  have w0 := whole_eq (t := mAt D) (len := D 283 2)
  refine q_aload_n (j := 0) hA rfl dX10_reads_26 ?_
  refine q_bipush hA (by decide) dX10_reads_27 ?_
  refine q_callVI (b := 283) (As := [vI 120]) (st := []) hA l_X10_100 kX10_has (zX10_has (by first | assumption | omega | rfl) (by first | assumption | omega | rfl) (by first | assumption | omega | rfl)) dX10_reads_29 rfl rfl sx_283 (by decide) rfl (Nat.le_of_ble_eq_true rfl) (by omega) (fun v29 D29 q29 => ?_)
  have g29 := hasQ_of (by omega) q29
  have m29 := has_MB hP hPp hPr (by omega) g29
  have b29 := m29.b
  have s29 := m29.2.2.1.ts
  have t29 := m29.2.2.1.tp htp
  refine q_if_eq (tgt := 49) hA (by omega) dX10_reads_32 (by decide) (fun h32 => ?_) (fun h32 => ?_)
  · refine q_iconst hA dX10_reads_49 ?_
    exact hR 50 _ _ _ dX10_reads_50 (by omega) (by first | exact MB_l w0 m29 (by omega) | exact MB_l w1 m36 (by omega) | exact MB_l w2 m43 (by omega))
  · have w1 := MB_r w0 m29 (by omega)
    refine q_aload_n (j := 0) hA rfl dX10_reads_35 ?_
    refine q_callVI (b := 283) (As := []) (st := []) hA l_X10_120 kX10_readsPictures (zX10_readsPictures (by have := m29.2.2.2; omega) t29 (by rw [rowM_c g29.2.1]; exact hPr)) dX10_reads_36 rfl rfl sx_283 (by decide) rfl (Nat.le_of_ble_eq_true rfl) (by omega) (fun v36 D36 q36 => ?_)
    obtain ⟨q36, n36⟩ := q36
    rw [m29.2.2.1.at] at q36
    have m36 := MB.tr m29.2.2.1 q36
    have b36 := m36.b
    have s36 := m36.2.2.1.ts
    have t36 := m36.2.2.1.tp htp
    refine q_if_eq (tgt := 49) hA (by omega) dX10_reads_39 (by decide) (fun h39 => ?_) (fun h39 => ?_)
    · refine q_iconst hA dX10_reads_49 ?_
      exact hR 50 _ _ _ dX10_reads_50 (by omega) (by first | exact MB_l w0 m29 (by omega) | exact MB_l w1 m36 (by omega) | exact MB_l w2 m43 (by omega))
    · have w2 := MB_r w1 m36 (by omega)
      refine q_aload_n (j := 0) hA rfl dX10_reads_42 ?_
      refine q_callVI (b := 283) (As := []) (st := []) hA l_X10_124 kX10_readsFolds (zX10_readsFolds (by have := m36.2.2.2; omega) t36 (n36 (by omega))) dX10_reads_43 rfl rfl sx_283 (by decide) rfl (Nat.le_of_ble_eq_true rfl) (by omega) (fun v43 D43 q43 => ?_)
      obtain ⟨q43, n43⟩ := q43
      rw [m36.2.2.1.at] at q43
      have m43 := MB.tr m36.2.2.1 q43
      have b43 := m43.b
      have s43 := m43.2.2.1.ts
      have t43 := m43.2.2.1.tp htp
      refine q_if_ne (tgt := 51) hA (by omega) dX10_reads_46 (by decide) (fun h46 => ?_) (fun h46 => ?_)
      · have w3 := MB_r w2 m43 (by omega)
        have h3 := m43.2.2.1
        have i3 := m43.2.2.2
        have l3 := (n43 (by omega)).1
        have k3 : 3 ≤ D43 286 0 ∧ D43 286 0 ≤ 8 := by rw [(n43 (by omega)).2]; exact n36 (by omega)
        have N3 : rN (rowM D43 286 0) = D43 286 0 := mN D43 286
        have f66i := figT_in (mAt D) (D43 283 3)
        refine q_aload_n (j := 0) hA rfl dX10_reads_51 ?_
        refine q_getR hA f_X10_16 dX10_reads_52 sx_283 (by decide) fx_283_4 ?_
        refine q_iconst hA dX10_reads_55 ?_
        refine q_aload_n (j := 0) hA rfl dX10_reads_56 ?_
        refine q_iconst hA dX10_reads_57 ?_
        refine q_aload_n (j := 0) hA rfl dX10_reads_58 ?_
        refine q_getR hA f_X10_16 dX10_reads_59 sx_283 (by decide) fx_283_4 ?_
        refine q_iconst hA dX10_reads_62 ?_
        refine q_iald (x := D43 286 0) hA dX10_reads_63 sx_286 (by omega) (by decide) rfl ?_
        refine q_iconst hA dX10_reads_64 ?_
        refine q_isub hA dX10_reads_65 ?_
        refine q_callVI (b := 283) (As := [vI 0, vI ((D43 286 0) - 1)]) (st := [vI 1, vR 286]) hA l_X10_96 kX10_figure (zX10_figure (by omega) t43 (by omega) (by omega)) dX10_reads_66 rfl rfl sx_283 (by decide) rfl (Nat.le_of_ble_eq_true rfl) (by omega) (fun v66 D66 q66 => ?_)
        have g66 := figQ_of (by omega) (by omega) q66
        unfold figQ at g66
        rw [h3.at, h3.ts] at g66
        obtain ⟨f66, r66, c66⟩ := g66
        refine q_iast hA dX10_reads_69 sx_286 (by omega) (by decide) ?_
        refine q_nmD (fun A eA => ?_)
        have aP : pf D A := eA ▸ (h3.tr f66).up
        have aS := aP.ts
        have aT := aP.tp htp
        have aE : A 283 3 = D66 283 3 := by rw [eA, upD_n (Or.inl (by omega))]
        have aR : rowM A 286 0 = (rowM D43 286 0).set 1 v66 := by rw [eA, rowM_up (by omega), rowM_c r66]; rfl
        refine q_aload_n (j := 0) hA rfl dX10_reads_70 ?_
        refine q_getR hA f_X10_16 dX10_reads_71 sx_283 (by decide) fx_283_4 ?_
        refine q_iconst hA dX10_reads_74 ?_
        refine q_iald (x := v66) hA dX10_reads_75 sx_286 (by omega) (by decide) (by rw [eA]; exact upD_s) ?_
        refine q_if_ge (tgt := 81) hA (by omega) dX10_reads_76 (by decide) (fun h76 => ?_) (fun h76 => ?_)
        · have ea : v66 = figT (mAt D) (D43 283 3) := by omega
          have aE2 : A 283 3 = D43 283 3 + 1 := by omega
          have hmi := mAt_in htp (p := D43 283 3 + 1) (by omega)
          refine q_aload_n (j := 0) hA rfl dX10_reads_81 ?_
          refine q_callVP (b := 283) (As := []) (st := []) hA l_X10_88 kX10_here (zX10_here (by first | assumption | omega | rfl) (by first | assumption | omega | rfl)) dX10_reads_82 rfl rfl sx_283 (by decide) rfl (Nat.le_of_ble_eq_true rfl) (by omega) ?_
          refine q_nmI (fun v82 ev82 => ?_)
          rw [aP.at, aE2] at ev82
          rw [← ev82] at hmi
          refine q_bipush hA (by decide) dX10_reads_85 ?_
          refine q_isub hA dX10_reads_87 ?_
          refine q_nmI (fun b eb => ?_)
          refine q_istore_n (j := 1) (lo2 := [vR 283, vI b]) hA dX10_reads_88 (by decide) rfl rfl ?_
          have hfb := figT_b (t := mAt D) (p := D43 283 3 + 1) (b := b) (n := D43 286 0) (by rw [← ev82]; exact eb) (by omega)
          refine q_iload_n (j := 1) hA rfl dX10_reads_89 ?_
          refine q_i2l hA (by omega) dX10_reads_90 ?_
          refine q_lconst hA dX10_reads_91 ?_
          show J _ _ (vL 0 :: _) _
          refine q_aload_n (j := 0) hA rfl dX10_reads_92 ?_
          refine q_getR hA f_X10_16 dX10_reads_93 sx_283 (by decide) fx_283_4 ?_
          refine q_iconst hA dX10_reads_96 ?_
          refine q_iald (x := D43 286 0) hA dX10_reads_97 sx_286 (by omega) (by decide) (by rw [eA, upD_n (Or.inr (by omega)), r66]) ?_
          refine q_iconst hA dX10_reads_98 ?_
          refine q_isub hA dX10_reads_99 ?_
          refine q_i2l hA (by omega) dX10_reads_100 ?_
          refine q_callSB (As := [vL b, vL 0, vL ((D43 286 0) - 1)]) (st := []) hA l_X10_77 kX10_in (zX10_in (by first | assumption | omega | rfl) (by first | assumption | omega | rfl) (by first | assumption | omega | rfl)) dX10_reads_101 rfl rfl (Nat.le_of_ble_eq_true rfl) (by omega) (fun h101 => ?_) (fun h101 => ?_)
          · refine q_if_eq (tgt := 128) hA (by decide) dX10_reads_104 (by decide) (fun h104 => absurd h104 (by decide)) (fun h104 => ?_)
            have aL : A 286 (44 + v66) = rL (rowM D43 286 0) v66 := by rw [eA, upD_n (Or.inr (by omega)), r66]; exact (mL (by omega)).symm
            have aI := l3 v66 (by omega) (by omega)
            have aJ : D43 286 (44 + v66) = rL (rowM D43 286 0) v66 := (mL (by omega)).symm
            refine q_aload_n (j := 0) hA rfl dX10_reads_107 ?_
            refine q_getR hA f_X10_16 dX10_reads_108 sx_283 (by decide) fx_283_4 ?_
            refine q_bipush hA (by decide) dX10_reads_111 ?_
            refine q_aload_n (j := 0) hA rfl dX10_reads_113 ?_
            refine q_getR hA f_X10_16 dX10_reads_114 sx_283 (by decide) fx_283_4 ?_
            refine q_iconst hA dX10_reads_117 ?_
            refine q_iald (x := v66) hA dX10_reads_118 sx_286 (by omega) (by decide) (by rw [eA]; exact upD_s) ?_
            refine q_iadd hA dX10_reads_119 ?_
            refine q_iald (x := rL (rowM D43 286 0) v66) hA dX10_reads_120 sx_286 (by omega) (by decide) aL ?_
            refine q_iload_n (j := 1) hA rfl dX10_reads_121 ?_
            refine q_ishr hA dX10_reads_122 ?_
            refine q_iconst hA dX10_reads_123 ?_
            refine q_iand hA dX10_reads_124 ?_
            rw [show iAnd (iShr (rL (rowM D43 286 0) v66) b) 1 = if tb (rL (rowM D43 286 0) v66) b then 1 else 0 from bitT (by omega) (by omega)]
            have i10 := if10_in (b := tb (rL (rowM D43 286 0) v66) b)
            refine q_if_ne (tgt := 130) hA (by omega) dX10_reads_125 (by decide) (fun h125 => ?_) (fun h125 => ?_)
            · refine q_aload_n (j := 0) hA rfl dX10_reads_130 ?_
              refine q_dupR hA dX10_reads_131 ?_
              refine q_getI (x := A 283 3) hA f_X10_85 dX10_reads_132 sx_283 (by decide) rfl ?_
              refine q_iconst hA dX10_reads_135 ?_
              refine q_iadd hA dX10_reads_136 ?_
              refine q_putI hA f_X10_85 dX10_reads_137 sx_283 (by decide) ?_
              refine q_nmD (fun B eB => ?_)
              replace eB : B = upD A 283 3 (A 283 3 + 1) := eB
              refine q_aload_n (j := 0) hA rfl dX10_reads_140 ?_
              refine q_getR hA f_X10_16 dX10_reads_141 sx_283 (by decide) fx_283_4 ?_
              refine q_iconst hA dX10_reads_144 ?_
              refine q_iload_n (j := 1) hA rfl dX10_reads_145 ?_
              refine q_iast hA dX10_reads_146 sx_286 (by omega) (by decide) ?_
              refine q_nmD (fun C eC => ?_)
              replace eC : C = upD B 286 2 b := eC
              have cP : pf D C := by rw [eC, eB]; exact aP.pl.up
              have cS := cP.ts
              have cE : C 283 3 = D43 283 3 + 2 := by rw [eC, upD_n (Or.inl (by omega)), eB, upD_s]; omega
              have cR : rowM C 286 0 = ((rowM D43 286 0).set 1 v66).set 2 b := by rw [eC, rowM_up (by omega), eB, rowM_c (upD_other (by omega)), aR]; rfl
              have hsh := sh_3 N3 ea (by omega) (hfb.2 (by omega) (by omega)) (by omega) (by simpa using (mt if10.2 h125))
              refine q_aload_n (j := 0) hA rfl dX10_reads_147 ?_
              refine q_getI (x := C 283 3) hA f_X10_85 dX10_reads_148 sx_283 (by decide) rfl ?_
              refine q_aload_n (j := 0) hA rfl dX10_reads_151 ?_
              refine q_getI (x := C 283 2) hA f_X10_81 dX10_reads_152 sx_283 (by decide) rfl ?_
              refine q_icmp_ne (tgt := 162) hA (by omega) (by omega) dX10_reads_155 (by decide) (fun h155 => ?_) (fun h155 => ?_)
              · refine q_iconst hA dX10_reads_162 ?_
                exact hR 163 _ _ _ dX10_reads_163 (by omega) (by exact MB_e w3 hsh cR cE cP (by omega) (by omega))
              · refine q_iconst hA dX10_reads_158 ?_
                refine q_goto (tgt := 163) hA dX10_reads_159 (by decide) ?_
                exact hR 163 _ _ _ dX10_reads_163 (by omega) (by exact MB_e w3 hsh cR cE cP (by omega) (by omega))
            · refine q_iconst hA dX10_reads_128 ?_
              exact hR 129 _ _ _ dX10_reads_129 (by omega) (by first | exact MB_g w3 (sh_2 N3 ea (by omega) (fun z => h101 (hfb.1.1 z.1))) aE2 aP (by omega) | exact MB_g w3 (sh_2 N3 ea (by omega) (by rw [hfb.2 (by omega) (by omega)]; intro z; rw [if10.1 h125] at z; exact absurd z.2 (by decide))) aE2 aP (by omega))
          · refine q_if_eq (tgt := 128) hA (by decide) dX10_reads_104 (by decide) (fun h104 => ?_) (fun h104 => absurd h104 (by decide))
            refine q_iconst hA dX10_reads_128 ?_
            exact hR 129 _ _ _ dX10_reads_129 (by omega) (by first | exact MB_g w3 (sh_2 N3 ea (by omega) (fun z => h101 (hfb.1.1 z.1))) aE2 aP (by omega) | exact MB_g w3 (sh_2 N3 ea (by omega) (by rw [hfb.2 (by omega) (by omega)]; intro z; rw [if10.1 h125] at z; exact absurd z.2 (by decide))) aE2 aP (by omega))
        · refine q_iconst hA dX10_reads_79 ?_
          exact hR 80 _ _ _ dX10_reads_80 (by omega) (by exact MB_g w3 (sh_1 N3 (by omega)) (by omega) aP (by omega))
      · refine q_iconst hA dX10_reads_49 ?_
        exact hR 50 _ _ _ dX10_reads_50 (by omega) (by first | exact MB_l w0 m29 (by omega) | exact MB_l w1 m36 (by omega) | exact MB_l w2 m43 (by omega))
