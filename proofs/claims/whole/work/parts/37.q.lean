set_option maxHeartbeats 4000000 in
set_option maxRecDepth 100000 in
theorem zX10_refold {g : Gm} {l : Launch} {D : Dat} (ho : mOk D 284) (hg : 0 < D 284 0 → D 284 1 < D 284 0 ∧ D 284 2 < D 284 0) (ha : 0 ≤ D 283 6 ∧ D 283 6 ≤ 24) (hsy : ∀ p q : Int, 0 ≤ p → p < D 284 0 → 0 ≤ q → q < D 284 0 → tb (D 284 (44 + p)) q = tb (D 284 (44 + q)) p) (htr : ∀ p q : Int, hasM D p q → foldM D p q → tdM D p q ≠ -4 ∧ tdM D q p ≠ -4) {p : Int} {q : Int} (rp : -2147483648 ≤ p ∧ p ≤ 2147483647) (rq : -2147483648 ≤ q ∧ q ≤ 2147483647) : CrI g l 4 mX10_refold [vR 283, vI p, vI q] D (fun v D1 => (¬ hasM D p q ∧ v = -1 ∧ D1 = D) ∨ (hasM D p q ∧ ¬ (foldM D p q ∧ ¬ heldM D p q) ∧ v = -2 ∧ D1 = D) ∨ (hasM D p q ∧ (foldM D p q ∧ ¬ heldM D p q) ∧ refQ D D1 v p q)) := by
  refine Cr.ofI (lo0 := [vR 283, vI p, vI q, vN, vN, vN, vN, vN, vN]) (by decide) (Nat.le_of_ble_eq_true rfl) rfl (fun J hA hR => ?_)
  have hn := ho.n
  have hf := ho.f
  have hb := ho.b
  refine q_aload_n (j := 0) hA rfl dX10_refold_0 ?_
  refine q_iload_n (j := 1) hA rfl dX10_refold_1 ?_
  refine q_callVB (b := 283) (As := [vI p]) (st := []) hA l_X10_136 kX10_isPicture (zX10_isPicture (by first | assumption | omega | rfl) (by first | assumption | omega | rfl)) dX10_refold_2 rfl rfl sx_283 (by decide) rfl (Nat.le_of_ble_eq_true rfl) (by omega) (fun h2 => ?_) (fun h2 => ?_)
  · refine q_if_eq (tgt := 21) hA (by decide) dX10_refold_5 (by decide) (fun h5 => absurd h5 (by decide)) (fun h5 => ?_)
    refine q_aload_n (j := 0) hA rfl dX10_refold_8 ?_
    refine q_iload_n (j := 2) hA rfl dX10_refold_9 ?_
    refine q_callVB (b := 283) (As := [vI q]) (st := []) hA l_X10_136 kX10_isPicture (zX10_isPicture (by first | assumption | omega | rfl) (by first | assumption | omega | rfl)) dX10_refold_10 rfl rfl sx_283 (by decide) rfl (Nat.le_of_ble_eq_true rfl) (by omega) (fun h10 => ?_) (fun h10 => ?_)
    · refine q_if_eq (tgt := 21) hA (by decide) dX10_refold_13 (by decide) (fun h13 => absurd h13 (by decide)) (fun h13 => ?_)
      refine q_iload_n (j := 1) hA rfl dX10_refold_16 ?_
      refine q_iload_n (j := 2) hA rfl dX10_refold_17 ?_
      refine q_icmp_ne (tgt := 23) hA (by omega) (by omega) dX10_refold_18 (by decide) (fun h18 => ?_) (fun h18 => ?_)
      · have m1 := Int.emod_nonneg (q - p + D 284 0) (show D 284 0 ≠ 0 by omega)
        have m2 := Int.emod_lt_of_pos (q - p + D 284 0) (show 0 < D 284 0 by omega)
        have hat := ho.at (p := p) (by omega)
        have hH : hasM D p q := ⟨h2, h10, h18⟩
        refine q_aload_n (j := 0) hA rfl dX10_refold_23 ?_
        refine q_getR hA f_X10_7 dX10_refold_24 sx_283 (by decide) fx_283_0 ?_
        refine q_iconst hA dX10_refold_27 ?_
        refine q_iald (x := D 284 0) hA dX10_refold_28 sx_284 (by omega) (by decide) rfl ?_
        refine q_istore_n (j := 3) (lo2 := [vR 283, vI p, vI q, vI (D 284 0), vN, vN, vN, vN, vN]) hA dX10_refold_29 (by decide) rfl rfl ?_
        refine q_iload_n (j := 2) hA rfl dX10_refold_30 ?_
        refine q_iload_n (j := 1) hA rfl dX10_refold_31 ?_
        refine q_isub hA dX10_refold_32 ?_
        refine q_iload_n (j := 3) hA rfl dX10_refold_33 ?_
        refine q_iadd hA dX10_refold_34 ?_
        refine q_iload_n (j := 3) hA rfl dX10_refold_35 ?_
        refine q_irem hA (by omega) (by omega) dX10_refold_36 ?_
        refine q_istore (j := 4) (lo2 := [vR 283, vI p, vI q, vI (D 284 0), vI (((q - p) + (D 284 0)) % (D 284 0)), vN, vN, vN, vN]) hA dX10_refold_37 (by decide) rfl rfl ?_
        refine q_iload (j := 4) hA rfl dX10_refold_39 ?_
        refine q_iconst hA dX10_refold_41 ?_
        refine q_icmp_le (tgt := 74) hA (by omega) (by omega) dX10_refold_42 (by decide) (fun h42 => ?_) (fun h42 => ?_)
        · refine q_iconst hA dX10_refold_74 ?_
          refine q_istore (j := 5) (lo2 := [vR 283, vI p, vI q, vI (D 284 0), vI (((q - p) + (D 284 0)) % (D 284 0)), vI 0, vN, vN, vN]) hA dX10_refold_75 (by decide) rfl rfl ?_
          refine q_aload_n (j := 0) hA rfl dX10_refold_77 ?_
          refine q_getR hA f_X10_7 dX10_refold_78 sx_283 (by decide) fx_283_0 ?_
          refine q_iconst hA dX10_refold_81 ?_
          refine q_iald (x := D 284 1) hA dX10_refold_82 sx_284 (by omega) (by decide) rfl ?_
          refine q_iload_n (j := 1) hA rfl dX10_refold_83 ?_
          refine q_icmp_ne (tgt := 97) hA (by omega) (by omega) dX10_refold_84 (by decide) (fun h84 => ?_) (fun h84 => ?_)
          · refine q_aload_n (j := 0) hA rfl dX10_refold_97 ?_
            refine q_getR hA f_X10_7 dX10_refold_98 sx_283 (by decide) fx_283_0 ?_
            refine q_iconst hA dX10_refold_101 ?_
            refine q_iald (x := D 284 1) hA dX10_refold_102 sx_284 (by omega) (by decide) rfl ?_
            refine q_iload_n (j := 2) hA rfl dX10_refold_103 ?_
            refine q_icmp_ne (tgt := 121) hA (by omega) (by omega) dX10_refold_104 (by decide) (fun h104 => ?_) (fun h104 => ?_)
            · refine q_iconst hA dX10_refold_121 ?_
              refine q_istore (j := 6) (lo2 := [vR 283, vI p, vI q, vI (D 284 0), vI (((q - p) + (D 284 0)) % (D 284 0)), vI 0, vI 0, vN, vN]) hA dX10_refold_122 (by decide) rfl rfl ?_
              refine q_iload (j := 5) hA rfl dX10_refold_124 ?_
              refine q_if_eq (tgt := 134) hA (by decide) dX10_refold_126 (by decide) (fun h126 => ?_) (fun h126 => absurd h126 (by decide))
              refine q_bipush hA (by decide) dX10_refold_134 ?_
              exact hR 136 _ _ _ dX10_refold_136 (by refine Or.inr (Or.inl ⟨hH, fun z => ?_, rfl, rfl⟩); first | exact absurd z.1.1 (by omega) | exact absurd z.1.2.1 (by omega) | exact absurd (if1.2 z.1.2.2) (by omega) | exact z.2 (by unfold heldM; omega))
            · refine q_aload_n (j := 0) hA rfl dX10_refold_107 ?_
              refine q_getR hA f_X10_7 dX10_refold_108 sx_283 (by decide) fx_283_0 ?_
              refine q_iconst hA dX10_refold_111 ?_
              refine q_iald (x := D 284 2) hA dX10_refold_112 sx_284 (by omega) (by decide) rfl ?_
              refine q_iload_n (j := 1) hA rfl dX10_refold_113 ?_
              refine q_icmp_ne (tgt := 121) hA (by omega) (by omega) dX10_refold_114 (by decide) (fun h114 => ?_) (fun h114 => ?_)
              · refine q_iconst hA dX10_refold_121 ?_
                refine q_istore (j := 6) (lo2 := [vR 283, vI p, vI q, vI (D 284 0), vI (((q - p) + (D 284 0)) % (D 284 0)), vI 0, vI 0, vN, vN]) hA dX10_refold_122 (by decide) rfl rfl ?_
                refine q_iload (j := 5) hA rfl dX10_refold_124 ?_
                refine q_if_eq (tgt := 134) hA (by decide) dX10_refold_126 (by decide) (fun h126 => ?_) (fun h126 => absurd h126 (by decide))
                refine q_bipush hA (by decide) dX10_refold_134 ?_
                exact hR 136 _ _ _ dX10_refold_136 (by refine Or.inr (Or.inl ⟨hH, fun z => ?_, rfl, rfl⟩); first | exact absurd z.1.1 (by omega) | exact absurd z.1.2.1 (by omega) | exact absurd (if1.2 z.1.2.2) (by omega) | exact z.2 (by unfold heldM; omega))
              · refine q_iconst hA dX10_refold_117 ?_
                refine q_goto (tgt := 122) hA dX10_refold_118 (by decide) ?_
                refine q_istore (j := 6) (lo2 := [vR 283, vI p, vI q, vI (D 284 0), vI (((q - p) + (D 284 0)) % (D 284 0)), vI 0, vI 1, vN, vN]) hA dX10_refold_122 (by decide) rfl rfl ?_
                refine q_iload (j := 5) hA rfl dX10_refold_124 ?_
                refine q_if_eq (tgt := 134) hA (by decide) dX10_refold_126 (by decide) (fun h126 => ?_) (fun h126 => absurd h126 (by decide))
                refine q_bipush hA (by decide) dX10_refold_134 ?_
                exact hR 136 _ _ _ dX10_refold_136 (by refine Or.inr (Or.inl ⟨hH, fun z => ?_, rfl, rfl⟩); first | exact absurd z.1.1 (by omega) | exact absurd z.1.2.1 (by omega) | exact absurd (if1.2 z.1.2.2) (by omega) | exact z.2 (by unfold heldM; omega))
          · refine q_aload_n (j := 0) hA rfl dX10_refold_87 ?_
            refine q_getR hA f_X10_7 dX10_refold_88 sx_283 (by decide) fx_283_0 ?_
            refine q_iconst hA dX10_refold_91 ?_
            refine q_iald (x := D 284 2) hA dX10_refold_92 sx_284 (by omega) (by decide) rfl ?_
            refine q_iload_n (j := 2) hA rfl dX10_refold_93 ?_
            refine q_icmp_eq (tgt := 117) hA (by omega) (by omega) dX10_refold_94 (by decide) (fun h94 => ?_) (fun h94 => ?_)
            · refine q_iconst hA dX10_refold_117 ?_
              refine q_goto (tgt := 122) hA dX10_refold_118 (by decide) ?_
              refine q_istore (j := 6) (lo2 := [vR 283, vI p, vI q, vI (D 284 0), vI (((q - p) + (D 284 0)) % (D 284 0)), vI 0, vI 1, vN, vN]) hA dX10_refold_122 (by decide) rfl rfl ?_
              refine q_iload (j := 5) hA rfl dX10_refold_124 ?_
              refine q_if_eq (tgt := 134) hA (by decide) dX10_refold_126 (by decide) (fun h126 => ?_) (fun h126 => absurd h126 (by decide))
              refine q_bipush hA (by decide) dX10_refold_134 ?_
              exact hR 136 _ _ _ dX10_refold_136 (by refine Or.inr (Or.inl ⟨hH, fun z => ?_, rfl, rfl⟩); first | exact absurd z.1.1 (by omega) | exact absurd z.1.2.1 (by omega) | exact absurd (if1.2 z.1.2.2) (by omega) | exact z.2 (by unfold heldM; omega))
            · refine q_aload_n (j := 0) hA rfl dX10_refold_97 ?_
              refine q_getR hA f_X10_7 dX10_refold_98 sx_283 (by decide) fx_283_0 ?_
              refine q_iconst hA dX10_refold_101 ?_
              refine q_iald (x := D 284 1) hA dX10_refold_102 sx_284 (by omega) (by decide) rfl ?_
              refine q_iload_n (j := 2) hA rfl dX10_refold_103 ?_
              refine q_icmp_ne (tgt := 121) hA (by omega) (by omega) dX10_refold_104 (by decide) (fun h104 => ?_) (fun h104 => ?_)
              · refine q_iconst hA dX10_refold_121 ?_
                refine q_istore (j := 6) (lo2 := [vR 283, vI p, vI q, vI (D 284 0), vI (((q - p) + (D 284 0)) % (D 284 0)), vI 0, vI 0, vN, vN]) hA dX10_refold_122 (by decide) rfl rfl ?_
                refine q_iload (j := 5) hA rfl dX10_refold_124 ?_
                refine q_if_eq (tgt := 134) hA (by decide) dX10_refold_126 (by decide) (fun h126 => ?_) (fun h126 => absurd h126 (by decide))
                refine q_bipush hA (by decide) dX10_refold_134 ?_
                exact hR 136 _ _ _ dX10_refold_136 (by refine Or.inr (Or.inl ⟨hH, fun z => ?_, rfl, rfl⟩); first | exact absurd z.1.1 (by omega) | exact absurd z.1.2.1 (by omega) | exact absurd (if1.2 z.1.2.2) (by omega) | exact z.2 (by unfold heldM; omega))
              · refine q_aload_n (j := 0) hA rfl dX10_refold_107 ?_
                refine q_getR hA f_X10_7 dX10_refold_108 sx_283 (by decide) fx_283_0 ?_
                refine q_iconst hA dX10_refold_111 ?_
                refine q_iald (x := D 284 2) hA dX10_refold_112 sx_284 (by omega) (by decide) rfl ?_
                refine q_iload_n (j := 1) hA rfl dX10_refold_113 ?_
                refine q_icmp_ne (tgt := 121) hA (by omega) (by omega) dX10_refold_114 (by decide) (fun h114 => ?_) (fun h114 => ?_)
                · refine q_iconst hA dX10_refold_121 ?_
                  refine q_istore (j := 6) (lo2 := [vR 283, vI p, vI q, vI (D 284 0), vI (((q - p) + (D 284 0)) % (D 284 0)), vI 0, vI 0, vN, vN]) hA dX10_refold_122 (by decide) rfl rfl ?_
                  refine q_iload (j := 5) hA rfl dX10_refold_124 ?_
                  refine q_if_eq (tgt := 134) hA (by decide) dX10_refold_126 (by decide) (fun h126 => ?_) (fun h126 => absurd h126 (by decide))
                  refine q_bipush hA (by decide) dX10_refold_134 ?_
                  exact hR 136 _ _ _ dX10_refold_136 (by refine Or.inr (Or.inl ⟨hH, fun z => ?_, rfl, rfl⟩); first | exact absurd z.1.1 (by omega) | exact absurd z.1.2.1 (by omega) | exact absurd (if1.2 z.1.2.2) (by omega) | exact z.2 (by unfold heldM; omega))
                · refine q_iconst hA dX10_refold_117 ?_
                  refine q_goto (tgt := 122) hA dX10_refold_118 (by decide) ?_
                  refine q_istore (j := 6) (lo2 := [vR 283, vI p, vI q, vI (D 284 0), vI (((q - p) + (D 284 0)) % (D 284 0)), vI 0, vI 1, vN, vN]) hA dX10_refold_122 (by decide) rfl rfl ?_
                  refine q_iload (j := 5) hA rfl dX10_refold_124 ?_
                  refine q_if_eq (tgt := 134) hA (by decide) dX10_refold_126 (by decide) (fun h126 => ?_) (fun h126 => absurd h126 (by decide))
                  refine q_bipush hA (by decide) dX10_refold_134 ?_
                  exact hR 136 _ _ _ dX10_refold_136 (by refine Or.inr (Or.inl ⟨hH, fun z => ?_, rfl, rfl⟩); first | exact absurd z.1.1 (by omega) | exact absurd z.1.2.1 (by omega) | exact absurd (if1.2 z.1.2.2) (by omega) | exact z.2 (by unfold heldM; omega))
        · refine q_iload (j := 4) hA rfl dX10_refold_45 ?_
          refine q_iload_n (j := 3) hA rfl dX10_refold_47 ?_
          refine q_iconst hA dX10_refold_48 ?_
          refine q_isub hA dX10_refold_49 ?_
          refine q_icmp_ge (tgt := 74) hA (by omega) (by omega) dX10_refold_50 (by decide) (fun h50 => ?_) (fun h50 => ?_)
          · refine q_iconst hA dX10_refold_74 ?_
            refine q_istore (j := 5) (lo2 := [vR 283, vI p, vI q, vI (D 284 0), vI (((q - p) + (D 284 0)) % (D 284 0)), vI 0, vN, vN, vN]) hA dX10_refold_75 (by decide) rfl rfl ?_
            refine q_aload_n (j := 0) hA rfl dX10_refold_77 ?_
            refine q_getR hA f_X10_7 dX10_refold_78 sx_283 (by decide) fx_283_0 ?_
            refine q_iconst hA dX10_refold_81 ?_
            refine q_iald (x := D 284 1) hA dX10_refold_82 sx_284 (by omega) (by decide) rfl ?_
            refine q_iload_n (j := 1) hA rfl dX10_refold_83 ?_
            refine q_icmp_ne (tgt := 97) hA (by omega) (by omega) dX10_refold_84 (by decide) (fun h84 => ?_) (fun h84 => ?_)
            · refine q_aload_n (j := 0) hA rfl dX10_refold_97 ?_
              refine q_getR hA f_X10_7 dX10_refold_98 sx_283 (by decide) fx_283_0 ?_
              refine q_iconst hA dX10_refold_101 ?_
              refine q_iald (x := D 284 1) hA dX10_refold_102 sx_284 (by omega) (by decide) rfl ?_
              refine q_iload_n (j := 2) hA rfl dX10_refold_103 ?_
              refine q_icmp_ne (tgt := 121) hA (by omega) (by omega) dX10_refold_104 (by decide) (fun h104 => ?_) (fun h104 => ?_)
              · refine q_iconst hA dX10_refold_121 ?_
                refine q_istore (j := 6) (lo2 := [vR 283, vI p, vI q, vI (D 284 0), vI (((q - p) + (D 284 0)) % (D 284 0)), vI 0, vI 0, vN, vN]) hA dX10_refold_122 (by decide) rfl rfl ?_
                refine q_iload (j := 5) hA rfl dX10_refold_124 ?_
                refine q_if_eq (tgt := 134) hA (by decide) dX10_refold_126 (by decide) (fun h126 => ?_) (fun h126 => absurd h126 (by decide))
                refine q_bipush hA (by decide) dX10_refold_134 ?_
                exact hR 136 _ _ _ dX10_refold_136 (by refine Or.inr (Or.inl ⟨hH, fun z => ?_, rfl, rfl⟩); first | exact absurd z.1.1 (by omega) | exact absurd z.1.2.1 (by omega) | exact absurd (if1.2 z.1.2.2) (by omega) | exact z.2 (by unfold heldM; omega))
              · refine q_aload_n (j := 0) hA rfl dX10_refold_107 ?_
                refine q_getR hA f_X10_7 dX10_refold_108 sx_283 (by decide) fx_283_0 ?_
                refine q_iconst hA dX10_refold_111 ?_
                refine q_iald (x := D 284 2) hA dX10_refold_112 sx_284 (by omega) (by decide) rfl ?_
                refine q_iload_n (j := 1) hA rfl dX10_refold_113 ?_
                refine q_icmp_ne (tgt := 121) hA (by omega) (by omega) dX10_refold_114 (by decide) (fun h114 => ?_) (fun h114 => ?_)
                · refine q_iconst hA dX10_refold_121 ?_
                  refine q_istore (j := 6) (lo2 := [vR 283, vI p, vI q, vI (D 284 0), vI (((q - p) + (D 284 0)) % (D 284 0)), vI 0, vI 0, vN, vN]) hA dX10_refold_122 (by decide) rfl rfl ?_
                  refine q_iload (j := 5) hA rfl dX10_refold_124 ?_
                  refine q_if_eq (tgt := 134) hA (by decide) dX10_refold_126 (by decide) (fun h126 => ?_) (fun h126 => absurd h126 (by decide))
                  refine q_bipush hA (by decide) dX10_refold_134 ?_
                  exact hR 136 _ _ _ dX10_refold_136 (by refine Or.inr (Or.inl ⟨hH, fun z => ?_, rfl, rfl⟩); first | exact absurd z.1.1 (by omega) | exact absurd z.1.2.1 (by omega) | exact absurd (if1.2 z.1.2.2) (by omega) | exact z.2 (by unfold heldM; omega))
                · refine q_iconst hA dX10_refold_117 ?_
                  refine q_goto (tgt := 122) hA dX10_refold_118 (by decide) ?_
                  refine q_istore (j := 6) (lo2 := [vR 283, vI p, vI q, vI (D 284 0), vI (((q - p) + (D 284 0)) % (D 284 0)), vI 0, vI 1, vN, vN]) hA dX10_refold_122 (by decide) rfl rfl ?_
                  refine q_iload (j := 5) hA rfl dX10_refold_124 ?_
                  refine q_if_eq (tgt := 134) hA (by decide) dX10_refold_126 (by decide) (fun h126 => ?_) (fun h126 => absurd h126 (by decide))
                  refine q_bipush hA (by decide) dX10_refold_134 ?_
                  exact hR 136 _ _ _ dX10_refold_136 (by refine Or.inr (Or.inl ⟨hH, fun z => ?_, rfl, rfl⟩); first | exact absurd z.1.1 (by omega) | exact absurd z.1.2.1 (by omega) | exact absurd (if1.2 z.1.2.2) (by omega) | exact z.2 (by unfold heldM; omega))
            · refine q_aload_n (j := 0) hA rfl dX10_refold_87 ?_
              refine q_getR hA f_X10_7 dX10_refold_88 sx_283 (by decide) fx_283_0 ?_
              refine q_iconst hA dX10_refold_91 ?_
              refine q_iald (x := D 284 2) hA dX10_refold_92 sx_284 (by omega) (by decide) rfl ?_
              refine q_iload_n (j := 2) hA rfl dX10_refold_93 ?_
              refine q_icmp_eq (tgt := 117) hA (by omega) (by omega) dX10_refold_94 (by decide) (fun h94 => ?_) (fun h94 => ?_)
              · refine q_iconst hA dX10_refold_117 ?_
                refine q_goto (tgt := 122) hA dX10_refold_118 (by decide) ?_
                refine q_istore (j := 6) (lo2 := [vR 283, vI p, vI q, vI (D 284 0), vI (((q - p) + (D 284 0)) % (D 284 0)), vI 0, vI 1, vN, vN]) hA dX10_refold_122 (by decide) rfl rfl ?_
                refine q_iload (j := 5) hA rfl dX10_refold_124 ?_
                refine q_if_eq (tgt := 134) hA (by decide) dX10_refold_126 (by decide) (fun h126 => ?_) (fun h126 => absurd h126 (by decide))
                refine q_bipush hA (by decide) dX10_refold_134 ?_
                exact hR 136 _ _ _ dX10_refold_136 (by refine Or.inr (Or.inl ⟨hH, fun z => ?_, rfl, rfl⟩); first | exact absurd z.1.1 (by omega) | exact absurd z.1.2.1 (by omega) | exact absurd (if1.2 z.1.2.2) (by omega) | exact z.2 (by unfold heldM; omega))
              · refine q_aload_n (j := 0) hA rfl dX10_refold_97 ?_
                refine q_getR hA f_X10_7 dX10_refold_98 sx_283 (by decide) fx_283_0 ?_
                refine q_iconst hA dX10_refold_101 ?_
                refine q_iald (x := D 284 1) hA dX10_refold_102 sx_284 (by omega) (by decide) rfl ?_
                refine q_iload_n (j := 2) hA rfl dX10_refold_103 ?_
                refine q_icmp_ne (tgt := 121) hA (by omega) (by omega) dX10_refold_104 (by decide) (fun h104 => ?_) (fun h104 => ?_)
                · refine q_iconst hA dX10_refold_121 ?_
                  refine q_istore (j := 6) (lo2 := [vR 283, vI p, vI q, vI (D 284 0), vI (((q - p) + (D 284 0)) % (D 284 0)), vI 0, vI 0, vN, vN]) hA dX10_refold_122 (by decide) rfl rfl ?_
                  refine q_iload (j := 5) hA rfl dX10_refold_124 ?_
                  refine q_if_eq (tgt := 134) hA (by decide) dX10_refold_126 (by decide) (fun h126 => ?_) (fun h126 => absurd h126 (by decide))
                  refine q_bipush hA (by decide) dX10_refold_134 ?_
                  exact hR 136 _ _ _ dX10_refold_136 (by refine Or.inr (Or.inl ⟨hH, fun z => ?_, rfl, rfl⟩); first | exact absurd z.1.1 (by omega) | exact absurd z.1.2.1 (by omega) | exact absurd (if1.2 z.1.2.2) (by omega) | exact z.2 (by unfold heldM; omega))
                · refine q_aload_n (j := 0) hA rfl dX10_refold_107 ?_
                  refine q_getR hA f_X10_7 dX10_refold_108 sx_283 (by decide) fx_283_0 ?_
                  refine q_iconst hA dX10_refold_111 ?_
                  refine q_iald (x := D 284 2) hA dX10_refold_112 sx_284 (by omega) (by decide) rfl ?_
                  refine q_iload_n (j := 1) hA rfl dX10_refold_113 ?_
                  refine q_icmp_ne (tgt := 121) hA (by omega) (by omega) dX10_refold_114 (by decide) (fun h114 => ?_) (fun h114 => ?_)
                  · refine q_iconst hA dX10_refold_121 ?_
                    refine q_istore (j := 6) (lo2 := [vR 283, vI p, vI q, vI (D 284 0), vI (((q - p) + (D 284 0)) % (D 284 0)), vI 0, vI 0, vN, vN]) hA dX10_refold_122 (by decide) rfl rfl ?_
                    refine q_iload (j := 5) hA rfl dX10_refold_124 ?_
                    refine q_if_eq (tgt := 134) hA (by decide) dX10_refold_126 (by decide) (fun h126 => ?_) (fun h126 => absurd h126 (by decide))
                    refine q_bipush hA (by decide) dX10_refold_134 ?_
                    exact hR 136 _ _ _ dX10_refold_136 (by refine Or.inr (Or.inl ⟨hH, fun z => ?_, rfl, rfl⟩); first | exact absurd z.1.1 (by omega) | exact absurd z.1.2.1 (by omega) | exact absurd (if1.2 z.1.2.2) (by omega) | exact z.2 (by unfold heldM; omega))
                  · refine q_iconst hA dX10_refold_117 ?_
                    refine q_goto (tgt := 122) hA dX10_refold_118 (by decide) ?_
                    refine q_istore (j := 6) (lo2 := [vR 283, vI p, vI q, vI (D 284 0), vI (((q - p) + (D 284 0)) % (D 284 0)), vI 0, vI 1, vN, vN]) hA dX10_refold_122 (by decide) rfl rfl ?_
                    refine q_iload (j := 5) hA rfl dX10_refold_124 ?_
                    refine q_if_eq (tgt := 134) hA (by decide) dX10_refold_126 (by decide) (fun h126 => ?_) (fun h126 => absurd h126 (by decide))
                    refine q_bipush hA (by decide) dX10_refold_134 ?_
                    exact hR 136 _ _ _ dX10_refold_136 (by refine Or.inr (Or.inl ⟨hH, fun z => ?_, rfl, rfl⟩); first | exact absurd z.1.1 (by omega) | exact absurd z.1.2.1 (by omega) | exact absurd (if1.2 z.1.2.2) (by omega) | exact z.2 (by unfold heldM; omega))
          · refine q_aload_n (j := 0) hA rfl dX10_refold_53 ?_
            refine q_getR hA f_X10_7 dX10_refold_54 sx_283 (by decide) fx_283_0 ?_
            refine q_bipush hA (by decide) dX10_refold_57 ?_
            refine q_iload_n (j := 1) hA rfl dX10_refold_59 ?_
            refine q_iadd hA dX10_refold_60 ?_
            refine q_iald (x := D 284 (44 + p)) hA dX10_refold_61 sx_284 (by omega) (by decide) rfl ?_
            refine q_iload_n (j := 2) hA rfl dX10_refold_62 ?_
            refine q_ishr hA dX10_refold_63 ?_
            refine q_iconst hA dX10_refold_64 ?_
            refine q_iand hA dX10_refold_65 ?_
            rw [show iAnd (iShr (D 284 (44 + p)) q) 1 = if tb (D 284 (44 + p)) q then 1 else 0 from bitT (by omega) (by omega)]
            have l3 := if10_in (b := tb (D 284 (44 + p)) q)
            refine q_iconst hA dX10_refold_66 ?_
            refine q_icmp_ne (tgt := 74) hA (by omega) (by omega) dX10_refold_67 (by decide) (fun h67 => ?_) (fun h67 => ?_)
            · refine q_iconst hA dX10_refold_74 ?_
              refine q_istore (j := 5) (lo2 := [vR 283, vI p, vI q, vI (D 284 0), vI (((q - p) + (D 284 0)) % (D 284 0)), vI 0, vN, vN, vN]) hA dX10_refold_75 (by decide) rfl rfl ?_
              refine q_aload_n (j := 0) hA rfl dX10_refold_77 ?_
              refine q_getR hA f_X10_7 dX10_refold_78 sx_283 (by decide) fx_283_0 ?_
              refine q_iconst hA dX10_refold_81 ?_
              refine q_iald (x := D 284 1) hA dX10_refold_82 sx_284 (by omega) (by decide) rfl ?_
              refine q_iload_n (j := 1) hA rfl dX10_refold_83 ?_
              refine q_icmp_ne (tgt := 97) hA (by omega) (by omega) dX10_refold_84 (by decide) (fun h84 => ?_) (fun h84 => ?_)
              · refine q_aload_n (j := 0) hA rfl dX10_refold_97 ?_
                refine q_getR hA f_X10_7 dX10_refold_98 sx_283 (by decide) fx_283_0 ?_
                refine q_iconst hA dX10_refold_101 ?_
                refine q_iald (x := D 284 1) hA dX10_refold_102 sx_284 (by omega) (by decide) rfl ?_
                refine q_iload_n (j := 2) hA rfl dX10_refold_103 ?_
                refine q_icmp_ne (tgt := 121) hA (by omega) (by omega) dX10_refold_104 (by decide) (fun h104 => ?_) (fun h104 => ?_)
                · refine q_iconst hA dX10_refold_121 ?_
                  refine q_istore (j := 6) (lo2 := [vR 283, vI p, vI q, vI (D 284 0), vI (((q - p) + (D 284 0)) % (D 284 0)), vI 0, vI 0, vN, vN]) hA dX10_refold_122 (by decide) rfl rfl ?_
                  refine q_iload (j := 5) hA rfl dX10_refold_124 ?_
                  refine q_if_eq (tgt := 134) hA (by decide) dX10_refold_126 (by decide) (fun h126 => ?_) (fun h126 => absurd h126 (by decide))
                  refine q_bipush hA (by decide) dX10_refold_134 ?_
                  exact hR 136 _ _ _ dX10_refold_136 (by refine Or.inr (Or.inl ⟨hH, fun z => ?_, rfl, rfl⟩); first | exact absurd z.1.1 (by omega) | exact absurd z.1.2.1 (by omega) | exact absurd (if1.2 z.1.2.2) (by omega) | exact z.2 (by unfold heldM; omega))
                · refine q_aload_n (j := 0) hA rfl dX10_refold_107 ?_
                  refine q_getR hA f_X10_7 dX10_refold_108 sx_283 (by decide) fx_283_0 ?_
                  refine q_iconst hA dX10_refold_111 ?_
                  refine q_iald (x := D 284 2) hA dX10_refold_112 sx_284 (by omega) (by decide) rfl ?_
                  refine q_iload_n (j := 1) hA rfl dX10_refold_113 ?_
                  refine q_icmp_ne (tgt := 121) hA (by omega) (by omega) dX10_refold_114 (by decide) (fun h114 => ?_) (fun h114 => ?_)
                  · refine q_iconst hA dX10_refold_121 ?_
                    refine q_istore (j := 6) (lo2 := [vR 283, vI p, vI q, vI (D 284 0), vI (((q - p) + (D 284 0)) % (D 284 0)), vI 0, vI 0, vN, vN]) hA dX10_refold_122 (by decide) rfl rfl ?_
                    refine q_iload (j := 5) hA rfl dX10_refold_124 ?_
                    refine q_if_eq (tgt := 134) hA (by decide) dX10_refold_126 (by decide) (fun h126 => ?_) (fun h126 => absurd h126 (by decide))
                    refine q_bipush hA (by decide) dX10_refold_134 ?_
                    exact hR 136 _ _ _ dX10_refold_136 (by refine Or.inr (Or.inl ⟨hH, fun z => ?_, rfl, rfl⟩); first | exact absurd z.1.1 (by omega) | exact absurd z.1.2.1 (by omega) | exact absurd (if1.2 z.1.2.2) (by omega) | exact z.2 (by unfold heldM; omega))
                  · refine q_iconst hA dX10_refold_117 ?_
                    refine q_goto (tgt := 122) hA dX10_refold_118 (by decide) ?_
                    refine q_istore (j := 6) (lo2 := [vR 283, vI p, vI q, vI (D 284 0), vI (((q - p) + (D 284 0)) % (D 284 0)), vI 0, vI 1, vN, vN]) hA dX10_refold_122 (by decide) rfl rfl ?_
                    refine q_iload (j := 5) hA rfl dX10_refold_124 ?_
                    refine q_if_eq (tgt := 134) hA (by decide) dX10_refold_126 (by decide) (fun h126 => ?_) (fun h126 => absurd h126 (by decide))
                    refine q_bipush hA (by decide) dX10_refold_134 ?_
                    exact hR 136 _ _ _ dX10_refold_136 (by refine Or.inr (Or.inl ⟨hH, fun z => ?_, rfl, rfl⟩); first | exact absurd z.1.1 (by omega) | exact absurd z.1.2.1 (by omega) | exact absurd (if1.2 z.1.2.2) (by omega) | exact z.2 (by unfold heldM; omega))
              · refine q_aload_n (j := 0) hA rfl dX10_refold_87 ?_
                refine q_getR hA f_X10_7 dX10_refold_88 sx_283 (by decide) fx_283_0 ?_
                refine q_iconst hA dX10_refold_91 ?_
                refine q_iald (x := D 284 2) hA dX10_refold_92 sx_284 (by omega) (by decide) rfl ?_
                refine q_iload_n (j := 2) hA rfl dX10_refold_93 ?_
                refine q_icmp_eq (tgt := 117) hA (by omega) (by omega) dX10_refold_94 (by decide) (fun h94 => ?_) (fun h94 => ?_)
                · refine q_iconst hA dX10_refold_117 ?_
                  refine q_goto (tgt := 122) hA dX10_refold_118 (by decide) ?_
                  refine q_istore (j := 6) (lo2 := [vR 283, vI p, vI q, vI (D 284 0), vI (((q - p) + (D 284 0)) % (D 284 0)), vI 0, vI 1, vN, vN]) hA dX10_refold_122 (by decide) rfl rfl ?_
                  refine q_iload (j := 5) hA rfl dX10_refold_124 ?_
                  refine q_if_eq (tgt := 134) hA (by decide) dX10_refold_126 (by decide) (fun h126 => ?_) (fun h126 => absurd h126 (by decide))
                  refine q_bipush hA (by decide) dX10_refold_134 ?_
                  exact hR 136 _ _ _ dX10_refold_136 (by refine Or.inr (Or.inl ⟨hH, fun z => ?_, rfl, rfl⟩); first | exact absurd z.1.1 (by omega) | exact absurd z.1.2.1 (by omega) | exact absurd (if1.2 z.1.2.2) (by omega) | exact z.2 (by unfold heldM; omega))
                · refine q_aload_n (j := 0) hA rfl dX10_refold_97 ?_
                  refine q_getR hA f_X10_7 dX10_refold_98 sx_283 (by decide) fx_283_0 ?_
                  refine q_iconst hA dX10_refold_101 ?_
                  refine q_iald (x := D 284 1) hA dX10_refold_102 sx_284 (by omega) (by decide) rfl ?_
                  refine q_iload_n (j := 2) hA rfl dX10_refold_103 ?_
                  refine q_icmp_ne (tgt := 121) hA (by omega) (by omega) dX10_refold_104 (by decide) (fun h104 => ?_) (fun h104 => ?_)
                  · refine q_iconst hA dX10_refold_121 ?_
                    refine q_istore (j := 6) (lo2 := [vR 283, vI p, vI q, vI (D 284 0), vI (((q - p) + (D 284 0)) % (D 284 0)), vI 0, vI 0, vN, vN]) hA dX10_refold_122 (by decide) rfl rfl ?_
                    refine q_iload (j := 5) hA rfl dX10_refold_124 ?_
                    refine q_if_eq (tgt := 134) hA (by decide) dX10_refold_126 (by decide) (fun h126 => ?_) (fun h126 => absurd h126 (by decide))
                    refine q_bipush hA (by decide) dX10_refold_134 ?_
                    exact hR 136 _ _ _ dX10_refold_136 (by refine Or.inr (Or.inl ⟨hH, fun z => ?_, rfl, rfl⟩); first | exact absurd z.1.1 (by omega) | exact absurd z.1.2.1 (by omega) | exact absurd (if1.2 z.1.2.2) (by omega) | exact z.2 (by unfold heldM; omega))
                  · refine q_aload_n (j := 0) hA rfl dX10_refold_107 ?_
                    refine q_getR hA f_X10_7 dX10_refold_108 sx_283 (by decide) fx_283_0 ?_
                    refine q_iconst hA dX10_refold_111 ?_
                    refine q_iald (x := D 284 2) hA dX10_refold_112 sx_284 (by omega) (by decide) rfl ?_
                    refine q_iload_n (j := 1) hA rfl dX10_refold_113 ?_
                    refine q_icmp_ne (tgt := 121) hA (by omega) (by omega) dX10_refold_114 (by decide) (fun h114 => ?_) (fun h114 => ?_)
                    · refine q_iconst hA dX10_refold_121 ?_
                      refine q_istore (j := 6) (lo2 := [vR 283, vI p, vI q, vI (D 284 0), vI (((q - p) + (D 284 0)) % (D 284 0)), vI 0, vI 0, vN, vN]) hA dX10_refold_122 (by decide) rfl rfl ?_
                      refine q_iload (j := 5) hA rfl dX10_refold_124 ?_
                      refine q_if_eq (tgt := 134) hA (by decide) dX10_refold_126 (by decide) (fun h126 => ?_) (fun h126 => absurd h126 (by decide))
                      refine q_bipush hA (by decide) dX10_refold_134 ?_
                      exact hR 136 _ _ _ dX10_refold_136 (by refine Or.inr (Or.inl ⟨hH, fun z => ?_, rfl, rfl⟩); first | exact absurd z.1.1 (by omega) | exact absurd z.1.2.1 (by omega) | exact absurd (if1.2 z.1.2.2) (by omega) | exact z.2 (by unfold heldM; omega))
                    · refine q_iconst hA dX10_refold_117 ?_
                      refine q_goto (tgt := 122) hA dX10_refold_118 (by decide) ?_
                      refine q_istore (j := 6) (lo2 := [vR 283, vI p, vI q, vI (D 284 0), vI (((q - p) + (D 284 0)) % (D 284 0)), vI 0, vI 1, vN, vN]) hA dX10_refold_122 (by decide) rfl rfl ?_
                      refine q_iload (j := 5) hA rfl dX10_refold_124 ?_
                      refine q_if_eq (tgt := 134) hA (by decide) dX10_refold_126 (by decide) (fun h126 => ?_) (fun h126 => absurd h126 (by decide))
                      refine q_bipush hA (by decide) dX10_refold_134 ?_
                      exact hR 136 _ _ _ dX10_refold_136 (by refine Or.inr (Or.inl ⟨hH, fun z => ?_, rfl, rfl⟩); first | exact absurd z.1.1 (by omega) | exact absurd z.1.2.1 (by omega) | exact absurd (if1.2 z.1.2.2) (by omega) | exact z.2 (by unfold heldM; omega))
            · refine q_iconst hA dX10_refold_70 ?_
              refine q_goto (tgt := 75) hA dX10_refold_71 (by decide) ?_
              refine q_istore (j := 5) (lo2 := [vR 283, vI p, vI q, vI (D 284 0), vI (((q - p) + (D 284 0)) % (D 284 0)), vI 1, vN, vN, vN]) hA dX10_refold_75 (by decide) rfl rfl ?_
              refine q_aload_n (j := 0) hA rfl dX10_refold_77 ?_
              refine q_getR hA f_X10_7 dX10_refold_78 sx_283 (by decide) fx_283_0 ?_
              refine q_iconst hA dX10_refold_81 ?_
              refine q_iald (x := D 284 1) hA dX10_refold_82 sx_284 (by omega) (by decide) rfl ?_
              refine q_iload_n (j := 1) hA rfl dX10_refold_83 ?_
              refine q_icmp_ne (tgt := 97) hA (by omega) (by omega) dX10_refold_84 (by decide) (fun h84 => ?_) (fun h84 => ?_)
              · refine q_aload_n (j := 0) hA rfl dX10_refold_97 ?_
                refine q_getR hA f_X10_7 dX10_refold_98 sx_283 (by decide) fx_283_0 ?_
                refine q_iconst hA dX10_refold_101 ?_
                refine q_iald (x := D 284 1) hA dX10_refold_102 sx_284 (by omega) (by decide) rfl ?_
                refine q_iload_n (j := 2) hA rfl dX10_refold_103 ?_
                refine q_icmp_ne (tgt := 121) hA (by omega) (by omega) dX10_refold_104 (by decide) (fun h104 => ?_) (fun h104 => ?_)
                · refine q_iconst hA dX10_refold_121 ?_
                  refine q_istore (j := 6) (lo2 := [vR 283, vI p, vI q, vI (D 284 0), vI (((q - p) + (D 284 0)) % (D 284 0)), vI 1, vI 0, vN, vN]) hA dX10_refold_122 (by decide) rfl rfl ?_
                  refine q_iload (j := 5) hA rfl dX10_refold_124 ?_
                  refine q_if_eq (tgt := 134) hA (by decide) dX10_refold_126 (by decide) (fun h126 => absurd h126 (by decide)) (fun h126 => ?_)
                  refine q_iload (j := 6) hA rfl dX10_refold_129 ?_
                  refine q_if_eq (tgt := 137) hA (by decide) dX10_refold_131 (by decide) (fun h131 => ?_) (fun h131 => absurd h131 (by decide))
                  have hnh : ¬ heldM D p q := by unfold heldM; omega
                  refine q_aload_n (j := 0) hA rfl dX10_refold_137 ?_
                  refine q_callVV (b := 283) (As := []) (st := []) hA l_X10_171 kX10_notes (zX10_notes (by first | assumption | omega | rfl)) dX10_refold_138 rfl rfl sx_283 (by decide) rfl (Nat.le_of_ble_eq_true rfl) (by omega) (fun D138 q138 => ?_)
                  have e138 : D138 284 = D 284 := q138.1 284 (by omega) (by omega)
                  have o138 : mOk D138 284 := by unfold mOk; rw [rowM_c e138]; exact ho
                  have hfo : foldM D p q := ⟨by omega, by omega, if1.1 h67⟩
                  have htt := htr p q ⟨h2, h10, h18⟩ hfo
                  have i1 := thMk_in (L := fun z => D 284 (44 + z)) (n := D 284 0) (a := p) (b := q) (D 284 0).toNat
                  have i2 := thMk_in (L := fun z => D 284 (44 + z)) (n := D 284 0) (a := q) (b := p) (D 284 0).toNat
                  have l138 := o138.lk
                  have lq := l138 q (by omega) (by omega)
                  have lp := l138 p (by omega) (by omega)
                  have tq : tb (D138 284 (44 + q)) p = true := by rw [e138, ← hsy p q h2.1 h2.2 h10.1 h10.2]; exact hfo.2.2
                  refine q_aload_n (j := 0) hA rfl dX10_refold_141 ?_
                  refine q_getR hA f_X10_7 dX10_refold_142 sx_283 (by decide) fx_283_0 ?_
                  refine q_bipush hA (by decide) dX10_refold_145 ?_
                  refine q_iload_n (j := 3) hA rfl dX10_refold_147 ?_
                  refine q_iload_n (j := 1) hA rfl dX10_refold_148 ?_
                  refine q_iload_n (j := 2) hA rfl dX10_refold_149 ?_
                  refine q_callSP (As := [vR 284, vI 44, vI (D 284 0), vI p, vI q]) (st := []) hA l_X10_151 kX10_third (zX10_third (c := 284) (w := 52) ⟨sx_284, by omega⟩ (by omega) (by omega) l138 (by omega) (by omega)) dX10_refold_150 rfl rfl (Nat.le_of_ble_eq_true rfl) (by omega) ?_
                  refine q_nmI (fun v150 ev150 => ?_)
                  refine q_istore (j := 7) (lo2 := [vR 283, vI p, vI q, vI (D 284 0), vI (((q - p) + (D 284 0)) % (D 284 0)), vI 1, vI 0, vI v150, vN]) hA dX10_refold_153 (by decide) rfl rfl ?_
                  rw [e138] at ev150
                  have ea : v150 = tdM D p q := ev150
                  refine q_aload_n (j := 0) hA rfl dX10_refold_155 ?_
                  refine q_getR hA f_X10_7 dX10_refold_156 sx_283 (by decide) fx_283_0 ?_
                  refine q_bipush hA (by decide) dX10_refold_159 ?_
                  refine q_iload_n (j := 3) hA rfl dX10_refold_161 ?_
                  refine q_iload_n (j := 2) hA rfl dX10_refold_162 ?_
                  refine q_iload_n (j := 1) hA rfl dX10_refold_163 ?_
                  refine q_callSP (As := [vR 284, vI 44, vI (D 284 0), vI q, vI p]) (st := []) hA l_X10_151 kX10_third (zX10_third (c := 284) (w := 52) ⟨sx_284, by omega⟩ (by omega) (by omega) l138 (by omega) (by omega)) dX10_refold_164 rfl rfl (Nat.le_of_ble_eq_true rfl) (by omega) ?_
                  refine q_nmI (fun v164 ev164 => ?_)
                  refine q_istore (j := 8) (lo2 := [vR 283, vI p, vI q, vI (D 284 0), vI (((q - p) + (D 284 0)) % (D 284 0)), vI 1, vI 0, vI v150, vI v164]) hA dX10_refold_167 (by decide) rfl rfl ?_
                  rw [e138] at ev164
                  have eb : v164 = tdM D q p := ev164
                  refine q_aload_n (j := 0) hA rfl dX10_refold_169 ?_
                  refine q_getR hA f_X10_7 dX10_refold_170 sx_283 (by decide) fx_283_0 ?_
                  refine q_bipush hA (by decide) dX10_refold_173 ?_
                  refine q_iload_n (j := 1) hA rfl dX10_refold_175 ?_
                  refine q_iadd hA dX10_refold_176 ?_
                  refine q_dup2IR hA dX10_refold_177 ?_
                  refine q_iald (x := D138 284 (44 + p)) hA dX10_refold_178 sx_284 (by omega) (by decide) rfl ?_
                  refine q_iconst hA dX10_refold_179 ?_
                  refine q_iload_n (j := 2) hA rfl dX10_refold_180 ?_
                  refine q_ishl hA dX10_refold_181 ?_
                  refine q_ixor hA dX10_refold_182 ?_
                  rw [show iXor (D138 284 (44 + p)) (iShl 1 q) = cb (D138 284 (44 + p)) q from xor8 lp (by omega) (by rw [e138]; exact hfo.2.2)]
                  refine q_iast hA dX10_refold_183 sx_284 (by omega) (by decide) ?_
                  refine q_aload_n (j := 0) hA rfl dX10_refold_184 ?_
                  refine q_getR hA f_X10_7 dX10_refold_185 sx_283 (by decide) fx_283_0 ?_
                  refine q_bipush hA (by decide) dX10_refold_188 ?_
                  refine q_iload_n (j := 2) hA rfl dX10_refold_190 ?_
                  refine q_iadd hA dX10_refold_191 ?_
                  refine q_dup2IR hA dX10_refold_192 ?_
                  refine q_iald (x := (upD D138 284 (44 + p) (cb (D138 284 (44 + p)) q)) 284 (44 + q)) hA dX10_refold_193 sx_284 (by omega) (by decide) rfl ?_
                  refine q_iconst hA dX10_refold_194 ?_
                  refine q_iload_n (j := 1) hA rfl dX10_refold_195 ?_
                  refine q_ishl hA dX10_refold_196 ?_
                  refine q_ixor hA dX10_refold_197 ?_
                  rw [show iXor ((upD D138 284 (44 + p) (cb (D138 284 (44 + p)) q)) 284 (44 + q)) (iShl 1 p) = cb (upD D138 284 (44 + p) (cb (D138 284 (44 + p)) q) 284 (44 + q)) p from by rw [upD_n (Or.inr (by omega))]; exact xor8 lq (by omega) tq]
                  refine q_iast hA dX10_refold_198 sx_284 (by omega) (by decide) ?_
                  have lk2 := ptM_ok (a := p) (b := q) l138 (by omega) (by omega)
                  refine q_aload_n (j := 0) hA rfl dX10_refold_199 ?_
                  refine q_getR hA f_X10_7 dX10_refold_200 sx_283 (by decide) fx_283_0 ?_
                  refine q_bipush hA (by decide) dX10_refold_203 ?_
                  refine q_iload (j := 7) hA rfl dX10_refold_205 ?_
                  refine q_iload (j := 8) hA rfl dX10_refold_207 ?_
                  refine q_callSV (As := [vR 284, vI 44, vI v150, vI v164]) (st := []) hA l_X10_108 kX10_links (zX10_links (c := 284) (w := 52) ⟨sx_284, by omega⟩ (by omega) lk2 (by omega) (by omega)) dX10_refold_209 rfl rfl (Nat.le_of_ble_eq_true rfl) (by omega) (fun D209 q209 => ?_)
                  refine q_iload (j := 7) hA rfl dX10_refold_212 ?_
                  refine q_iload (j := 8) hA rfl dX10_refold_214 ?_
                  refine q_icmp_ge (tgt := 230) hA (by omega) (by omega) dX10_refold_216 (by decide) (fun h216 => ?_) (fun h216 => ?_)
                  · refine q_bipush hA (by decide) dX10_refold_230 ?_
                    refine q_iload (j := 8) hA rfl dX10_refold_232 ?_
                    refine q_imul hA dX10_refold_234 ?_
                    refine q_iload (j := 7) hA rfl dX10_refold_235 ?_
                    refine q_iadd hA dX10_refold_237 ?_
                    exact hR 238 _ _ _ dX10_refold_238 (by exact Or.inr (Or.inr ⟨hH, ⟨hfo, hnh⟩, D138, q138, by rw [← ea, ← eb]; exact q209, by rw [← ea, ← eb]; split <;> omega⟩))
                  · refine q_bipush hA (by decide) dX10_refold_219 ?_
                    refine q_iload (j := 7) hA rfl dX10_refold_221 ?_
                    refine q_imul hA dX10_refold_223 ?_
                    refine q_iload (j := 8) hA rfl dX10_refold_224 ?_
                    refine q_iadd hA dX10_refold_226 ?_
                    refine q_goto (tgt := 238) hA dX10_refold_227 (by decide) ?_
                    exact hR 238 _ _ _ dX10_refold_238 (by exact Or.inr (Or.inr ⟨hH, ⟨hfo, hnh⟩, D138, q138, by rw [← ea, ← eb]; exact q209, by rw [← ea, ← eb]; split <;> omega⟩))
                · refine q_aload_n (j := 0) hA rfl dX10_refold_107 ?_
                  refine q_getR hA f_X10_7 dX10_refold_108 sx_283 (by decide) fx_283_0 ?_
                  refine q_iconst hA dX10_refold_111 ?_
                  refine q_iald (x := D 284 2) hA dX10_refold_112 sx_284 (by omega) (by decide) rfl ?_
                  refine q_iload_n (j := 1) hA rfl dX10_refold_113 ?_
                  refine q_icmp_ne (tgt := 121) hA (by omega) (by omega) dX10_refold_114 (by decide) (fun h114 => ?_) (fun h114 => ?_)
                  · refine q_iconst hA dX10_refold_121 ?_
                    refine q_istore (j := 6) (lo2 := [vR 283, vI p, vI q, vI (D 284 0), vI (((q - p) + (D 284 0)) % (D 284 0)), vI 1, vI 0, vN, vN]) hA dX10_refold_122 (by decide) rfl rfl ?_
                    refine q_iload (j := 5) hA rfl dX10_refold_124 ?_
                    refine q_if_eq (tgt := 134) hA (by decide) dX10_refold_126 (by decide) (fun h126 => absurd h126 (by decide)) (fun h126 => ?_)
                    refine q_iload (j := 6) hA rfl dX10_refold_129 ?_
                    refine q_if_eq (tgt := 137) hA (by decide) dX10_refold_131 (by decide) (fun h131 => ?_) (fun h131 => absurd h131 (by decide))
                    have hnh : ¬ heldM D p q := by unfold heldM; omega
                    refine q_aload_n (j := 0) hA rfl dX10_refold_137 ?_
                    refine q_callVV (b := 283) (As := []) (st := []) hA l_X10_171 kX10_notes (zX10_notes (by first | assumption | omega | rfl)) dX10_refold_138 rfl rfl sx_283 (by decide) rfl (Nat.le_of_ble_eq_true rfl) (by omega) (fun D138 q138 => ?_)
                    have e138 : D138 284 = D 284 := q138.1 284 (by omega) (by omega)
                    have o138 : mOk D138 284 := by unfold mOk; rw [rowM_c e138]; exact ho
                    have hfo : foldM D p q := ⟨by omega, by omega, if1.1 h67⟩
                    have htt := htr p q ⟨h2, h10, h18⟩ hfo
                    have i1 := thMk_in (L := fun z => D 284 (44 + z)) (n := D 284 0) (a := p) (b := q) (D 284 0).toNat
                    have i2 := thMk_in (L := fun z => D 284 (44 + z)) (n := D 284 0) (a := q) (b := p) (D 284 0).toNat
                    have l138 := o138.lk
                    have lq := l138 q (by omega) (by omega)
                    have lp := l138 p (by omega) (by omega)
                    have tq : tb (D138 284 (44 + q)) p = true := by rw [e138, ← hsy p q h2.1 h2.2 h10.1 h10.2]; exact hfo.2.2
                    refine q_aload_n (j := 0) hA rfl dX10_refold_141 ?_
                    refine q_getR hA f_X10_7 dX10_refold_142 sx_283 (by decide) fx_283_0 ?_
                    refine q_bipush hA (by decide) dX10_refold_145 ?_
                    refine q_iload_n (j := 3) hA rfl dX10_refold_147 ?_
                    refine q_iload_n (j := 1) hA rfl dX10_refold_148 ?_
                    refine q_iload_n (j := 2) hA rfl dX10_refold_149 ?_
                    refine q_callSP (As := [vR 284, vI 44, vI (D 284 0), vI p, vI q]) (st := []) hA l_X10_151 kX10_third (zX10_third (c := 284) (w := 52) ⟨sx_284, by omega⟩ (by omega) (by omega) l138 (by omega) (by omega)) dX10_refold_150 rfl rfl (Nat.le_of_ble_eq_true rfl) (by omega) ?_
                    refine q_nmI (fun v150 ev150 => ?_)
                    refine q_istore (j := 7) (lo2 := [vR 283, vI p, vI q, vI (D 284 0), vI (((q - p) + (D 284 0)) % (D 284 0)), vI 1, vI 0, vI v150, vN]) hA dX10_refold_153 (by decide) rfl rfl ?_
                    rw [e138] at ev150
                    have ea : v150 = tdM D p q := ev150
                    refine q_aload_n (j := 0) hA rfl dX10_refold_155 ?_
                    refine q_getR hA f_X10_7 dX10_refold_156 sx_283 (by decide) fx_283_0 ?_
                    refine q_bipush hA (by decide) dX10_refold_159 ?_
                    refine q_iload_n (j := 3) hA rfl dX10_refold_161 ?_
                    refine q_iload_n (j := 2) hA rfl dX10_refold_162 ?_
                    refine q_iload_n (j := 1) hA rfl dX10_refold_163 ?_
                    refine q_callSP (As := [vR 284, vI 44, vI (D 284 0), vI q, vI p]) (st := []) hA l_X10_151 kX10_third (zX10_third (c := 284) (w := 52) ⟨sx_284, by omega⟩ (by omega) (by omega) l138 (by omega) (by omega)) dX10_refold_164 rfl rfl (Nat.le_of_ble_eq_true rfl) (by omega) ?_
                    refine q_nmI (fun v164 ev164 => ?_)
                    refine q_istore (j := 8) (lo2 := [vR 283, vI p, vI q, vI (D 284 0), vI (((q - p) + (D 284 0)) % (D 284 0)), vI 1, vI 0, vI v150, vI v164]) hA dX10_refold_167 (by decide) rfl rfl ?_
                    rw [e138] at ev164
                    have eb : v164 = tdM D q p := ev164
                    refine q_aload_n (j := 0) hA rfl dX10_refold_169 ?_
                    refine q_getR hA f_X10_7 dX10_refold_170 sx_283 (by decide) fx_283_0 ?_
                    refine q_bipush hA (by decide) dX10_refold_173 ?_
                    refine q_iload_n (j := 1) hA rfl dX10_refold_175 ?_
                    refine q_iadd hA dX10_refold_176 ?_
                    refine q_dup2IR hA dX10_refold_177 ?_
                    refine q_iald (x := D138 284 (44 + p)) hA dX10_refold_178 sx_284 (by omega) (by decide) rfl ?_
                    refine q_iconst hA dX10_refold_179 ?_
                    refine q_iload_n (j := 2) hA rfl dX10_refold_180 ?_
                    refine q_ishl hA dX10_refold_181 ?_
                    refine q_ixor hA dX10_refold_182 ?_
                    rw [show iXor (D138 284 (44 + p)) (iShl 1 q) = cb (D138 284 (44 + p)) q from xor8 lp (by omega) (by rw [e138]; exact hfo.2.2)]
                    refine q_iast hA dX10_refold_183 sx_284 (by omega) (by decide) ?_
                    refine q_aload_n (j := 0) hA rfl dX10_refold_184 ?_
                    refine q_getR hA f_X10_7 dX10_refold_185 sx_283 (by decide) fx_283_0 ?_
                    refine q_bipush hA (by decide) dX10_refold_188 ?_
                    refine q_iload_n (j := 2) hA rfl dX10_refold_190 ?_
                    refine q_iadd hA dX10_refold_191 ?_
                    refine q_dup2IR hA dX10_refold_192 ?_
                    refine q_iald (x := (upD D138 284 (44 + p) (cb (D138 284 (44 + p)) q)) 284 (44 + q)) hA dX10_refold_193 sx_284 (by omega) (by decide) rfl ?_
                    refine q_iconst hA dX10_refold_194 ?_
                    refine q_iload_n (j := 1) hA rfl dX10_refold_195 ?_
                    refine q_ishl hA dX10_refold_196 ?_
                    refine q_ixor hA dX10_refold_197 ?_
                    rw [show iXor ((upD D138 284 (44 + p) (cb (D138 284 (44 + p)) q)) 284 (44 + q)) (iShl 1 p) = cb (upD D138 284 (44 + p) (cb (D138 284 (44 + p)) q) 284 (44 + q)) p from by rw [upD_n (Or.inr (by omega))]; exact xor8 lq (by omega) tq]
                    refine q_iast hA dX10_refold_198 sx_284 (by omega) (by decide) ?_
                    have lk2 := ptM_ok (a := p) (b := q) l138 (by omega) (by omega)
                    refine q_aload_n (j := 0) hA rfl dX10_refold_199 ?_
                    refine q_getR hA f_X10_7 dX10_refold_200 sx_283 (by decide) fx_283_0 ?_
                    refine q_bipush hA (by decide) dX10_refold_203 ?_
                    refine q_iload (j := 7) hA rfl dX10_refold_205 ?_
                    refine q_iload (j := 8) hA rfl dX10_refold_207 ?_
                    refine q_callSV (As := [vR 284, vI 44, vI v150, vI v164]) (st := []) hA l_X10_108 kX10_links (zX10_links (c := 284) (w := 52) ⟨sx_284, by omega⟩ (by omega) lk2 (by omega) (by omega)) dX10_refold_209 rfl rfl (Nat.le_of_ble_eq_true rfl) (by omega) (fun D209 q209 => ?_)
                    refine q_iload (j := 7) hA rfl dX10_refold_212 ?_
                    refine q_iload (j := 8) hA rfl dX10_refold_214 ?_
                    refine q_icmp_ge (tgt := 230) hA (by omega) (by omega) dX10_refold_216 (by decide) (fun h216 => ?_) (fun h216 => ?_)
                    · refine q_bipush hA (by decide) dX10_refold_230 ?_
                      refine q_iload (j := 8) hA rfl dX10_refold_232 ?_
                      refine q_imul hA dX10_refold_234 ?_
                      refine q_iload (j := 7) hA rfl dX10_refold_235 ?_
                      refine q_iadd hA dX10_refold_237 ?_
                      exact hR 238 _ _ _ dX10_refold_238 (by exact Or.inr (Or.inr ⟨hH, ⟨hfo, hnh⟩, D138, q138, by rw [← ea, ← eb]; exact q209, by rw [← ea, ← eb]; split <;> omega⟩))
                    · refine q_bipush hA (by decide) dX10_refold_219 ?_
                      refine q_iload (j := 7) hA rfl dX10_refold_221 ?_
                      refine q_imul hA dX10_refold_223 ?_
                      refine q_iload (j := 8) hA rfl dX10_refold_224 ?_
                      refine q_iadd hA dX10_refold_226 ?_
                      refine q_goto (tgt := 238) hA dX10_refold_227 (by decide) ?_
                      exact hR 238 _ _ _ dX10_refold_238 (by exact Or.inr (Or.inr ⟨hH, ⟨hfo, hnh⟩, D138, q138, by rw [← ea, ← eb]; exact q209, by rw [← ea, ← eb]; split <;> omega⟩))
                  · refine q_iconst hA dX10_refold_117 ?_
                    refine q_goto (tgt := 122) hA dX10_refold_118 (by decide) ?_
                    refine q_istore (j := 6) (lo2 := [vR 283, vI p, vI q, vI (D 284 0), vI (((q - p) + (D 284 0)) % (D 284 0)), vI 1, vI 1, vN, vN]) hA dX10_refold_122 (by decide) rfl rfl ?_
                    refine q_iload (j := 5) hA rfl dX10_refold_124 ?_
                    refine q_if_eq (tgt := 134) hA (by decide) dX10_refold_126 (by decide) (fun h126 => absurd h126 (by decide)) (fun h126 => ?_)
                    refine q_iload (j := 6) hA rfl dX10_refold_129 ?_
                    refine q_if_eq (tgt := 137) hA (by decide) dX10_refold_131 (by decide) (fun h131 => absurd h131 (by decide)) (fun h131 => ?_)
                    refine q_bipush hA (by decide) dX10_refold_134 ?_
                    exact hR 136 _ _ _ dX10_refold_136 (by refine Or.inr (Or.inl ⟨hH, fun z => ?_, rfl, rfl⟩); first | exact absurd z.1.1 (by omega) | exact absurd z.1.2.1 (by omega) | exact absurd (if1.2 z.1.2.2) (by omega) | exact z.2 (by unfold heldM; omega))
              · refine q_aload_n (j := 0) hA rfl dX10_refold_87 ?_
                refine q_getR hA f_X10_7 dX10_refold_88 sx_283 (by decide) fx_283_0 ?_
                refine q_iconst hA dX10_refold_91 ?_
                refine q_iald (x := D 284 2) hA dX10_refold_92 sx_284 (by omega) (by decide) rfl ?_
                refine q_iload_n (j := 2) hA rfl dX10_refold_93 ?_
                refine q_icmp_eq (tgt := 117) hA (by omega) (by omega) dX10_refold_94 (by decide) (fun h94 => ?_) (fun h94 => ?_)
                · refine q_iconst hA dX10_refold_117 ?_
                  refine q_goto (tgt := 122) hA dX10_refold_118 (by decide) ?_
                  refine q_istore (j := 6) (lo2 := [vR 283, vI p, vI q, vI (D 284 0), vI (((q - p) + (D 284 0)) % (D 284 0)), vI 1, vI 1, vN, vN]) hA dX10_refold_122 (by decide) rfl rfl ?_
                  refine q_iload (j := 5) hA rfl dX10_refold_124 ?_
                  refine q_if_eq (tgt := 134) hA (by decide) dX10_refold_126 (by decide) (fun h126 => absurd h126 (by decide)) (fun h126 => ?_)
                  refine q_iload (j := 6) hA rfl dX10_refold_129 ?_
                  refine q_if_eq (tgt := 137) hA (by decide) dX10_refold_131 (by decide) (fun h131 => absurd h131 (by decide)) (fun h131 => ?_)
                  refine q_bipush hA (by decide) dX10_refold_134 ?_
                  exact hR 136 _ _ _ dX10_refold_136 (by refine Or.inr (Or.inl ⟨hH, fun z => ?_, rfl, rfl⟩); first | exact absurd z.1.1 (by omega) | exact absurd z.1.2.1 (by omega) | exact absurd (if1.2 z.1.2.2) (by omega) | exact z.2 (by unfold heldM; omega))
                · refine q_aload_n (j := 0) hA rfl dX10_refold_97 ?_
                  refine q_getR hA f_X10_7 dX10_refold_98 sx_283 (by decide) fx_283_0 ?_
                  refine q_iconst hA dX10_refold_101 ?_
                  refine q_iald (x := D 284 1) hA dX10_refold_102 sx_284 (by omega) (by decide) rfl ?_
                  refine q_iload_n (j := 2) hA rfl dX10_refold_103 ?_
                  refine q_icmp_ne (tgt := 121) hA (by omega) (by omega) dX10_refold_104 (by decide) (fun h104 => ?_) (fun h104 => ?_)
                  · refine q_iconst hA dX10_refold_121 ?_
                    refine q_istore (j := 6) (lo2 := [vR 283, vI p, vI q, vI (D 284 0), vI (((q - p) + (D 284 0)) % (D 284 0)), vI 1, vI 0, vN, vN]) hA dX10_refold_122 (by decide) rfl rfl ?_
                    refine q_iload (j := 5) hA rfl dX10_refold_124 ?_
                    refine q_if_eq (tgt := 134) hA (by decide) dX10_refold_126 (by decide) (fun h126 => absurd h126 (by decide)) (fun h126 => ?_)
                    refine q_iload (j := 6) hA rfl dX10_refold_129 ?_
                    refine q_if_eq (tgt := 137) hA (by decide) dX10_refold_131 (by decide) (fun h131 => ?_) (fun h131 => absurd h131 (by decide))
                    have hnh : ¬ heldM D p q := by unfold heldM; omega
                    refine q_aload_n (j := 0) hA rfl dX10_refold_137 ?_
                    refine q_callVV (b := 283) (As := []) (st := []) hA l_X10_171 kX10_notes (zX10_notes (by first | assumption | omega | rfl)) dX10_refold_138 rfl rfl sx_283 (by decide) rfl (Nat.le_of_ble_eq_true rfl) (by omega) (fun D138 q138 => ?_)
                    have e138 : D138 284 = D 284 := q138.1 284 (by omega) (by omega)
                    have o138 : mOk D138 284 := by unfold mOk; rw [rowM_c e138]; exact ho
                    have hfo : foldM D p q := ⟨by omega, by omega, if1.1 h67⟩
                    have htt := htr p q ⟨h2, h10, h18⟩ hfo
                    have i1 := thMk_in (L := fun z => D 284 (44 + z)) (n := D 284 0) (a := p) (b := q) (D 284 0).toNat
                    have i2 := thMk_in (L := fun z => D 284 (44 + z)) (n := D 284 0) (a := q) (b := p) (D 284 0).toNat
                    have l138 := o138.lk
                    have lq := l138 q (by omega) (by omega)
                    have lp := l138 p (by omega) (by omega)
                    have tq : tb (D138 284 (44 + q)) p = true := by rw [e138, ← hsy p q h2.1 h2.2 h10.1 h10.2]; exact hfo.2.2
                    refine q_aload_n (j := 0) hA rfl dX10_refold_141 ?_
                    refine q_getR hA f_X10_7 dX10_refold_142 sx_283 (by decide) fx_283_0 ?_
                    refine q_bipush hA (by decide) dX10_refold_145 ?_
                    refine q_iload_n (j := 3) hA rfl dX10_refold_147 ?_
                    refine q_iload_n (j := 1) hA rfl dX10_refold_148 ?_
                    refine q_iload_n (j := 2) hA rfl dX10_refold_149 ?_
                    refine q_callSP (As := [vR 284, vI 44, vI (D 284 0), vI p, vI q]) (st := []) hA l_X10_151 kX10_third (zX10_third (c := 284) (w := 52) ⟨sx_284, by omega⟩ (by omega) (by omega) l138 (by omega) (by omega)) dX10_refold_150 rfl rfl (Nat.le_of_ble_eq_true rfl) (by omega) ?_
                    refine q_nmI (fun v150 ev150 => ?_)
                    refine q_istore (j := 7) (lo2 := [vR 283, vI p, vI q, vI (D 284 0), vI (((q - p) + (D 284 0)) % (D 284 0)), vI 1, vI 0, vI v150, vN]) hA dX10_refold_153 (by decide) rfl rfl ?_
                    rw [e138] at ev150
                    have ea : v150 = tdM D p q := ev150
                    refine q_aload_n (j := 0) hA rfl dX10_refold_155 ?_
                    refine q_getR hA f_X10_7 dX10_refold_156 sx_283 (by decide) fx_283_0 ?_
                    refine q_bipush hA (by decide) dX10_refold_159 ?_
                    refine q_iload_n (j := 3) hA rfl dX10_refold_161 ?_
                    refine q_iload_n (j := 2) hA rfl dX10_refold_162 ?_
                    refine q_iload_n (j := 1) hA rfl dX10_refold_163 ?_
                    refine q_callSP (As := [vR 284, vI 44, vI (D 284 0), vI q, vI p]) (st := []) hA l_X10_151 kX10_third (zX10_third (c := 284) (w := 52) ⟨sx_284, by omega⟩ (by omega) (by omega) l138 (by omega) (by omega)) dX10_refold_164 rfl rfl (Nat.le_of_ble_eq_true rfl) (by omega) ?_
                    refine q_nmI (fun v164 ev164 => ?_)
                    refine q_istore (j := 8) (lo2 := [vR 283, vI p, vI q, vI (D 284 0), vI (((q - p) + (D 284 0)) % (D 284 0)), vI 1, vI 0, vI v150, vI v164]) hA dX10_refold_167 (by decide) rfl rfl ?_
                    rw [e138] at ev164
                    have eb : v164 = tdM D q p := ev164
                    refine q_aload_n (j := 0) hA rfl dX10_refold_169 ?_
                    refine q_getR hA f_X10_7 dX10_refold_170 sx_283 (by decide) fx_283_0 ?_
                    refine q_bipush hA (by decide) dX10_refold_173 ?_
                    refine q_iload_n (j := 1) hA rfl dX10_refold_175 ?_
                    refine q_iadd hA dX10_refold_176 ?_
                    refine q_dup2IR hA dX10_refold_177 ?_
                    refine q_iald (x := D138 284 (44 + p)) hA dX10_refold_178 sx_284 (by omega) (by decide) rfl ?_
                    refine q_iconst hA dX10_refold_179 ?_
                    refine q_iload_n (j := 2) hA rfl dX10_refold_180 ?_
                    refine q_ishl hA dX10_refold_181 ?_
                    refine q_ixor hA dX10_refold_182 ?_
                    rw [show iXor (D138 284 (44 + p)) (iShl 1 q) = cb (D138 284 (44 + p)) q from xor8 lp (by omega) (by rw [e138]; exact hfo.2.2)]
                    refine q_iast hA dX10_refold_183 sx_284 (by omega) (by decide) ?_
                    refine q_aload_n (j := 0) hA rfl dX10_refold_184 ?_
                    refine q_getR hA f_X10_7 dX10_refold_185 sx_283 (by decide) fx_283_0 ?_
                    refine q_bipush hA (by decide) dX10_refold_188 ?_
                    refine q_iload_n (j := 2) hA rfl dX10_refold_190 ?_
                    refine q_iadd hA dX10_refold_191 ?_
                    refine q_dup2IR hA dX10_refold_192 ?_
                    refine q_iald (x := (upD D138 284 (44 + p) (cb (D138 284 (44 + p)) q)) 284 (44 + q)) hA dX10_refold_193 sx_284 (by omega) (by decide) rfl ?_
                    refine q_iconst hA dX10_refold_194 ?_
                    refine q_iload_n (j := 1) hA rfl dX10_refold_195 ?_
                    refine q_ishl hA dX10_refold_196 ?_
                    refine q_ixor hA dX10_refold_197 ?_
                    rw [show iXor ((upD D138 284 (44 + p) (cb (D138 284 (44 + p)) q)) 284 (44 + q)) (iShl 1 p) = cb (upD D138 284 (44 + p) (cb (D138 284 (44 + p)) q) 284 (44 + q)) p from by rw [upD_n (Or.inr (by omega))]; exact xor8 lq (by omega) tq]
                    refine q_iast hA dX10_refold_198 sx_284 (by omega) (by decide) ?_
                    have lk2 := ptM_ok (a := p) (b := q) l138 (by omega) (by omega)
                    refine q_aload_n (j := 0) hA rfl dX10_refold_199 ?_
                    refine q_getR hA f_X10_7 dX10_refold_200 sx_283 (by decide) fx_283_0 ?_
                    refine q_bipush hA (by decide) dX10_refold_203 ?_
                    refine q_iload (j := 7) hA rfl dX10_refold_205 ?_
                    refine q_iload (j := 8) hA rfl dX10_refold_207 ?_
                    refine q_callSV (As := [vR 284, vI 44, vI v150, vI v164]) (st := []) hA l_X10_108 kX10_links (zX10_links (c := 284) (w := 52) ⟨sx_284, by omega⟩ (by omega) lk2 (by omega) (by omega)) dX10_refold_209 rfl rfl (Nat.le_of_ble_eq_true rfl) (by omega) (fun D209 q209 => ?_)
                    refine q_iload (j := 7) hA rfl dX10_refold_212 ?_
                    refine q_iload (j := 8) hA rfl dX10_refold_214 ?_
                    refine q_icmp_ge (tgt := 230) hA (by omega) (by omega) dX10_refold_216 (by decide) (fun h216 => ?_) (fun h216 => ?_)
                    · refine q_bipush hA (by decide) dX10_refold_230 ?_
                      refine q_iload (j := 8) hA rfl dX10_refold_232 ?_
                      refine q_imul hA dX10_refold_234 ?_
                      refine q_iload (j := 7) hA rfl dX10_refold_235 ?_
                      refine q_iadd hA dX10_refold_237 ?_
                      exact hR 238 _ _ _ dX10_refold_238 (by exact Or.inr (Or.inr ⟨hH, ⟨hfo, hnh⟩, D138, q138, by rw [← ea, ← eb]; exact q209, by rw [← ea, ← eb]; split <;> omega⟩))
                    · refine q_bipush hA (by decide) dX10_refold_219 ?_
                      refine q_iload (j := 7) hA rfl dX10_refold_221 ?_
                      refine q_imul hA dX10_refold_223 ?_
                      refine q_iload (j := 8) hA rfl dX10_refold_224 ?_
                      refine q_iadd hA dX10_refold_226 ?_
                      refine q_goto (tgt := 238) hA dX10_refold_227 (by decide) ?_
                      exact hR 238 _ _ _ dX10_refold_238 (by exact Or.inr (Or.inr ⟨hH, ⟨hfo, hnh⟩, D138, q138, by rw [← ea, ← eb]; exact q209, by rw [← ea, ← eb]; split <;> omega⟩))
                  · refine q_aload_n (j := 0) hA rfl dX10_refold_107 ?_
                    refine q_getR hA f_X10_7 dX10_refold_108 sx_283 (by decide) fx_283_0 ?_
                    refine q_iconst hA dX10_refold_111 ?_
                    refine q_iald (x := D 284 2) hA dX10_refold_112 sx_284 (by omega) (by decide) rfl ?_
                    refine q_iload_n (j := 1) hA rfl dX10_refold_113 ?_
                    refine q_icmp_ne (tgt := 121) hA (by omega) (by omega) dX10_refold_114 (by decide) (fun h114 => ?_) (fun h114 => ?_)
                    · refine q_iconst hA dX10_refold_121 ?_
                      refine q_istore (j := 6) (lo2 := [vR 283, vI p, vI q, vI (D 284 0), vI (((q - p) + (D 284 0)) % (D 284 0)), vI 1, vI 0, vN, vN]) hA dX10_refold_122 (by decide) rfl rfl ?_
                      refine q_iload (j := 5) hA rfl dX10_refold_124 ?_
                      refine q_if_eq (tgt := 134) hA (by decide) dX10_refold_126 (by decide) (fun h126 => absurd h126 (by decide)) (fun h126 => ?_)
                      refine q_iload (j := 6) hA rfl dX10_refold_129 ?_
                      refine q_if_eq (tgt := 137) hA (by decide) dX10_refold_131 (by decide) (fun h131 => ?_) (fun h131 => absurd h131 (by decide))
                      have hnh : ¬ heldM D p q := by unfold heldM; omega
                      refine q_aload_n (j := 0) hA rfl dX10_refold_137 ?_
                      refine q_callVV (b := 283) (As := []) (st := []) hA l_X10_171 kX10_notes (zX10_notes (by first | assumption | omega | rfl)) dX10_refold_138 rfl rfl sx_283 (by decide) rfl (Nat.le_of_ble_eq_true rfl) (by omega) (fun D138 q138 => ?_)
                      have e138 : D138 284 = D 284 := q138.1 284 (by omega) (by omega)
                      have o138 : mOk D138 284 := by unfold mOk; rw [rowM_c e138]; exact ho
                      have hfo : foldM D p q := ⟨by omega, by omega, if1.1 h67⟩
                      have htt := htr p q ⟨h2, h10, h18⟩ hfo
                      have i1 := thMk_in (L := fun z => D 284 (44 + z)) (n := D 284 0) (a := p) (b := q) (D 284 0).toNat
                      have i2 := thMk_in (L := fun z => D 284 (44 + z)) (n := D 284 0) (a := q) (b := p) (D 284 0).toNat
                      have l138 := o138.lk
                      have lq := l138 q (by omega) (by omega)
                      have lp := l138 p (by omega) (by omega)
                      have tq : tb (D138 284 (44 + q)) p = true := by rw [e138, ← hsy p q h2.1 h2.2 h10.1 h10.2]; exact hfo.2.2
                      refine q_aload_n (j := 0) hA rfl dX10_refold_141 ?_
                      refine q_getR hA f_X10_7 dX10_refold_142 sx_283 (by decide) fx_283_0 ?_
                      refine q_bipush hA (by decide) dX10_refold_145 ?_
                      refine q_iload_n (j := 3) hA rfl dX10_refold_147 ?_
                      refine q_iload_n (j := 1) hA rfl dX10_refold_148 ?_
                      refine q_iload_n (j := 2) hA rfl dX10_refold_149 ?_
                      refine q_callSP (As := [vR 284, vI 44, vI (D 284 0), vI p, vI q]) (st := []) hA l_X10_151 kX10_third (zX10_third (c := 284) (w := 52) ⟨sx_284, by omega⟩ (by omega) (by omega) l138 (by omega) (by omega)) dX10_refold_150 rfl rfl (Nat.le_of_ble_eq_true rfl) (by omega) ?_
                      refine q_nmI (fun v150 ev150 => ?_)
                      refine q_istore (j := 7) (lo2 := [vR 283, vI p, vI q, vI (D 284 0), vI (((q - p) + (D 284 0)) % (D 284 0)), vI 1, vI 0, vI v150, vN]) hA dX10_refold_153 (by decide) rfl rfl ?_
                      rw [e138] at ev150
                      have ea : v150 = tdM D p q := ev150
                      refine q_aload_n (j := 0) hA rfl dX10_refold_155 ?_
                      refine q_getR hA f_X10_7 dX10_refold_156 sx_283 (by decide) fx_283_0 ?_
                      refine q_bipush hA (by decide) dX10_refold_159 ?_
                      refine q_iload_n (j := 3) hA rfl dX10_refold_161 ?_
                      refine q_iload_n (j := 2) hA rfl dX10_refold_162 ?_
                      refine q_iload_n (j := 1) hA rfl dX10_refold_163 ?_
                      refine q_callSP (As := [vR 284, vI 44, vI (D 284 0), vI q, vI p]) (st := []) hA l_X10_151 kX10_third (zX10_third (c := 284) (w := 52) ⟨sx_284, by omega⟩ (by omega) (by omega) l138 (by omega) (by omega)) dX10_refold_164 rfl rfl (Nat.le_of_ble_eq_true rfl) (by omega) ?_
                      refine q_nmI (fun v164 ev164 => ?_)
                      refine q_istore (j := 8) (lo2 := [vR 283, vI p, vI q, vI (D 284 0), vI (((q - p) + (D 284 0)) % (D 284 0)), vI 1, vI 0, vI v150, vI v164]) hA dX10_refold_167 (by decide) rfl rfl ?_
                      rw [e138] at ev164
                      have eb : v164 = tdM D q p := ev164
                      refine q_aload_n (j := 0) hA rfl dX10_refold_169 ?_
                      refine q_getR hA f_X10_7 dX10_refold_170 sx_283 (by decide) fx_283_0 ?_
                      refine q_bipush hA (by decide) dX10_refold_173 ?_
                      refine q_iload_n (j := 1) hA rfl dX10_refold_175 ?_
                      refine q_iadd hA dX10_refold_176 ?_
                      refine q_dup2IR hA dX10_refold_177 ?_
                      refine q_iald (x := D138 284 (44 + p)) hA dX10_refold_178 sx_284 (by omega) (by decide) rfl ?_
                      refine q_iconst hA dX10_refold_179 ?_
                      refine q_iload_n (j := 2) hA rfl dX10_refold_180 ?_
                      refine q_ishl hA dX10_refold_181 ?_
                      refine q_ixor hA dX10_refold_182 ?_
                      rw [show iXor (D138 284 (44 + p)) (iShl 1 q) = cb (D138 284 (44 + p)) q from xor8 lp (by omega) (by rw [e138]; exact hfo.2.2)]
                      refine q_iast hA dX10_refold_183 sx_284 (by omega) (by decide) ?_
                      refine q_aload_n (j := 0) hA rfl dX10_refold_184 ?_
                      refine q_getR hA f_X10_7 dX10_refold_185 sx_283 (by decide) fx_283_0 ?_
                      refine q_bipush hA (by decide) dX10_refold_188 ?_
                      refine q_iload_n (j := 2) hA rfl dX10_refold_190 ?_
                      refine q_iadd hA dX10_refold_191 ?_
                      refine q_dup2IR hA dX10_refold_192 ?_
                      refine q_iald (x := (upD D138 284 (44 + p) (cb (D138 284 (44 + p)) q)) 284 (44 + q)) hA dX10_refold_193 sx_284 (by omega) (by decide) rfl ?_
                      refine q_iconst hA dX10_refold_194 ?_
                      refine q_iload_n (j := 1) hA rfl dX10_refold_195 ?_
                      refine q_ishl hA dX10_refold_196 ?_
                      refine q_ixor hA dX10_refold_197 ?_
                      rw [show iXor ((upD D138 284 (44 + p) (cb (D138 284 (44 + p)) q)) 284 (44 + q)) (iShl 1 p) = cb (upD D138 284 (44 + p) (cb (D138 284 (44 + p)) q) 284 (44 + q)) p from by rw [upD_n (Or.inr (by omega))]; exact xor8 lq (by omega) tq]
                      refine q_iast hA dX10_refold_198 sx_284 (by omega) (by decide) ?_
                      have lk2 := ptM_ok (a := p) (b := q) l138 (by omega) (by omega)
                      refine q_aload_n (j := 0) hA rfl dX10_refold_199 ?_
                      refine q_getR hA f_X10_7 dX10_refold_200 sx_283 (by decide) fx_283_0 ?_
                      refine q_bipush hA (by decide) dX10_refold_203 ?_
                      refine q_iload (j := 7) hA rfl dX10_refold_205 ?_
                      refine q_iload (j := 8) hA rfl dX10_refold_207 ?_
                      refine q_callSV (As := [vR 284, vI 44, vI v150, vI v164]) (st := []) hA l_X10_108 kX10_links (zX10_links (c := 284) (w := 52) ⟨sx_284, by omega⟩ (by omega) lk2 (by omega) (by omega)) dX10_refold_209 rfl rfl (Nat.le_of_ble_eq_true rfl) (by omega) (fun D209 q209 => ?_)
                      refine q_iload (j := 7) hA rfl dX10_refold_212 ?_
                      refine q_iload (j := 8) hA rfl dX10_refold_214 ?_
                      refine q_icmp_ge (tgt := 230) hA (by omega) (by omega) dX10_refold_216 (by decide) (fun h216 => ?_) (fun h216 => ?_)
                      · refine q_bipush hA (by decide) dX10_refold_230 ?_
                        refine q_iload (j := 8) hA rfl dX10_refold_232 ?_
                        refine q_imul hA dX10_refold_234 ?_
                        refine q_iload (j := 7) hA rfl dX10_refold_235 ?_
                        refine q_iadd hA dX10_refold_237 ?_
                        exact hR 238 _ _ _ dX10_refold_238 (by exact Or.inr (Or.inr ⟨hH, ⟨hfo, hnh⟩, D138, q138, by rw [← ea, ← eb]; exact q209, by rw [← ea, ← eb]; split <;> omega⟩))
                      · refine q_bipush hA (by decide) dX10_refold_219 ?_
                        refine q_iload (j := 7) hA rfl dX10_refold_221 ?_
                        refine q_imul hA dX10_refold_223 ?_
                        refine q_iload (j := 8) hA rfl dX10_refold_224 ?_
                        refine q_iadd hA dX10_refold_226 ?_
                        refine q_goto (tgt := 238) hA dX10_refold_227 (by decide) ?_
                        exact hR 238 _ _ _ dX10_refold_238 (by exact Or.inr (Or.inr ⟨hH, ⟨hfo, hnh⟩, D138, q138, by rw [← ea, ← eb]; exact q209, by rw [← ea, ← eb]; split <;> omega⟩))
                    · refine q_iconst hA dX10_refold_117 ?_
                      refine q_goto (tgt := 122) hA dX10_refold_118 (by decide) ?_
                      refine q_istore (j := 6) (lo2 := [vR 283, vI p, vI q, vI (D 284 0), vI (((q - p) + (D 284 0)) % (D 284 0)), vI 1, vI 1, vN, vN]) hA dX10_refold_122 (by decide) rfl rfl ?_
                      refine q_iload (j := 5) hA rfl dX10_refold_124 ?_
                      refine q_if_eq (tgt := 134) hA (by decide) dX10_refold_126 (by decide) (fun h126 => absurd h126 (by decide)) (fun h126 => ?_)
                      refine q_iload (j := 6) hA rfl dX10_refold_129 ?_
                      refine q_if_eq (tgt := 137) hA (by decide) dX10_refold_131 (by decide) (fun h131 => absurd h131 (by decide)) (fun h131 => ?_)
                      refine q_bipush hA (by decide) dX10_refold_134 ?_
                      exact hR 136 _ _ _ dX10_refold_136 (by refine Or.inr (Or.inl ⟨hH, fun z => ?_, rfl, rfl⟩); first | exact absurd z.1.1 (by omega) | exact absurd z.1.2.1 (by omega) | exact absurd (if1.2 z.1.2.2) (by omega) | exact z.2 (by unfold heldM; omega))
      · refine q_iconst hA dX10_refold_21 ?_
        exact hR 22 _ _ _ dX10_refold_22 (by first | exact Or.inl ⟨fun z => h2 z.1, rfl, rfl⟩ | exact Or.inl ⟨fun z => h10 z.2.1, rfl, rfl⟩ | exact Or.inl ⟨fun z => z.2.2 h18, rfl, rfl⟩)
    · refine q_if_eq (tgt := 21) hA (by decide) dX10_refold_13 (by decide) (fun h13 => ?_) (fun h13 => absurd h13 (by decide))
      refine q_iconst hA dX10_refold_21 ?_
      exact hR 22 _ _ _ dX10_refold_22 (by first | exact Or.inl ⟨fun z => h2 z.1, rfl, rfl⟩ | exact Or.inl ⟨fun z => h10 z.2.1, rfl, rfl⟩ | exact Or.inl ⟨fun z => z.2.2 h18, rfl, rfl⟩)
  · refine q_if_eq (tgt := 21) hA (by decide) dX10_refold_5 (by decide) (fun h5 => ?_) (fun h5 => absurd h5 (by decide))
    refine q_iconst hA dX10_refold_21 ?_
    exact hR 22 _ _ _ dX10_refold_22 (by first | exact Or.inl ⟨fun z => h2 z.1, rfl, rfl⟩ | exact Or.inl ⟨fun z => h10 z.2.1, rfl, rfl⟩ | exact Or.inl ⟨fun z => z.2.2 h18, rfl, rfl⟩)
