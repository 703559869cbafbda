set_option maxHeartbeats 4000000 in
set_option maxRecDepth 100000 in
theorem zX0_crossedBy_L4 {g : Gm} {l : Launch} {D : Dat} {n : Nat} (hn8 : 3 ≤ n ∧ n ≤ 8) {i : Int} (h7 : D 247 7 = ((prsN n).length : Int)) (hp : prM D 255 256 (prsN n)) (hi : 0 ≤ i ∧ i < ((prsN n).length : Int))   {J : JT} (hA : AX g l RX0 cX0_crossedBy 7 1 J) (hR : ReI cX0_crossedBy (fun v D1 => v = (((crN n i.toNat : Nat) : Int)) ∧ D1 = D) J) : ∀ (fuel : Nat) (acc : Int) (k : Int), (0 ≤ k ∧ k ≤ ((prsN n).length : Int)) → (acc = ((crP n i.toNat k.toNat : Nat) : Int)) → ((prsN n).length : Int) - k < (fuel : Int) → J 4 [vR 247, vI i, vI acc, vI k, vN, vN, vN] [] D := by
  intro fuel
  induction fuel with
  | zero => intro acc k hk ha hMs; exact absurd hMs (by omega)
  | succ fuel ih =>
    intro acc k hk ha hMs
    have hple := prs_le (n := n) (by omega)
    have hcl := crP_lt n i.toNat k.toNat (by omega)
    have hai : 0 ≤ acc ∧ acc < 1048576 := by omega
    refine q_iload_n (j := 3) hA rfl dX0_crossedBy_4 ?_
    refine q_aload_n (j := 0) hA rfl dX0_crossedBy_5 ?_
    refine q_getI (x := ((prsN n).length : Int)) hA f_X0_85 dX0_crossedBy_6 sx_247 (by decide) h7 ?_
    refine q_icmp_ge (tgt := 177) hA (by omega) (by omega) dX0_crossedBy_9 (by decide) (fun h9 => ?_) (fun h9 => ?_)
    · refine q_iload_n (j := 2) hA rfl dX0_crossedBy_177 ?_
      exact hR 178 _ _ _ dX0_crossedBy_178 ⟨(by rw [ha, show k = ((prsN n).length : Int) by omega]; rfl), rfl⟩
    · have pk := hp k.toNat (by omega)
      rw [show ((k.toNat : Nat) : Int) = k by omega] at pk
      have qk := ab_lt (n := n) (i := k.toNat) (by omega) (by omega)
      have ak : D 255 k = (((abN n k.toNat).1 : Nat) : Int) := pk.1
      have bk : D 256 k = (((abN n k.toNat).2 : Nat) : Int) := pk.2
      have pi := hp i.toNat (by omega)
      rw [show ((i.toNat : Nat) : Int) = i by omega] at pi
      have qi := ab_lt (n := n) (i := i.toNat) (by omega) (by omega)
      have ai : D 255 i = (((abN n i.toNat).1 : Nat) : Int) := pi.1
      have bi : D 256 i = (((abN n i.toNat).2 : Nat) : Int) := pi.2
      refine q_aload_n (j := 0) hA rfl dX0_crossedBy_12 ?_
      refine q_getR hA f_X0_18 dX0_crossedBy_13 sx_247 (by decide) fx_247_1 ?_
      refine q_iload_n (j := 3) hA rfl dX0_crossedBy_16 ?_
      refine q_iald (x := D 255 k) hA dX0_crossedBy_17 sx_255 (by omega) (by decide) rfl ?_
      refine q_aload_n (j := 0) hA rfl dX0_crossedBy_18 ?_
      refine q_getR hA f_X0_18 dX0_crossedBy_19 sx_247 (by decide) fx_247_1 ?_
      refine q_iload_n (j := 1) hA rfl dX0_crossedBy_22 ?_
      refine q_iald (x := D 255 i) hA dX0_crossedBy_23 sx_255 (by omega) (by decide) rfl ?_
      refine q_icmp_le (tgt := 46) hA (by omega) (by omega) dX0_crossedBy_24 (by decide) (fun h24 => ?_) (fun h24 => ?_)
      · refine q_iconst hA dX0_crossedBy_46 ?_
        refine q_istore (j := 4) (lo2 := [vR 247, vI i, vI acc, vI k, vI 0, vN, vN]) hA dX0_crossedBy_47 (by decide) rfl rfl ?_
        refine q_aload_n (j := 0) hA rfl dX0_crossedBy_49 ?_
        refine q_getR hA f_X0_22 dX0_crossedBy_50 sx_247 (by decide) fx_247_2 ?_
        refine q_iload_n (j := 3) hA rfl dX0_crossedBy_53 ?_
        refine q_iald (x := D 256 k) hA dX0_crossedBy_54 sx_256 (by omega) (by decide) rfl ?_
        refine q_aload_n (j := 0) hA rfl dX0_crossedBy_55 ?_
        refine q_getR hA f_X0_18 dX0_crossedBy_56 sx_247 (by decide) fx_247_1 ?_
        refine q_iload_n (j := 1) hA rfl dX0_crossedBy_59 ?_
        refine q_iald (x := D 255 i) hA dX0_crossedBy_60 sx_255 (by omega) (by decide) rfl ?_
        refine q_icmp_le (tgt := 83) hA (by omega) (by omega) dX0_crossedBy_61 (by decide) (fun h61 => ?_) (fun h61 => ?_)
        · refine q_iconst hA dX0_crossedBy_83 ?_
          refine q_istore (j := 5) (lo2 := [vR 247, vI i, vI acc, vI k, vI 0, vI 0, vN]) hA dX0_crossedBy_84 (by decide) rfl rfl ?_
          refine q_aload_n (j := 0) hA rfl dX0_crossedBy_86 ?_
          refine q_getR hA f_X0_18 dX0_crossedBy_87 sx_247 (by decide) fx_247_1 ?_
          refine q_iload_n (j := 3) hA rfl dX0_crossedBy_90 ?_
          refine q_iald (x := D 255 k) hA dX0_crossedBy_91 sx_255 (by omega) (by decide) rfl ?_
          refine q_aload_n (j := 0) hA rfl dX0_crossedBy_92 ?_
          refine q_getR hA f_X0_18 dX0_crossedBy_93 sx_247 (by decide) fx_247_1 ?_
          refine q_iload_n (j := 1) hA rfl dX0_crossedBy_96 ?_
          refine q_iald (x := D 255 i) hA dX0_crossedBy_97 sx_255 (by omega) (by decide) rfl ?_
          refine q_icmp_eq (tgt := 146) hA (by omega) (by omega) dX0_crossedBy_98 (by decide) (fun h98 => ?_) (fun h98 => ?_)
          · refine q_iconst hA dX0_crossedBy_146 ?_
            refine q_goto (tgt := 151) hA dX0_crossedBy_147 (by decide) ?_
            refine q_istore (j := 6) (lo2 := [vR 247, vI i, vI acc, vI k, vI 0, vI 0, vI 1]) hA dX0_crossedBy_151 (by decide) rfl rfl ?_
            refine q_iload (j := 6) hA rfl dX0_crossedBy_153 ?_
            refine q_if_ne (tgt := 171) hA (by decide) dX0_crossedBy_155 (by decide) (fun h155 => ?_) (fun h155 => absurd h155 (by decide))
            refine q_iinc (j := 3) (lo2 := [vR 247, vI i, vI acc, vI (k + 1), vI 0, vI 0, vI 1]) hA dX0_crossedBy_171 rfl (by decide) rfl rfl ?_
            refine q_goto (tgt := 4) hA dX0_crossedBy_174 (by decide) ?_
            refine q_fgt (lo2 := [vR 247, vI i, vI acc, vI (k + 1), vN, vN, vN]) hA ⟨Or.inr rfl, Or.inr rfl, Or.inr rfl, Or.inr rfl, Or.inl rfl, Or.inl rfl, Or.inl rfl, trivial⟩ ?_
            exact ih _ _ (by omega) (by first | exact crP_1 hk.1 ha (by unfold crsP; omega) | exact crP_0 hk.1 ha (by unfold crsP; omega)) (by omega)
          · refine q_aload_n (j := 0) hA rfl dX0_crossedBy_101 ?_
            refine q_getR hA f_X0_18 dX0_crossedBy_102 sx_247 (by decide) fx_247_1 ?_
            refine q_iload_n (j := 3) hA rfl dX0_crossedBy_105 ?_
            refine q_iald (x := D 255 k) hA dX0_crossedBy_106 sx_255 (by omega) (by decide) rfl ?_
            refine q_aload_n (j := 0) hA rfl dX0_crossedBy_107 ?_
            refine q_getR hA f_X0_22 dX0_crossedBy_108 sx_247 (by decide) fx_247_2 ?_
            refine q_iload_n (j := 1) hA rfl dX0_crossedBy_111 ?_
            refine q_iald (x := D 256 i) hA dX0_crossedBy_112 sx_256 (by omega) (by decide) rfl ?_
            refine q_icmp_eq (tgt := 146) hA (by omega) (by omega) dX0_crossedBy_113 (by decide) (fun h113 => ?_) (fun h113 => ?_)
            · refine q_iconst hA dX0_crossedBy_146 ?_
              refine q_goto (tgt := 151) hA dX0_crossedBy_147 (by decide) ?_
              refine q_istore (j := 6) (lo2 := [vR 247, vI i, vI acc, vI k, vI 0, vI 0, vI 1]) hA dX0_crossedBy_151 (by decide) rfl rfl ?_
              refine q_iload (j := 6) hA rfl dX0_crossedBy_153 ?_
              refine q_if_ne (tgt := 171) hA (by decide) dX0_crossedBy_155 (by decide) (fun h155 => ?_) (fun h155 => absurd h155 (by decide))
              refine q_iinc (j := 3) (lo2 := [vR 247, vI i, vI acc, vI (k + 1), vI 0, vI 0, vI 1]) hA dX0_crossedBy_171 rfl (by decide) rfl rfl ?_
              refine q_goto (tgt := 4) hA dX0_crossedBy_174 (by decide) ?_
              refine q_fgt (lo2 := [vR 247, vI i, vI acc, vI (k + 1), vN, vN, vN]) hA ⟨Or.inr rfl, Or.inr rfl, Or.inr rfl, Or.inr rfl, Or.inl rfl, Or.inl rfl, Or.inl rfl, trivial⟩ ?_
              exact ih _ _ (by omega) (by first | exact crP_1 hk.1 ha (by unfold crsP; omega) | exact crP_0 hk.1 ha (by unfold crsP; omega)) (by omega)
            · refine q_aload_n (j := 0) hA rfl dX0_crossedBy_116 ?_
              refine q_getR hA f_X0_22 dX0_crossedBy_117 sx_247 (by decide) fx_247_2 ?_
              refine q_iload_n (j := 3) hA rfl dX0_crossedBy_120 ?_
              refine q_iald (x := D 256 k) hA dX0_crossedBy_121 sx_256 (by omega) (by decide) rfl ?_
              refine q_aload_n (j := 0) hA rfl dX0_crossedBy_122 ?_
              refine q_getR hA f_X0_18 dX0_crossedBy_123 sx_247 (by decide) fx_247_1 ?_
              refine q_iload_n (j := 1) hA rfl dX0_crossedBy_126 ?_
              refine q_iald (x := D 255 i) hA dX0_crossedBy_127 sx_255 (by omega) (by decide) rfl ?_
              refine q_icmp_eq (tgt := 146) hA (by omega) (by omega) dX0_crossedBy_128 (by decide) (fun h128 => ?_) (fun h128 => ?_)
              · refine q_iconst hA dX0_crossedBy_146 ?_
                refine q_goto (tgt := 151) hA dX0_crossedBy_147 (by decide) ?_
                refine q_istore (j := 6) (lo2 := [vR 247, vI i, vI acc, vI k, vI 0, vI 0, vI 1]) hA dX0_crossedBy_151 (by decide) rfl rfl ?_
                refine q_iload (j := 6) hA rfl dX0_crossedBy_153 ?_
                refine q_if_ne (tgt := 171) hA (by decide) dX0_crossedBy_155 (by decide) (fun h155 => ?_) (fun h155 => absurd h155 (by decide))
                refine q_iinc (j := 3) (lo2 := [vR 247, vI i, vI acc, vI (k + 1), vI 0, vI 0, vI 1]) hA dX0_crossedBy_171 rfl (by decide) rfl rfl ?_
                refine q_goto (tgt := 4) hA dX0_crossedBy_174 (by decide) ?_
                refine q_fgt (lo2 := [vR 247, vI i, vI acc, vI (k + 1), vN, vN, vN]) hA ⟨Or.inr rfl, Or.inr rfl, Or.inr rfl, Or.inr rfl, Or.inl rfl, Or.inl rfl, Or.inl rfl, trivial⟩ ?_
                exact ih _ _ (by omega) (by first | exact crP_1 hk.1 ha (by unfold crsP; omega) | exact crP_0 hk.1 ha (by unfold crsP; omega)) (by omega)
              · refine q_aload_n (j := 0) hA rfl dX0_crossedBy_131 ?_
                refine q_getR hA f_X0_22 dX0_crossedBy_132 sx_247 (by decide) fx_247_2 ?_
                refine q_iload_n (j := 3) hA rfl dX0_crossedBy_135 ?_
                refine q_iald (x := D 256 k) hA dX0_crossedBy_136 sx_256 (by omega) (by decide) rfl ?_
                refine q_aload_n (j := 0) hA rfl dX0_crossedBy_137 ?_
                refine q_getR hA f_X0_22 dX0_crossedBy_138 sx_247 (by decide) fx_247_2 ?_
                refine q_iload_n (j := 1) hA rfl dX0_crossedBy_141 ?_
                refine q_iald (x := D 256 i) hA dX0_crossedBy_142 sx_256 (by omega) (by decide) rfl ?_
                refine q_icmp_ne (tgt := 150) hA (by omega) (by omega) dX0_crossedBy_143 (by decide) (fun h143 => ?_) (fun h143 => ?_)
                · refine q_iconst hA dX0_crossedBy_150 ?_
                  refine q_istore (j := 6) (lo2 := [vR 247, vI i, vI acc, vI k, vI 0, vI 0, vI 0]) hA dX0_crossedBy_151 (by decide) rfl rfl ?_
                  refine q_iload (j := 6) hA rfl dX0_crossedBy_153 ?_
                  refine q_if_ne (tgt := 171) hA (by decide) dX0_crossedBy_155 (by decide) (fun h155 => absurd h155 (by decide)) (fun h155 => ?_)
                  refine q_iload (j := 4) hA rfl dX0_crossedBy_158 ?_
                  refine q_iload (j := 5) hA rfl dX0_crossedBy_160 ?_
                  refine q_icmp_eq (tgt := 171) hA (by decide) (by decide) dX0_crossedBy_162 (by decide) (fun h162 => ?_) (fun h162 => absurd h162 (by decide))
                  refine q_iinc (j := 3) (lo2 := [vR 247, vI i, vI acc, vI (k + 1), vI 0, vI 0, vI 0]) hA dX0_crossedBy_171 rfl (by decide) rfl rfl ?_
                  refine q_goto (tgt := 4) hA dX0_crossedBy_174 (by decide) ?_
                  refine q_fgt (lo2 := [vR 247, vI i, vI acc, vI (k + 1), vN, vN, vN]) hA ⟨Or.inr rfl, Or.inr rfl, Or.inr rfl, Or.inr rfl, Or.inl rfl, Or.inl rfl, Or.inl rfl, trivial⟩ ?_
                  exact ih _ _ (by omega) (by first | exact crP_1 hk.1 ha (by unfold crsP; omega) | exact crP_0 hk.1 ha (by unfold crsP; omega)) (by omega)
                · refine q_iconst hA dX0_crossedBy_146 ?_
                  refine q_goto (tgt := 151) hA dX0_crossedBy_147 (by decide) ?_
                  refine q_istore (j := 6) (lo2 := [vR 247, vI i, vI acc, vI k, vI 0, vI 0, vI 1]) hA dX0_crossedBy_151 (by decide) rfl rfl ?_
                  refine q_iload (j := 6) hA rfl dX0_crossedBy_153 ?_
                  refine q_if_ne (tgt := 171) hA (by decide) dX0_crossedBy_155 (by decide) (fun h155 => ?_) (fun h155 => absurd h155 (by decide))
                  refine q_iinc (j := 3) (lo2 := [vR 247, vI i, vI acc, vI (k + 1), vI 0, vI 0, vI 1]) hA dX0_crossedBy_171 rfl (by decide) rfl rfl ?_
                  refine q_goto (tgt := 4) hA dX0_crossedBy_174 (by decide) ?_
                  refine q_fgt (lo2 := [vR 247, vI i, vI acc, vI (k + 1), vN, vN, vN]) hA ⟨Or.inr rfl, Or.inr rfl, Or.inr rfl, Or.inr rfl, Or.inl rfl, Or.inl rfl, Or.inl rfl, trivial⟩ ?_
                  exact ih _ _ (by omega) (by first | exact crP_1 hk.1 ha (by unfold crsP; omega) | exact crP_0 hk.1 ha (by unfold crsP; omega)) (by omega)
        · refine q_aload_n (j := 0) hA rfl dX0_crossedBy_64 ?_
          refine q_getR hA f_X0_22 dX0_crossedBy_65 sx_247 (by decide) fx_247_2 ?_
          refine q_iload_n (j := 3) hA rfl dX0_crossedBy_68 ?_
          refine q_iald (x := D 256 k) hA dX0_crossedBy_69 sx_256 (by omega) (by decide) rfl ?_
          refine q_aload_n (j := 0) hA rfl dX0_crossedBy_70 ?_
          refine q_getR hA f_X0_22 dX0_crossedBy_71 sx_247 (by decide) fx_247_2 ?_
          refine q_iload_n (j := 1) hA rfl dX0_crossedBy_74 ?_
          refine q_iald (x := D 256 i) hA dX0_crossedBy_75 sx_256 (by omega) (by decide) rfl ?_
          refine q_icmp_ge (tgt := 83) hA (by omega) (by omega) dX0_crossedBy_76 (by decide) (fun h76 => ?_) (fun h76 => ?_)
          · refine q_iconst hA dX0_crossedBy_83 ?_
            refine q_istore (j := 5) (lo2 := [vR 247, vI i, vI acc, vI k, vI 0, vI 0, vN]) hA dX0_crossedBy_84 (by decide) rfl rfl ?_
            refine q_aload_n (j := 0) hA rfl dX0_crossedBy_86 ?_
            refine q_getR hA f_X0_18 dX0_crossedBy_87 sx_247 (by decide) fx_247_1 ?_
            refine q_iload_n (j := 3) hA rfl dX0_crossedBy_90 ?_
            refine q_iald (x := D 255 k) hA dX0_crossedBy_91 sx_255 (by omega) (by decide) rfl ?_
            refine q_aload_n (j := 0) hA rfl dX0_crossedBy_92 ?_
            refine q_getR hA f_X0_18 dX0_crossedBy_93 sx_247 (by decide) fx_247_1 ?_
            refine q_iload_n (j := 1) hA rfl dX0_crossedBy_96 ?_
            refine q_iald (x := D 255 i) hA dX0_crossedBy_97 sx_255 (by omega) (by decide) rfl ?_
            refine q_icmp_eq (tgt := 146) hA (by omega) (by omega) dX0_crossedBy_98 (by decide) (fun h98 => ?_) (fun h98 => ?_)
            · refine q_iconst hA dX0_crossedBy_146 ?_
              refine q_goto (tgt := 151) hA dX0_crossedBy_147 (by decide) ?_
              refine q_istore (j := 6) (lo2 := [vR 247, vI i, vI acc, vI k, vI 0, vI 0, vI 1]) hA dX0_crossedBy_151 (by decide) rfl rfl ?_
              refine q_iload (j := 6) hA rfl dX0_crossedBy_153 ?_
              refine q_if_ne (tgt := 171) hA (by decide) dX0_crossedBy_155 (by decide) (fun h155 => ?_) (fun h155 => absurd h155 (by decide))
              refine q_iinc (j := 3) (lo2 := [vR 247, vI i, vI acc, vI (k + 1), vI 0, vI 0, vI 1]) hA dX0_crossedBy_171 rfl (by decide) rfl rfl ?_
              refine q_goto (tgt := 4) hA dX0_crossedBy_174 (by decide) ?_
              refine q_fgt (lo2 := [vR 247, vI i, vI acc, vI (k + 1), vN, vN, vN]) hA ⟨Or.inr rfl, Or.inr rfl, Or.inr rfl, Or.inr rfl, Or.inl rfl, Or.inl rfl, Or.inl rfl, trivial⟩ ?_
              exact ih _ _ (by omega) (by first | exact crP_1 hk.1 ha (by unfold crsP; omega) | exact crP_0 hk.1 ha (by unfold crsP; omega)) (by omega)
            · refine q_aload_n (j := 0) hA rfl dX0_crossedBy_101 ?_
              refine q_getR hA f_X0_18 dX0_crossedBy_102 sx_247 (by decide) fx_247_1 ?_
              refine q_iload_n (j := 3) hA rfl dX0_crossedBy_105 ?_
              refine q_iald (x := D 255 k) hA dX0_crossedBy_106 sx_255 (by omega) (by decide) rfl ?_
              refine q_aload_n (j := 0) hA rfl dX0_crossedBy_107 ?_
              refine q_getR hA f_X0_22 dX0_crossedBy_108 sx_247 (by decide) fx_247_2 ?_
              refine q_iload_n (j := 1) hA rfl dX0_crossedBy_111 ?_
              refine q_iald (x := D 256 i) hA dX0_crossedBy_112 sx_256 (by omega) (by decide) rfl ?_
              refine q_icmp_eq (tgt := 146) hA (by omega) (by omega) dX0_crossedBy_113 (by decide) (fun h113 => ?_) (fun h113 => ?_)
              · refine q_iconst hA dX0_crossedBy_146 ?_
                refine q_goto (tgt := 151) hA dX0_crossedBy_147 (by decide) ?_
                refine q_istore (j := 6) (lo2 := [vR 247, vI i, vI acc, vI k, vI 0, vI 0, vI 1]) hA dX0_crossedBy_151 (by decide) rfl rfl ?_
                refine q_iload (j := 6) hA rfl dX0_crossedBy_153 ?_
                refine q_if_ne (tgt := 171) hA (by decide) dX0_crossedBy_155 (by decide) (fun h155 => ?_) (fun h155 => absurd h155 (by decide))
                refine q_iinc (j := 3) (lo2 := [vR 247, vI i, vI acc, vI (k + 1), vI 0, vI 0, vI 1]) hA dX0_crossedBy_171 rfl (by decide) rfl rfl ?_
                refine q_goto (tgt := 4) hA dX0_crossedBy_174 (by decide) ?_
                refine q_fgt (lo2 := [vR 247, vI i, vI acc, vI (k + 1), vN, vN, vN]) hA ⟨Or.inr rfl, Or.inr rfl, Or.inr rfl, Or.inr rfl, Or.inl rfl, Or.inl rfl, Or.inl rfl, trivial⟩ ?_
                exact ih _ _ (by omega) (by first | exact crP_1 hk.1 ha (by unfold crsP; omega) | exact crP_0 hk.1 ha (by unfold crsP; omega)) (by omega)
              · refine q_aload_n (j := 0) hA rfl dX0_crossedBy_116 ?_
                refine q_getR hA f_X0_22 dX0_crossedBy_117 sx_247 (by decide) fx_247_2 ?_
                refine q_iload_n (j := 3) hA rfl dX0_crossedBy_120 ?_
                refine q_iald (x := D 256 k) hA dX0_crossedBy_121 sx_256 (by omega) (by decide) rfl ?_
                refine q_aload_n (j := 0) hA rfl dX0_crossedBy_122 ?_
                refine q_getR hA f_X0_18 dX0_crossedBy_123 sx_247 (by decide) fx_247_1 ?_
                refine q_iload_n (j := 1) hA rfl dX0_crossedBy_126 ?_
                refine q_iald (x := D 255 i) hA dX0_crossedBy_127 sx_255 (by omega) (by decide) rfl ?_
                refine q_icmp_eq (tgt := 146) hA (by omega) (by omega) dX0_crossedBy_128 (by decide) (fun h128 => ?_) (fun h128 => ?_)
                · refine q_iconst hA dX0_crossedBy_146 ?_
                  refine q_goto (tgt := 151) hA dX0_crossedBy_147 (by decide) ?_
                  refine q_istore (j := 6) (lo2 := [vR 247, vI i, vI acc, vI k, vI 0, vI 0, vI 1]) hA dX0_crossedBy_151 (by decide) rfl rfl ?_
                  refine q_iload (j := 6) hA rfl dX0_crossedBy_153 ?_
                  refine q_if_ne (tgt := 171) hA (by decide) dX0_crossedBy_155 (by decide) (fun h155 => ?_) (fun h155 => absurd h155 (by decide))
                  refine q_iinc (j := 3) (lo2 := [vR 247, vI i, vI acc, vI (k + 1), vI 0, vI 0, vI 1]) hA dX0_crossedBy_171 rfl (by decide) rfl rfl ?_
                  refine q_goto (tgt := 4) hA dX0_crossedBy_174 (by decide) ?_
                  refine q_fgt (lo2 := [vR 247, vI i, vI acc, vI (k + 1), vN, vN, vN]) hA ⟨Or.inr rfl, Or.inr rfl, Or.inr rfl, Or.inr rfl, Or.inl rfl, Or.inl rfl, Or.inl rfl, trivial⟩ ?_
                  exact ih _ _ (by omega) (by first | exact crP_1 hk.1 ha (by unfold crsP; omega) | exact crP_0 hk.1 ha (by unfold crsP; omega)) (by omega)
                · refine q_aload_n (j := 0) hA rfl dX0_crossedBy_131 ?_
                  refine q_getR hA f_X0_22 dX0_crossedBy_132 sx_247 (by decide) fx_247_2 ?_
                  refine q_iload_n (j := 3) hA rfl dX0_crossedBy_135 ?_
                  refine q_iald (x := D 256 k) hA dX0_crossedBy_136 sx_256 (by omega) (by decide) rfl ?_
                  refine q_aload_n (j := 0) hA rfl dX0_crossedBy_137 ?_
                  refine q_getR hA f_X0_22 dX0_crossedBy_138 sx_247 (by decide) fx_247_2 ?_
                  refine q_iload_n (j := 1) hA rfl dX0_crossedBy_141 ?_
                  refine q_iald (x := D 256 i) hA dX0_crossedBy_142 sx_256 (by omega) (by decide) rfl ?_
                  refine q_icmp_ne (tgt := 150) hA (by omega) (by omega) dX0_crossedBy_143 (by decide) (fun h143 => ?_) (fun h143 => ?_)
                  · refine q_iconst hA dX0_crossedBy_150 ?_
                    refine q_istore (j := 6) (lo2 := [vR 247, vI i, vI acc, vI k, vI 0, vI 0, vI 0]) hA dX0_crossedBy_151 (by decide) rfl rfl ?_
                    refine q_iload (j := 6) hA rfl dX0_crossedBy_153 ?_
                    refine q_if_ne (tgt := 171) hA (by decide) dX0_crossedBy_155 (by decide) (fun h155 => absurd h155 (by decide)) (fun h155 => ?_)
                    refine q_iload (j := 4) hA rfl dX0_crossedBy_158 ?_
                    refine q_iload (j := 5) hA rfl dX0_crossedBy_160 ?_
                    refine q_icmp_eq (tgt := 171) hA (by decide) (by decide) dX0_crossedBy_162 (by decide) (fun h162 => ?_) (fun h162 => absurd h162 (by decide))
                    refine q_iinc (j := 3) (lo2 := [vR 247, vI i, vI acc, vI (k + 1), vI 0, vI 0, vI 0]) hA dX0_crossedBy_171 rfl (by decide) rfl rfl ?_
                    refine q_goto (tgt := 4) hA dX0_crossedBy_174 (by decide) ?_
                    refine q_fgt (lo2 := [vR 247, vI i, vI acc, vI (k + 1), vN, vN, vN]) hA ⟨Or.inr rfl, Or.inr rfl, Or.inr rfl, Or.inr rfl, Or.inl rfl, Or.inl rfl, Or.inl rfl, trivial⟩ ?_
                    exact ih _ _ (by omega) (by first | exact crP_1 hk.1 ha (by unfold crsP; omega) | exact crP_0 hk.1 ha (by unfold crsP; omega)) (by omega)
                  · refine q_iconst hA dX0_crossedBy_146 ?_
                    refine q_goto (tgt := 151) hA dX0_crossedBy_147 (by decide) ?_
                    refine q_istore (j := 6) (lo2 := [vR 247, vI i, vI acc, vI k, vI 0, vI 0, vI 1]) hA dX0_crossedBy_151 (by decide) rfl rfl ?_
                    refine q_iload (j := 6) hA rfl dX0_crossedBy_153 ?_
                    refine q_if_ne (tgt := 171) hA (by decide) dX0_crossedBy_155 (by decide) (fun h155 => ?_) (fun h155 => absurd h155 (by decide))
                    refine q_iinc (j := 3) (lo2 := [vR 247, vI i, vI acc, vI (k + 1), vI 0, vI 0, vI 1]) hA dX0_crossedBy_171 rfl (by decide) rfl rfl ?_
                    refine q_goto (tgt := 4) hA dX0_crossedBy_174 (by decide) ?_
                    refine q_fgt (lo2 := [vR 247, vI i, vI acc, vI (k + 1), vN, vN, vN]) hA ⟨Or.inr rfl, Or.inr rfl, Or.inr rfl, Or.inr rfl, Or.inl rfl, Or.inl rfl, Or.inl rfl, trivial⟩ ?_
                    exact ih _ _ (by omega) (by first | exact crP_1 hk.1 ha (by unfold crsP; omega) | exact crP_0 hk.1 ha (by unfold crsP; omega)) (by omega)
          · refine q_iconst hA dX0_crossedBy_79 ?_
            refine q_goto (tgt := 84) hA dX0_crossedBy_80 (by decide) ?_
            refine q_istore (j := 5) (lo2 := [vR 247, vI i, vI acc, vI k, vI 0, vI 1, vN]) hA dX0_crossedBy_84 (by decide) rfl rfl ?_
            refine q_aload_n (j := 0) hA rfl dX0_crossedBy_86 ?_
            refine q_getR hA f_X0_18 dX0_crossedBy_87 sx_247 (by decide) fx_247_1 ?_
            refine q_iload_n (j := 3) hA rfl dX0_crossedBy_90 ?_
            refine q_iald (x := D 255 k) hA dX0_crossedBy_91 sx_255 (by omega) (by decide) rfl ?_
            refine q_aload_n (j := 0) hA rfl dX0_crossedBy_92 ?_
            refine q_getR hA f_X0_18 dX0_crossedBy_93 sx_247 (by decide) fx_247_1 ?_
            refine q_iload_n (j := 1) hA rfl dX0_crossedBy_96 ?_
            refine q_iald (x := D 255 i) hA dX0_crossedBy_97 sx_255 (by omega) (by decide) rfl ?_
            refine q_icmp_eq (tgt := 146) hA (by omega) (by omega) dX0_crossedBy_98 (by decide) (fun h98 => ?_) (fun h98 => ?_)
            · refine q_iconst hA dX0_crossedBy_146 ?_
              refine q_goto (tgt := 151) hA dX0_crossedBy_147 (by decide) ?_
              refine q_istore (j := 6) (lo2 := [vR 247, vI i, vI acc, vI k, vI 0, vI 1, vI 1]) hA dX0_crossedBy_151 (by decide) rfl rfl ?_
              refine q_iload (j := 6) hA rfl dX0_crossedBy_153 ?_
              refine q_if_ne (tgt := 171) hA (by decide) dX0_crossedBy_155 (by decide) (fun h155 => ?_) (fun h155 => absurd h155 (by decide))
              refine q_iinc (j := 3) (lo2 := [vR 247, vI i, vI acc, vI (k + 1), vI 0, vI 1, vI 1]) hA dX0_crossedBy_171 rfl (by decide) rfl rfl ?_
              refine q_goto (tgt := 4) hA dX0_crossedBy_174 (by decide) ?_
              refine q_fgt (lo2 := [vR 247, vI i, vI acc, vI (k + 1), vN, vN, vN]) hA ⟨Or.inr rfl, Or.inr rfl, Or.inr rfl, Or.inr rfl, Or.inl rfl, Or.inl rfl, Or.inl rfl, trivial⟩ ?_
              exact ih _ _ (by omega) (by first | exact crP_1 hk.1 ha (by unfold crsP; omega) | exact crP_0 hk.1 ha (by unfold crsP; omega)) (by omega)
            · refine q_aload_n (j := 0) hA rfl dX0_crossedBy_101 ?_
              refine q_getR hA f_X0_18 dX0_crossedBy_102 sx_247 (by decide) fx_247_1 ?_
              refine q_iload_n (j := 3) hA rfl dX0_crossedBy_105 ?_
              refine q_iald (x := D 255 k) hA dX0_crossedBy_106 sx_255 (by omega) (by decide) rfl ?_
              refine q_aload_n (j := 0) hA rfl dX0_crossedBy_107 ?_
              refine q_getR hA f_X0_22 dX0_crossedBy_108 sx_247 (by decide) fx_247_2 ?_
              refine q_iload_n (j := 1) hA rfl dX0_crossedBy_111 ?_
              refine q_iald (x := D 256 i) hA dX0_crossedBy_112 sx_256 (by omega) (by decide) rfl ?_
              refine q_icmp_eq (tgt := 146) hA (by omega) (by omega) dX0_crossedBy_113 (by decide) (fun h113 => ?_) (fun h113 => ?_)
              · refine q_iconst hA dX0_crossedBy_146 ?_
                refine q_goto (tgt := 151) hA dX0_crossedBy_147 (by decide) ?_
                refine q_istore (j := 6) (lo2 := [vR 247, vI i, vI acc, vI k, vI 0, vI 1, vI 1]) hA dX0_crossedBy_151 (by decide) rfl rfl ?_
                refine q_iload (j := 6) hA rfl dX0_crossedBy_153 ?_
                refine q_if_ne (tgt := 171) hA (by decide) dX0_crossedBy_155 (by decide) (fun h155 => ?_) (fun h155 => absurd h155 (by decide))
                refine q_iinc (j := 3) (lo2 := [vR 247, vI i, vI acc, vI (k + 1), vI 0, vI 1, vI 1]) hA dX0_crossedBy_171 rfl (by decide) rfl rfl ?_
                refine q_goto (tgt := 4) hA dX0_crossedBy_174 (by decide) ?_
                refine q_fgt (lo2 := [vR 247, vI i, vI acc, vI (k + 1), vN, vN, vN]) hA ⟨Or.inr rfl, Or.inr rfl, Or.inr rfl, Or.inr rfl, Or.inl rfl, Or.inl rfl, Or.inl rfl, trivial⟩ ?_
                exact ih _ _ (by omega) (by first | exact crP_1 hk.1 ha (by unfold crsP; omega) | exact crP_0 hk.1 ha (by unfold crsP; omega)) (by omega)
              · refine q_aload_n (j := 0) hA rfl dX0_crossedBy_116 ?_
                refine q_getR hA f_X0_22 dX0_crossedBy_117 sx_247 (by decide) fx_247_2 ?_
                refine q_iload_n (j := 3) hA rfl dX0_crossedBy_120 ?_
                refine q_iald (x := D 256 k) hA dX0_crossedBy_121 sx_256 (by omega) (by decide) rfl ?_
                refine q_aload_n (j := 0) hA rfl dX0_crossedBy_122 ?_
                refine q_getR hA f_X0_18 dX0_crossedBy_123 sx_247 (by decide) fx_247_1 ?_
                refine q_iload_n (j := 1) hA rfl dX0_crossedBy_126 ?_
                refine q_iald (x := D 255 i) hA dX0_crossedBy_127 sx_255 (by omega) (by decide) rfl ?_
                refine q_icmp_eq (tgt := 146) hA (by omega) (by omega) dX0_crossedBy_128 (by decide) (fun h128 => ?_) (fun h128 => ?_)
                · refine q_iconst hA dX0_crossedBy_146 ?_
                  refine q_goto (tgt := 151) hA dX0_crossedBy_147 (by decide) ?_
                  refine q_istore (j := 6) (lo2 := [vR 247, vI i, vI acc, vI k, vI 0, vI 1, vI 1]) hA dX0_crossedBy_151 (by decide) rfl rfl ?_
                  refine q_iload (j := 6) hA rfl dX0_crossedBy_153 ?_
                  refine q_if_ne (tgt := 171) hA (by decide) dX0_crossedBy_155 (by decide) (fun h155 => ?_) (fun h155 => absurd h155 (by decide))
                  refine q_iinc (j := 3) (lo2 := [vR 247, vI i, vI acc, vI (k + 1), vI 0, vI 1, vI 1]) hA dX0_crossedBy_171 rfl (by decide) rfl rfl ?_
                  refine q_goto (tgt := 4) hA dX0_crossedBy_174 (by decide) ?_
                  refine q_fgt (lo2 := [vR 247, vI i, vI acc, vI (k + 1), vN, vN, vN]) hA ⟨Or.inr rfl, Or.inr rfl, Or.inr rfl, Or.inr rfl, Or.inl rfl, Or.inl rfl, Or.inl rfl, trivial⟩ ?_
                  exact ih _ _ (by omega) (by first | exact crP_1 hk.1 ha (by unfold crsP; omega) | exact crP_0 hk.1 ha (by unfold crsP; omega)) (by omega)
                · refine q_aload_n (j := 0) hA rfl dX0_crossedBy_131 ?_
                  refine q_getR hA f_X0_22 dX0_crossedBy_132 sx_247 (by decide) fx_247_2 ?_
                  refine q_iload_n (j := 3) hA rfl dX0_crossedBy_135 ?_
                  refine q_iald (x := D 256 k) hA dX0_crossedBy_136 sx_256 (by omega) (by decide) rfl ?_
                  refine q_aload_n (j := 0) hA rfl dX0_crossedBy_137 ?_
                  refine q_getR hA f_X0_22 dX0_crossedBy_138 sx_247 (by decide) fx_247_2 ?_
                  refine q_iload_n (j := 1) hA rfl dX0_crossedBy_141 ?_
                  refine q_iald (x := D 256 i) hA dX0_crossedBy_142 sx_256 (by omega) (by decide) rfl ?_
                  refine q_icmp_ne (tgt := 150) hA (by omega) (by omega) dX0_crossedBy_143 (by decide) (fun h143 => ?_) (fun h143 => ?_)
                  · refine q_iconst hA dX0_crossedBy_150 ?_
                    refine q_istore (j := 6) (lo2 := [vR 247, vI i, vI acc, vI k, vI 0, vI 1, vI 0]) hA dX0_crossedBy_151 (by decide) rfl rfl ?_
                    refine q_iload (j := 6) hA rfl dX0_crossedBy_153 ?_
                    refine q_if_ne (tgt := 171) hA (by decide) dX0_crossedBy_155 (by decide) (fun h155 => absurd h155 (by decide)) (fun h155 => ?_)
                    refine q_iload (j := 4) hA rfl dX0_crossedBy_158 ?_
                    refine q_iload (j := 5) hA rfl dX0_crossedBy_160 ?_
                    refine q_icmp_eq (tgt := 171) hA (by decide) (by decide) dX0_crossedBy_162 (by decide) (fun h162 => absurd h162 (by decide)) (fun h162 => ?_)
                    refine q_iload_n (j := 2) hA rfl dX0_crossedBy_165 ?_
                    refine q_iconst hA dX0_crossedBy_166 ?_
                    refine q_iload_n (j := 3) hA rfl dX0_crossedBy_167 ?_
                    refine q_ishl hA dX0_crossedBy_168 ?_
                    refine q_ior hA dX0_crossedBy_169 ?_
                    rw [show iOr acc (iShl 1 k) = sb acc k from orShl (m := 20) (by omega) (by omega) (by omega)]
                    refine q_istore_n (j := 2) (lo2 := [vR 247, vI i, vI (sb acc k), vI k, vI 0, vI 1, vI 0]) hA dX0_crossedBy_170 (by decide) rfl rfl ?_
                    refine q_iinc (j := 3) (lo2 := [vR 247, vI i, vI (sb acc k), vI (k + 1), vI 0, vI 1, vI 0]) hA dX0_crossedBy_171 rfl (by decide) rfl rfl ?_
                    refine q_goto (tgt := 4) hA dX0_crossedBy_174 (by decide) ?_
                    refine q_fgt (lo2 := [vR 247, vI i, vI (sb acc k), vI (k + 1), vN, vN, vN]) hA ⟨Or.inr rfl, Or.inr rfl, Or.inr rfl, Or.inr rfl, Or.inl rfl, Or.inl rfl, Or.inl rfl, trivial⟩ ?_
                    exact ih _ _ (by omega) (by first | exact crP_1 hk.1 ha (by unfold crsP; omega) | exact crP_0 hk.1 ha (by unfold crsP; omega)) (by omega)
                  · refine q_iconst hA dX0_crossedBy_146 ?_
                    refine q_goto (tgt := 151) hA dX0_crossedBy_147 (by decide) ?_
                    refine q_istore (j := 6) (lo2 := [vR 247, vI i, vI acc, vI k, vI 0, vI 1, vI 1]) hA dX0_crossedBy_151 (by decide) rfl rfl ?_
                    refine q_iload (j := 6) hA rfl dX0_crossedBy_153 ?_
                    refine q_if_ne (tgt := 171) hA (by decide) dX0_crossedBy_155 (by decide) (fun h155 => ?_) (fun h155 => absurd h155 (by decide))
                    refine q_iinc (j := 3) (lo2 := [vR 247, vI i, vI acc, vI (k + 1), vI 0, vI 1, vI 1]) hA dX0_crossedBy_171 rfl (by decide) rfl rfl ?_
                    refine q_goto (tgt := 4) hA dX0_crossedBy_174 (by decide) ?_
                    refine q_fgt (lo2 := [vR 247, vI i, vI acc, vI (k + 1), vN, vN, vN]) hA ⟨Or.inr rfl, Or.inr rfl, Or.inr rfl, Or.inr rfl, Or.inl rfl, Or.inl rfl, Or.inl rfl, trivial⟩ ?_
                    exact ih _ _ (by omega) (by first | exact crP_1 hk.1 ha (by unfold crsP; omega) | exact crP_0 hk.1 ha (by unfold crsP; omega)) (by omega)
      · refine q_aload_n (j := 0) hA rfl dX0_crossedBy_27 ?_
        refine q_getR hA f_X0_18 dX0_crossedBy_28 sx_247 (by decide) fx_247_1 ?_
        refine q_iload_n (j := 3) hA rfl dX0_crossedBy_31 ?_
        refine q_iald (x := D 255 k) hA dX0_crossedBy_32 sx_255 (by omega) (by decide) rfl ?_
        refine q_aload_n (j := 0) hA rfl dX0_crossedBy_33 ?_
        refine q_getR hA f_X0_22 dX0_crossedBy_34 sx_247 (by decide) fx_247_2 ?_
        refine q_iload_n (j := 1) hA rfl dX0_crossedBy_37 ?_
        refine q_iald (x := D 256 i) hA dX0_crossedBy_38 sx_256 (by omega) (by decide) rfl ?_
        refine q_icmp_ge (tgt := 46) hA (by omega) (by omega) dX0_crossedBy_39 (by decide) (fun h39 => ?_) (fun h39 => ?_)
        · refine q_iconst hA dX0_crossedBy_46 ?_
          refine q_istore (j := 4) (lo2 := [vR 247, vI i, vI acc, vI k, vI 0, vN, vN]) hA dX0_crossedBy_47 (by decide) rfl rfl ?_
          refine q_aload_n (j := 0) hA rfl dX0_crossedBy_49 ?_
          refine q_getR hA f_X0_22 dX0_crossedBy_50 sx_247 (by decide) fx_247_2 ?_
          refine q_iload_n (j := 3) hA rfl dX0_crossedBy_53 ?_
          refine q_iald (x := D 256 k) hA dX0_crossedBy_54 sx_256 (by omega) (by decide) rfl ?_
          refine q_aload_n (j := 0) hA rfl dX0_crossedBy_55 ?_
          refine q_getR hA f_X0_18 dX0_crossedBy_56 sx_247 (by decide) fx_247_1 ?_
          refine q_iload_n (j := 1) hA rfl dX0_crossedBy_59 ?_
          refine q_iald (x := D 255 i) hA dX0_crossedBy_60 sx_255 (by omega) (by decide) rfl ?_
          refine q_icmp_le (tgt := 83) hA (by omega) (by omega) dX0_crossedBy_61 (by decide) (fun h61 => ?_) (fun h61 => ?_)
          · refine q_iconst hA dX0_crossedBy_83 ?_
            refine q_istore (j := 5) (lo2 := [vR 247, vI i, vI acc, vI k, vI 0, vI 0, vN]) hA dX0_crossedBy_84 (by decide) rfl rfl ?_
            refine q_aload_n (j := 0) hA rfl dX0_crossedBy_86 ?_
            refine q_getR hA f_X0_18 dX0_crossedBy_87 sx_247 (by decide) fx_247_1 ?_
            refine q_iload_n (j := 3) hA rfl dX0_crossedBy_90 ?_
            refine q_iald (x := D 255 k) hA dX0_crossedBy_91 sx_255 (by omega) (by decide) rfl ?_
            refine q_aload_n (j := 0) hA rfl dX0_crossedBy_92 ?_
            refine q_getR hA f_X0_18 dX0_crossedBy_93 sx_247 (by decide) fx_247_1 ?_
            refine q_iload_n (j := 1) hA rfl dX0_crossedBy_96 ?_
            refine q_iald (x := D 255 i) hA dX0_crossedBy_97 sx_255 (by omega) (by decide) rfl ?_
            refine q_icmp_eq (tgt := 146) hA (by omega) (by omega) dX0_crossedBy_98 (by decide) (fun h98 => ?_) (fun h98 => ?_)
            · refine q_iconst hA dX0_crossedBy_146 ?_
              refine q_goto (tgt := 151) hA dX0_crossedBy_147 (by decide) ?_
              refine q_istore (j := 6) (lo2 := [vR 247, vI i, vI acc, vI k, vI 0, vI 0, vI 1]) hA dX0_crossedBy_151 (by decide) rfl rfl ?_
              refine q_iload (j := 6) hA rfl dX0_crossedBy_153 ?_
              refine q_if_ne (tgt := 171) hA (by decide) dX0_crossedBy_155 (by decide) (fun h155 => ?_) (fun h155 => absurd h155 (by decide))
              refine q_iinc (j := 3) (lo2 := [vR 247, vI i, vI acc, vI (k + 1), vI 0, vI 0, vI 1]) hA dX0_crossedBy_171 rfl (by decide) rfl rfl ?_
              refine q_goto (tgt := 4) hA dX0_crossedBy_174 (by decide) ?_
              refine q_fgt (lo2 := [vR 247, vI i, vI acc, vI (k + 1), vN, vN, vN]) hA ⟨Or.inr rfl, Or.inr rfl, Or.inr rfl, Or.inr rfl, Or.inl rfl, Or.inl rfl, Or.inl rfl, trivial⟩ ?_
              exact ih _ _ (by omega) (by first | exact crP_1 hk.1 ha (by unfold crsP; omega) | exact crP_0 hk.1 ha (by unfold crsP; omega)) (by omega)
            · refine q_aload_n (j := 0) hA rfl dX0_crossedBy_101 ?_
              refine q_getR hA f_X0_18 dX0_crossedBy_102 sx_247 (by decide) fx_247_1 ?_
              refine q_iload_n (j := 3) hA rfl dX0_crossedBy_105 ?_
              refine q_iald (x := D 255 k) hA dX0_crossedBy_106 sx_255 (by omega) (by decide) rfl ?_
              refine q_aload_n (j := 0) hA rfl dX0_crossedBy_107 ?_
              refine q_getR hA f_X0_22 dX0_crossedBy_108 sx_247 (by decide) fx_247_2 ?_
              refine q_iload_n (j := 1) hA rfl dX0_crossedBy_111 ?_
              refine q_iald (x := D 256 i) hA dX0_crossedBy_112 sx_256 (by omega) (by decide) rfl ?_
              refine q_icmp_eq (tgt := 146) hA (by omega) (by omega) dX0_crossedBy_113 (by decide) (fun h113 => ?_) (fun h113 => ?_)
              · refine q_iconst hA dX0_crossedBy_146 ?_
                refine q_goto (tgt := 151) hA dX0_crossedBy_147 (by decide) ?_
                refine q_istore (j := 6) (lo2 := [vR 247, vI i, vI acc, vI k, vI 0, vI 0, vI 1]) hA dX0_crossedBy_151 (by decide) rfl rfl ?_
                refine q_iload (j := 6) hA rfl dX0_crossedBy_153 ?_
                refine q_if_ne (tgt := 171) hA (by decide) dX0_crossedBy_155 (by decide) (fun h155 => ?_) (fun h155 => absurd h155 (by decide))
                refine q_iinc (j := 3) (lo2 := [vR 247, vI i, vI acc, vI (k + 1), vI 0, vI 0, vI 1]) hA dX0_crossedBy_171 rfl (by decide) rfl rfl ?_
                refine q_goto (tgt := 4) hA dX0_crossedBy_174 (by decide) ?_
                refine q_fgt (lo2 := [vR 247, vI i, vI acc, vI (k + 1), vN, vN, vN]) hA ⟨Or.inr rfl, Or.inr rfl, Or.inr rfl, Or.inr rfl, Or.inl rfl, Or.inl rfl, Or.inl rfl, trivial⟩ ?_
                exact ih _ _ (by omega) (by first | exact crP_1 hk.1 ha (by unfold crsP; omega) | exact crP_0 hk.1 ha (by unfold crsP; omega)) (by omega)
              · refine q_aload_n (j := 0) hA rfl dX0_crossedBy_116 ?_
                refine q_getR hA f_X0_22 dX0_crossedBy_117 sx_247 (by decide) fx_247_2 ?_
                refine q_iload_n (j := 3) hA rfl dX0_crossedBy_120 ?_
                refine q_iald (x := D 256 k) hA dX0_crossedBy_121 sx_256 (by omega) (by decide) rfl ?_
                refine q_aload_n (j := 0) hA rfl dX0_crossedBy_122 ?_
                refine q_getR hA f_X0_18 dX0_crossedBy_123 sx_247 (by decide) fx_247_1 ?_
                refine q_iload_n (j := 1) hA rfl dX0_crossedBy_126 ?_
                refine q_iald (x := D 255 i) hA dX0_crossedBy_127 sx_255 (by omega) (by decide) rfl ?_
                refine q_icmp_eq (tgt := 146) hA (by omega) (by omega) dX0_crossedBy_128 (by decide) (fun h128 => ?_) (fun h128 => ?_)
                · refine q_iconst hA dX0_crossedBy_146 ?_
                  refine q_goto (tgt := 151) hA dX0_crossedBy_147 (by decide) ?_
                  refine q_istore (j := 6) (lo2 := [vR 247, vI i, vI acc, vI k, vI 0, vI 0, vI 1]) hA dX0_crossedBy_151 (by decide) rfl rfl ?_
                  refine q_iload (j := 6) hA rfl dX0_crossedBy_153 ?_
                  refine q_if_ne (tgt := 171) hA (by decide) dX0_crossedBy_155 (by decide) (fun h155 => ?_) (fun h155 => absurd h155 (by decide))
                  refine q_iinc (j := 3) (lo2 := [vR 247, vI i, vI acc, vI (k + 1), vI 0, vI 0, vI 1]) hA dX0_crossedBy_171 rfl (by decide) rfl rfl ?_
                  refine q_goto (tgt := 4) hA dX0_crossedBy_174 (by decide) ?_
                  refine q_fgt (lo2 := [vR 247, vI i, vI acc, vI (k + 1), vN, vN, vN]) hA ⟨Or.inr rfl, Or.inr rfl, Or.inr rfl, Or.inr rfl, Or.inl rfl, Or.inl rfl, Or.inl rfl, trivial⟩ ?_
                  exact ih _ _ (by omega) (by first | exact crP_1 hk.1 ha (by unfold crsP; omega) | exact crP_0 hk.1 ha (by unfold crsP; omega)) (by omega)
                · refine q_aload_n (j := 0) hA rfl dX0_crossedBy_131 ?_
                  refine q_getR hA f_X0_22 dX0_crossedBy_132 sx_247 (by decide) fx_247_2 ?_
                  refine q_iload_n (j := 3) hA rfl dX0_crossedBy_135 ?_
                  refine q_iald (x := D 256 k) hA dX0_crossedBy_136 sx_256 (by omega) (by decide) rfl ?_
                  refine q_aload_n (j := 0) hA rfl dX0_crossedBy_137 ?_
                  refine q_getR hA f_X0_22 dX0_crossedBy_138 sx_247 (by decide) fx_247_2 ?_
                  refine q_iload_n (j := 1) hA rfl dX0_crossedBy_141 ?_
                  refine q_iald (x := D 256 i) hA dX0_crossedBy_142 sx_256 (by omega) (by decide) rfl ?_
                  refine q_icmp_ne (tgt := 150) hA (by omega) (by omega) dX0_crossedBy_143 (by decide) (fun h143 => ?_) (fun h143 => ?_)
                  · refine q_iconst hA dX0_crossedBy_150 ?_
                    refine q_istore (j := 6) (lo2 := [vR 247, vI i, vI acc, vI k, vI 0, vI 0, vI 0]) hA dX0_crossedBy_151 (by decide) rfl rfl ?_
                    refine q_iload (j := 6) hA rfl dX0_crossedBy_153 ?_
                    refine q_if_ne (tgt := 171) hA (by decide) dX0_crossedBy_155 (by decide) (fun h155 => absurd h155 (by decide)) (fun h155 => ?_)
                    refine q_iload (j := 4) hA rfl dX0_crossedBy_158 ?_
                    refine q_iload (j := 5) hA rfl dX0_crossedBy_160 ?_
                    refine q_icmp_eq (tgt := 171) hA (by decide) (by decide) dX0_crossedBy_162 (by decide) (fun h162 => ?_) (fun h162 => absurd h162 (by decide))
                    refine q_iinc (j := 3) (lo2 := [vR 247, vI i, vI acc, vI (k + 1), vI 0, vI 0, vI 0]) hA dX0_crossedBy_171 rfl (by decide) rfl rfl ?_
                    refine q_goto (tgt := 4) hA dX0_crossedBy_174 (by decide) ?_
                    refine q_fgt (lo2 := [vR 247, vI i, vI acc, vI (k + 1), vN, vN, vN]) hA ⟨Or.inr rfl, Or.inr rfl, Or.inr rfl, Or.inr rfl, Or.inl rfl, Or.inl rfl, Or.inl rfl, trivial⟩ ?_
                    exact ih _ _ (by omega) (by first | exact crP_1 hk.1 ha (by unfold crsP; omega) | exact crP_0 hk.1 ha (by unfold crsP; omega)) (by omega)
                  · refine q_iconst hA dX0_crossedBy_146 ?_
                    refine q_goto (tgt := 151) hA dX0_crossedBy_147 (by decide) ?_
                    refine q_istore (j := 6) (lo2 := [vR 247, vI i, vI acc, vI k, vI 0, vI 0, vI 1]) hA dX0_crossedBy_151 (by decide) rfl rfl ?_
                    refine q_iload (j := 6) hA rfl dX0_crossedBy_153 ?_
                    refine q_if_ne (tgt := 171) hA (by decide) dX0_crossedBy_155 (by decide) (fun h155 => ?_) (fun h155 => absurd h155 (by decide))
                    refine q_iinc (j := 3) (lo2 := [vR 247, vI i, vI acc, vI (k + 1), vI 0, vI 0, vI 1]) hA dX0_crossedBy_171 rfl (by decide) rfl rfl ?_
                    refine q_goto (tgt := 4) hA dX0_crossedBy_174 (by decide) ?_
                    refine q_fgt (lo2 := [vR 247, vI i, vI acc, vI (k + 1), vN, vN, vN]) hA ⟨Or.inr rfl, Or.inr rfl, Or.inr rfl, Or.inr rfl, Or.inl rfl, Or.inl rfl, Or.inl rfl, trivial⟩ ?_
                    exact ih _ _ (by omega) (by first | exact crP_1 hk.1 ha (by unfold crsP; omega) | exact crP_0 hk.1 ha (by unfold crsP; omega)) (by omega)
          · refine q_aload_n (j := 0) hA rfl dX0_crossedBy_64 ?_
            refine q_getR hA f_X0_22 dX0_crossedBy_65 sx_247 (by decide) fx_247_2 ?_
            refine q_iload_n (j := 3) hA rfl dX0_crossedBy_68 ?_
            refine q_iald (x := D 256 k) hA dX0_crossedBy_69 sx_256 (by omega) (by decide) rfl ?_
            refine q_aload_n (j := 0) hA rfl dX0_crossedBy_70 ?_
            refine q_getR hA f_X0_22 dX0_crossedBy_71 sx_247 (by decide) fx_247_2 ?_
            refine q_iload_n (j := 1) hA rfl dX0_crossedBy_74 ?_
            refine q_iald (x := D 256 i) hA dX0_crossedBy_75 sx_256 (by omega) (by decide) rfl ?_
            refine q_icmp_ge (tgt := 83) hA (by omega) (by omega) dX0_crossedBy_76 (by decide) (fun h76 => ?_) (fun h76 => ?_)
            · refine q_iconst hA dX0_crossedBy_83 ?_
              refine q_istore (j := 5) (lo2 := [vR 247, vI i, vI acc, vI k, vI 0, vI 0, vN]) hA dX0_crossedBy_84 (by decide) rfl rfl ?_
              refine q_aload_n (j := 0) hA rfl dX0_crossedBy_86 ?_
              refine q_getR hA f_X0_18 dX0_crossedBy_87 sx_247 (by decide) fx_247_1 ?_
              refine q_iload_n (j := 3) hA rfl dX0_crossedBy_90 ?_
              refine q_iald (x := D 255 k) hA dX0_crossedBy_91 sx_255 (by omega) (by decide) rfl ?_
              refine q_aload_n (j := 0) hA rfl dX0_crossedBy_92 ?_
              refine q_getR hA f_X0_18 dX0_crossedBy_93 sx_247 (by decide) fx_247_1 ?_
              refine q_iload_n (j := 1) hA rfl dX0_crossedBy_96 ?_
              refine q_iald (x := D 255 i) hA dX0_crossedBy_97 sx_255 (by omega) (by decide) rfl ?_
              refine q_icmp_eq (tgt := 146) hA (by omega) (by omega) dX0_crossedBy_98 (by decide) (fun h98 => ?_) (fun h98 => ?_)
              · refine q_iconst hA dX0_crossedBy_146 ?_
                refine q_goto (tgt := 151) hA dX0_crossedBy_147 (by decide) ?_
                refine q_istore (j := 6) (lo2 := [vR 247, vI i, vI acc, vI k, vI 0, vI 0, vI 1]) hA dX0_crossedBy_151 (by decide) rfl rfl ?_
                refine q_iload (j := 6) hA rfl dX0_crossedBy_153 ?_
                refine q_if_ne (tgt := 171) hA (by decide) dX0_crossedBy_155 (by decide) (fun h155 => ?_) (fun h155 => absurd h155 (by decide))
                refine q_iinc (j := 3) (lo2 := [vR 247, vI i, vI acc, vI (k + 1), vI 0, vI 0, vI 1]) hA dX0_crossedBy_171 rfl (by decide) rfl rfl ?_
                refine q_goto (tgt := 4) hA dX0_crossedBy_174 (by decide) ?_
                refine q_fgt (lo2 := [vR 247, vI i, vI acc, vI (k + 1), vN, vN, vN]) hA ⟨Or.inr rfl, Or.inr rfl, Or.inr rfl, Or.inr rfl, Or.inl rfl, Or.inl rfl, Or.inl rfl, trivial⟩ ?_
                exact ih _ _ (by omega) (by first | exact crP_1 hk.1 ha (by unfold crsP; omega) | exact crP_0 hk.1 ha (by unfold crsP; omega)) (by omega)
              · refine q_aload_n (j := 0) hA rfl dX0_crossedBy_101 ?_
                refine q_getR hA f_X0_18 dX0_crossedBy_102 sx_247 (by decide) fx_247_1 ?_
                refine q_iload_n (j := 3) hA rfl dX0_crossedBy_105 ?_
                refine q_iald (x := D 255 k) hA dX0_crossedBy_106 sx_255 (by omega) (by decide) rfl ?_
                refine q_aload_n (j := 0) hA rfl dX0_crossedBy_107 ?_
                refine q_getR hA f_X0_22 dX0_crossedBy_108 sx_247 (by decide) fx_247_2 ?_
                refine q_iload_n (j := 1) hA rfl dX0_crossedBy_111 ?_
                refine q_iald (x := D 256 i) hA dX0_crossedBy_112 sx_256 (by omega) (by decide) rfl ?_
                refine q_icmp_eq (tgt := 146) hA (by omega) (by omega) dX0_crossedBy_113 (by decide) (fun h113 => ?_) (fun h113 => ?_)
                · refine q_iconst hA dX0_crossedBy_146 ?_
                  refine q_goto (tgt := 151) hA dX0_crossedBy_147 (by decide) ?_
                  refine q_istore (j := 6) (lo2 := [vR 247, vI i, vI acc, vI k, vI 0, vI 0, vI 1]) hA dX0_crossedBy_151 (by decide) rfl rfl ?_
                  refine q_iload (j := 6) hA rfl dX0_crossedBy_153 ?_
                  refine q_if_ne (tgt := 171) hA (by decide) dX0_crossedBy_155 (by decide) (fun h155 => ?_) (fun h155 => absurd h155 (by decide))
                  refine q_iinc (j := 3) (lo2 := [vR 247, vI i, vI acc, vI (k + 1), vI 0, vI 0, vI 1]) hA dX0_crossedBy_171 rfl (by decide) rfl rfl ?_
                  refine q_goto (tgt := 4) hA dX0_crossedBy_174 (by decide) ?_
                  refine q_fgt (lo2 := [vR 247, vI i, vI acc, vI (k + 1), vN, vN, vN]) hA ⟨Or.inr rfl, Or.inr rfl, Or.inr rfl, Or.inr rfl, Or.inl rfl, Or.inl rfl, Or.inl rfl, trivial⟩ ?_
                  exact ih _ _ (by omega) (by first | exact crP_1 hk.1 ha (by unfold crsP; omega) | exact crP_0 hk.1 ha (by unfold crsP; omega)) (by omega)
                · refine q_aload_n (j := 0) hA rfl dX0_crossedBy_116 ?_
                  refine q_getR hA f_X0_22 dX0_crossedBy_117 sx_247 (by decide) fx_247_2 ?_
                  refine q_iload_n (j := 3) hA rfl dX0_crossedBy_120 ?_
                  refine q_iald (x := D 256 k) hA dX0_crossedBy_121 sx_256 (by omega) (by decide) rfl ?_
                  refine q_aload_n (j := 0) hA rfl dX0_crossedBy_122 ?_
                  refine q_getR hA f_X0_18 dX0_crossedBy_123 sx_247 (by decide) fx_247_1 ?_
                  refine q_iload_n (j := 1) hA rfl dX0_crossedBy_126 ?_
                  refine q_iald (x := D 255 i) hA dX0_crossedBy_127 sx_255 (by omega) (by decide) rfl ?_
                  refine q_icmp_eq (tgt := 146) hA (by omega) (by omega) dX0_crossedBy_128 (by decide) (fun h128 => ?_) (fun h128 => ?_)
                  · refine q_iconst hA dX0_crossedBy_146 ?_
                    refine q_goto (tgt := 151) hA dX0_crossedBy_147 (by decide) ?_
                    refine q_istore (j := 6) (lo2 := [vR 247, vI i, vI acc, vI k, vI 0, vI 0, vI 1]) hA dX0_crossedBy_151 (by decide) rfl rfl ?_
                    refine q_iload (j := 6) hA rfl dX0_crossedBy_153 ?_
                    refine q_if_ne (tgt := 171) hA (by decide) dX0_crossedBy_155 (by decide) (fun h155 => ?_) (fun h155 => absurd h155 (by decide))
                    refine q_iinc (j := 3) (lo2 := [vR 247, vI i, vI acc, vI (k + 1), vI 0, vI 0, vI 1]) hA dX0_crossedBy_171 rfl (by decide) rfl rfl ?_
                    refine q_goto (tgt := 4) hA dX0_crossedBy_174 (by decide) ?_
                    refine q_fgt (lo2 := [vR 247, vI i, vI acc, vI (k + 1), vN, vN, vN]) hA ⟨Or.inr rfl, Or.inr rfl, Or.inr rfl, Or.inr rfl, Or.inl rfl, Or.inl rfl, Or.inl rfl, trivial⟩ ?_
                    exact ih _ _ (by omega) (by first | exact crP_1 hk.1 ha (by unfold crsP; omega) | exact crP_0 hk.1 ha (by unfold crsP; omega)) (by omega)
                  · refine q_aload_n (j := 0) hA rfl dX0_crossedBy_131 ?_
                    refine q_getR hA f_X0_22 dX0_crossedBy_132 sx_247 (by decide) fx_247_2 ?_
                    refine q_iload_n (j := 3) hA rfl dX0_crossedBy_135 ?_
                    refine q_iald (x := D 256 k) hA dX0_crossedBy_136 sx_256 (by omega) (by decide) rfl ?_
                    refine q_aload_n (j := 0) hA rfl dX0_crossedBy_137 ?_
                    refine q_getR hA f_X0_22 dX0_crossedBy_138 sx_247 (by decide) fx_247_2 ?_
                    refine q_iload_n (j := 1) hA rfl dX0_crossedBy_141 ?_
                    refine q_iald (x := D 256 i) hA dX0_crossedBy_142 sx_256 (by omega) (by decide) rfl ?_
                    refine q_icmp_ne (tgt := 150) hA (by omega) (by omega) dX0_crossedBy_143 (by decide) (fun h143 => ?_) (fun h143 => ?_)
                    · refine q_iconst hA dX0_crossedBy_150 ?_
                      refine q_istore (j := 6) (lo2 := [vR 247, vI i, vI acc, vI k, vI 0, vI 0, vI 0]) hA dX0_crossedBy_151 (by decide) rfl rfl ?_
                      refine q_iload (j := 6) hA rfl dX0_crossedBy_153 ?_
                      refine q_if_ne (tgt := 171) hA (by decide) dX0_crossedBy_155 (by decide) (fun h155 => absurd h155 (by decide)) (fun h155 => ?_)
                      refine q_iload (j := 4) hA rfl dX0_crossedBy_158 ?_
                      refine q_iload (j := 5) hA rfl dX0_crossedBy_160 ?_
                      refine q_icmp_eq (tgt := 171) hA (by decide) (by decide) dX0_crossedBy_162 (by decide) (fun h162 => ?_) (fun h162 => absurd h162 (by decide))
                      refine q_iinc (j := 3) (lo2 := [vR 247, vI i, vI acc, vI (k + 1), vI 0, vI 0, vI 0]) hA dX0_crossedBy_171 rfl (by decide) rfl rfl ?_
                      refine q_goto (tgt := 4) hA dX0_crossedBy_174 (by decide) ?_
                      refine q_fgt (lo2 := [vR 247, vI i, vI acc, vI (k + 1), vN, vN, vN]) hA ⟨Or.inr rfl, Or.inr rfl, Or.inr rfl, Or.inr rfl, Or.inl rfl, Or.inl rfl, Or.inl rfl, trivial⟩ ?_
                      exact ih _ _ (by omega) (by first | exact crP_1 hk.1 ha (by unfold crsP; omega) | exact crP_0 hk.1 ha (by unfold crsP; omega)) (by omega)
                    · refine q_iconst hA dX0_crossedBy_146 ?_
                      refine q_goto (tgt := 151) hA dX0_crossedBy_147 (by decide) ?_
                      refine q_istore (j := 6) (lo2 := [vR 247, vI i, vI acc, vI k, vI 0, vI 0, vI 1]) hA dX0_crossedBy_151 (by decide) rfl rfl ?_
                      refine q_iload (j := 6) hA rfl dX0_crossedBy_153 ?_
                      refine q_if_ne (tgt := 171) hA (by decide) dX0_crossedBy_155 (by decide) (fun h155 => ?_) (fun h155 => absurd h155 (by decide))
                      refine q_iinc (j := 3) (lo2 := [vR 247, vI i, vI acc, vI (k + 1), vI 0, vI 0, vI 1]) hA dX0_crossedBy_171 rfl (by decide) rfl rfl ?_
                      refine q_goto (tgt := 4) hA dX0_crossedBy_174 (by decide) ?_
                      refine q_fgt (lo2 := [vR 247, vI i, vI acc, vI (k + 1), vN, vN, vN]) hA ⟨Or.inr rfl, Or.inr rfl, Or.inr rfl, Or.inr rfl, Or.inl rfl, Or.inl rfl, Or.inl rfl, trivial⟩ ?_
                      exact ih _ _ (by omega) (by first | exact crP_1 hk.1 ha (by unfold crsP; omega) | exact crP_0 hk.1 ha (by unfold crsP; omega)) (by omega)
            · refine q_iconst hA dX0_crossedBy_79 ?_
              refine q_goto (tgt := 84) hA dX0_crossedBy_80 (by decide) ?_
              refine q_istore (j := 5) (lo2 := [vR 247, vI i, vI acc, vI k, vI 0, vI 1, vN]) hA dX0_crossedBy_84 (by decide) rfl rfl ?_
              refine q_aload_n (j := 0) hA rfl dX0_crossedBy_86 ?_
              refine q_getR hA f_X0_18 dX0_crossedBy_87 sx_247 (by decide) fx_247_1 ?_
              refine q_iload_n (j := 3) hA rfl dX0_crossedBy_90 ?_
              refine q_iald (x := D 255 k) hA dX0_crossedBy_91 sx_255 (by omega) (by decide) rfl ?_
              refine q_aload_n (j := 0) hA rfl dX0_crossedBy_92 ?_
              refine q_getR hA f_X0_18 dX0_crossedBy_93 sx_247 (by decide) fx_247_1 ?_
              refine q_iload_n (j := 1) hA rfl dX0_crossedBy_96 ?_
              refine q_iald (x := D 255 i) hA dX0_crossedBy_97 sx_255 (by omega) (by decide) rfl ?_
              refine q_icmp_eq (tgt := 146) hA (by omega) (by omega) dX0_crossedBy_98 (by decide) (fun h98 => ?_) (fun h98 => ?_)
              · refine q_iconst hA dX0_crossedBy_146 ?_
                refine q_goto (tgt := 151) hA dX0_crossedBy_147 (by decide) ?_
                refine q_istore (j := 6) (lo2 := [vR 247, vI i, vI acc, vI k, vI 0, vI 1, vI 1]) hA dX0_crossedBy_151 (by decide) rfl rfl ?_
                refine q_iload (j := 6) hA rfl dX0_crossedBy_153 ?_
                refine q_if_ne (tgt := 171) hA (by decide) dX0_crossedBy_155 (by decide) (fun h155 => ?_) (fun h155 => absurd h155 (by decide))
                refine q_iinc (j := 3) (lo2 := [vR 247, vI i, vI acc, vI (k + 1), vI 0, vI 1, vI 1]) hA dX0_crossedBy_171 rfl (by decide) rfl rfl ?_
                refine q_goto (tgt := 4) hA dX0_crossedBy_174 (by decide) ?_
                refine q_fgt (lo2 := [vR 247, vI i, vI acc, vI (k + 1), vN, vN, vN]) hA ⟨Or.inr rfl, Or.inr rfl, Or.inr rfl, Or.inr rfl, Or.inl rfl, Or.inl rfl, Or.inl rfl, trivial⟩ ?_
                exact ih _ _ (by omega) (by first | exact crP_1 hk.1 ha (by unfold crsP; omega) | exact crP_0 hk.1 ha (by unfold crsP; omega)) (by omega)
              · refine q_aload_n (j := 0) hA rfl dX0_crossedBy_101 ?_
                refine q_getR hA f_X0_18 dX0_crossedBy_102 sx_247 (by decide) fx_247_1 ?_
                refine q_iload_n (j := 3) hA rfl dX0_crossedBy_105 ?_
                refine q_iald (x := D 255 k) hA dX0_crossedBy_106 sx_255 (by omega) (by decide) rfl ?_
                refine q_aload_n (j := 0) hA rfl dX0_crossedBy_107 ?_
                refine q_getR hA f_X0_22 dX0_crossedBy_108 sx_247 (by decide) fx_247_2 ?_
                refine q_iload_n (j := 1) hA rfl dX0_crossedBy_111 ?_
                refine q_iald (x := D 256 i) hA dX0_crossedBy_112 sx_256 (by omega) (by decide) rfl ?_
                refine q_icmp_eq (tgt := 146) hA (by omega) (by omega) dX0_crossedBy_113 (by decide) (fun h113 => ?_) (fun h113 => ?_)
                · refine q_iconst hA dX0_crossedBy_146 ?_
                  refine q_goto (tgt := 151) hA dX0_crossedBy_147 (by decide) ?_
                  refine q_istore (j := 6) (lo2 := [vR 247, vI i, vI acc, vI k, vI 0, vI 1, vI 1]) hA dX0_crossedBy_151 (by decide) rfl rfl ?_
                  refine q_iload (j := 6) hA rfl dX0_crossedBy_153 ?_
                  refine q_if_ne (tgt := 171) hA (by decide) dX0_crossedBy_155 (by decide) (fun h155 => ?_) (fun h155 => absurd h155 (by decide))
                  refine q_iinc (j := 3) (lo2 := [vR 247, vI i, vI acc, vI (k + 1), vI 0, vI 1, vI 1]) hA dX0_crossedBy_171 rfl (by decide) rfl rfl ?_
                  refine q_goto (tgt := 4) hA dX0_crossedBy_174 (by decide) ?_
                  refine q_fgt (lo2 := [vR 247, vI i, vI acc, vI (k + 1), vN, vN, vN]) hA ⟨Or.inr rfl, Or.inr rfl, Or.inr rfl, Or.inr rfl, Or.inl rfl, Or.inl rfl, Or.inl rfl, trivial⟩ ?_
                  exact ih _ _ (by omega) (by first | exact crP_1 hk.1 ha (by unfold crsP; omega) | exact crP_0 hk.1 ha (by unfold crsP; omega)) (by omega)
                · refine q_aload_n (j := 0) hA rfl dX0_crossedBy_116 ?_
                  refine q_getR hA f_X0_22 dX0_crossedBy_117 sx_247 (by decide) fx_247_2 ?_
                  refine q_iload_n (j := 3) hA rfl dX0_crossedBy_120 ?_
                  refine q_iald (x := D 256 k) hA dX0_crossedBy_121 sx_256 (by omega) (by decide) rfl ?_
                  refine q_aload_n (j := 0) hA rfl dX0_crossedBy_122 ?_
                  refine q_getR hA f_X0_18 dX0_crossedBy_123 sx_247 (by decide) fx_247_1 ?_
                  refine q_iload_n (j := 1) hA rfl dX0_crossedBy_126 ?_
                  refine q_iald (x := D 255 i) hA dX0_crossedBy_127 sx_255 (by omega) (by decide) rfl ?_
                  refine q_icmp_eq (tgt := 146) hA (by omega) (by omega) dX0_crossedBy_128 (by decide) (fun h128 => ?_) (fun h128 => ?_)
                  · refine q_iconst hA dX0_crossedBy_146 ?_
                    refine q_goto (tgt := 151) hA dX0_crossedBy_147 (by decide) ?_
                    refine q_istore (j := 6) (lo2 := [vR 247, vI i, vI acc, vI k, vI 0, vI 1, vI 1]) hA dX0_crossedBy_151 (by decide) rfl rfl ?_
                    refine q_iload (j := 6) hA rfl dX0_crossedBy_153 ?_
                    refine q_if_ne (tgt := 171) hA (by decide) dX0_crossedBy_155 (by decide) (fun h155 => ?_) (fun h155 => absurd h155 (by decide))
                    refine q_iinc (j := 3) (lo2 := [vR 247, vI i, vI acc, vI (k + 1), vI 0, vI 1, vI 1]) hA dX0_crossedBy_171 rfl (by decide) rfl rfl ?_
                    refine q_goto (tgt := 4) hA dX0_crossedBy_174 (by decide) ?_
                    refine q_fgt (lo2 := [vR 247, vI i, vI acc, vI (k + 1), vN, vN, vN]) hA ⟨Or.inr rfl, Or.inr rfl, Or.inr rfl, Or.inr rfl, Or.inl rfl, Or.inl rfl, Or.inl rfl, trivial⟩ ?_
                    exact ih _ _ (by omega) (by first | exact crP_1 hk.1 ha (by unfold crsP; omega) | exact crP_0 hk.1 ha (by unfold crsP; omega)) (by omega)
                  · refine q_aload_n (j := 0) hA rfl dX0_crossedBy_131 ?_
                    refine q_getR hA f_X0_22 dX0_crossedBy_132 sx_247 (by decide) fx_247_2 ?_
                    refine q_iload_n (j := 3) hA rfl dX0_crossedBy_135 ?_
                    refine q_iald (x := D 256 k) hA dX0_crossedBy_136 sx_256 (by omega) (by decide) rfl ?_
                    refine q_aload_n (j := 0) hA rfl dX0_crossedBy_137 ?_
                    refine q_getR hA f_X0_22 dX0_crossedBy_138 sx_247 (by decide) fx_247_2 ?_
                    refine q_iload_n (j := 1) hA rfl dX0_crossedBy_141 ?_
                    refine q_iald (x := D 256 i) hA dX0_crossedBy_142 sx_256 (by omega) (by decide) rfl ?_
                    refine q_icmp_ne (tgt := 150) hA (by omega) (by omega) dX0_crossedBy_143 (by decide) (fun h143 => ?_) (fun h143 => ?_)
                    · refine q_iconst hA dX0_crossedBy_150 ?_
                      refine q_istore (j := 6) (lo2 := [vR 247, vI i, vI acc, vI k, vI 0, vI 1, vI 0]) hA dX0_crossedBy_151 (by decide) rfl rfl ?_
                      refine q_iload (j := 6) hA rfl dX0_crossedBy_153 ?_
                      refine q_if_ne (tgt := 171) hA (by decide) dX0_crossedBy_155 (by decide) (fun h155 => absurd h155 (by decide)) (fun h155 => ?_)
                      refine q_iload (j := 4) hA rfl dX0_crossedBy_158 ?_
                      refine q_iload (j := 5) hA rfl dX0_crossedBy_160 ?_
                      refine q_icmp_eq (tgt := 171) hA (by decide) (by decide) dX0_crossedBy_162 (by decide) (fun h162 => absurd h162 (by decide)) (fun h162 => ?_)
                      refine q_iload_n (j := 2) hA rfl dX0_crossedBy_165 ?_
                      refine q_iconst hA dX0_crossedBy_166 ?_
                      refine q_iload_n (j := 3) hA rfl dX0_crossedBy_167 ?_
                      refine q_ishl hA dX0_crossedBy_168 ?_
                      refine q_ior hA dX0_crossedBy_169 ?_
                      rw [show iOr acc (iShl 1 k) = sb acc k from orShl (m := 20) (by omega) (by omega) (by omega)]
                      refine q_istore_n (j := 2) (lo2 := [vR 247, vI i, vI (sb acc k), vI k, vI 0, vI 1, vI 0]) hA dX0_crossedBy_170 (by decide) rfl rfl ?_
                      refine q_iinc (j := 3) (lo2 := [vR 247, vI i, vI (sb acc k), vI (k + 1), vI 0, vI 1, vI 0]) hA dX0_crossedBy_171 rfl (by decide) rfl rfl ?_
                      refine q_goto (tgt := 4) hA dX0_crossedBy_174 (by decide) ?_
                      refine q_fgt (lo2 := [vR 247, vI i, vI (sb acc k), vI (k + 1), vN, vN, vN]) hA ⟨Or.inr rfl, Or.inr rfl, Or.inr rfl, Or.inr rfl, Or.inl rfl, Or.inl rfl, Or.inl rfl, trivial⟩ ?_
                      exact ih _ _ (by omega) (by first | exact crP_1 hk.1 ha (by unfold crsP; omega) | exact crP_0 hk.1 ha (by unfold crsP; omega)) (by omega)
                    · refine q_iconst hA dX0_crossedBy_146 ?_
                      refine q_goto (tgt := 151) hA dX0_crossedBy_147 (by decide) ?_
                      refine q_istore (j := 6) (lo2 := [vR 247, vI i, vI acc, vI k, vI 0, vI 1, vI 1]) hA dX0_crossedBy_151 (by decide) rfl rfl ?_
                      refine q_iload (j := 6) hA rfl dX0_crossedBy_153 ?_
                      refine q_if_ne (tgt := 171) hA (by decide) dX0_crossedBy_155 (by decide) (fun h155 => ?_) (fun h155 => absurd h155 (by decide))
                      refine q_iinc (j := 3) (lo2 := [vR 247, vI i, vI acc, vI (k + 1), vI 0, vI 1, vI 1]) hA dX0_crossedBy_171 rfl (by decide) rfl rfl ?_
                      refine q_goto (tgt := 4) hA dX0_crossedBy_174 (by decide) ?_
                      refine q_fgt (lo2 := [vR 247, vI i, vI acc, vI (k + 1), vN, vN, vN]) hA ⟨Or.inr rfl, Or.inr rfl, Or.inr rfl, Or.inr rfl, Or.inl rfl, Or.inl rfl, Or.inl rfl, trivial⟩ ?_
                      exact ih _ _ (by omega) (by first | exact crP_1 hk.1 ha (by unfold crsP; omega) | exact crP_0 hk.1 ha (by unfold crsP; omega)) (by omega)
        · refine q_iconst hA dX0_crossedBy_42 ?_
          refine q_goto (tgt := 47) hA dX0_crossedBy_43 (by decide) ?_
          refine q_istore (j := 4) (lo2 := [vR 247, vI i, vI acc, vI k, vI 1, vN, vN]) hA dX0_crossedBy_47 (by decide) rfl rfl ?_
          refine q_aload_n (j := 0) hA rfl dX0_crossedBy_49 ?_
          refine q_getR hA f_X0_22 dX0_crossedBy_50 sx_247 (by decide) fx_247_2 ?_
          refine q_iload_n (j := 3) hA rfl dX0_crossedBy_53 ?_
          refine q_iald (x := D 256 k) hA dX0_crossedBy_54 sx_256 (by omega) (by decide) rfl ?_
          refine q_aload_n (j := 0) hA rfl dX0_crossedBy_55 ?_
          refine q_getR hA f_X0_18 dX0_crossedBy_56 sx_247 (by decide) fx_247_1 ?_
          refine q_iload_n (j := 1) hA rfl dX0_crossedBy_59 ?_
          refine q_iald (x := D 255 i) hA dX0_crossedBy_60 sx_255 (by omega) (by decide) rfl ?_
          refine q_icmp_le (tgt := 83) hA (by omega) (by omega) dX0_crossedBy_61 (by decide) (fun h61 => ?_) (fun h61 => ?_)
          · refine q_iconst hA dX0_crossedBy_83 ?_
            refine q_istore (j := 5) (lo2 := [vR 247, vI i, vI acc, vI k, vI 1, vI 0, vN]) hA dX0_crossedBy_84 (by decide) rfl rfl ?_
            refine q_aload_n (j := 0) hA rfl dX0_crossedBy_86 ?_
            refine q_getR hA f_X0_18 dX0_crossedBy_87 sx_247 (by decide) fx_247_1 ?_
            refine q_iload_n (j := 3) hA rfl dX0_crossedBy_90 ?_
            refine q_iald (x := D 255 k) hA dX0_crossedBy_91 sx_255 (by omega) (by decide) rfl ?_
            refine q_aload_n (j := 0) hA rfl dX0_crossedBy_92 ?_
            refine q_getR hA f_X0_18 dX0_crossedBy_93 sx_247 (by decide) fx_247_1 ?_
            refine q_iload_n (j := 1) hA rfl dX0_crossedBy_96 ?_
            refine q_iald (x := D 255 i) hA dX0_crossedBy_97 sx_255 (by omega) (by decide) rfl ?_
            refine q_icmp_eq (tgt := 146) hA (by omega) (by omega) dX0_crossedBy_98 (by decide) (fun h98 => ?_) (fun h98 => ?_)
            · refine q_iconst hA dX0_crossedBy_146 ?_
              refine q_goto (tgt := 151) hA dX0_crossedBy_147 (by decide) ?_
              refine q_istore (j := 6) (lo2 := [vR 247, vI i, vI acc, vI k, vI 1, vI 0, vI 1]) hA dX0_crossedBy_151 (by decide) rfl rfl ?_
              refine q_iload (j := 6) hA rfl dX0_crossedBy_153 ?_
              refine q_if_ne (tgt := 171) hA (by decide) dX0_crossedBy_155 (by decide) (fun h155 => ?_) (fun h155 => absurd h155 (by decide))
              refine q_iinc (j := 3) (lo2 := [vR 247, vI i, vI acc, vI (k + 1), vI 1, vI 0, vI 1]) hA dX0_crossedBy_171 rfl (by decide) rfl rfl ?_
              refine q_goto (tgt := 4) hA dX0_crossedBy_174 (by decide) ?_
              refine q_fgt (lo2 := [vR 247, vI i, vI acc, vI (k + 1), vN, vN, vN]) hA ⟨Or.inr rfl, Or.inr rfl, Or.inr rfl, Or.inr rfl, Or.inl rfl, Or.inl rfl, Or.inl rfl, trivial⟩ ?_
              exact ih _ _ (by omega) (by first | exact crP_1 hk.1 ha (by unfold crsP; omega) | exact crP_0 hk.1 ha (by unfold crsP; omega)) (by omega)
            · refine q_aload_n (j := 0) hA rfl dX0_crossedBy_101 ?_
              refine q_getR hA f_X0_18 dX0_crossedBy_102 sx_247 (by decide) fx_247_1 ?_
              refine q_iload_n (j := 3) hA rfl dX0_crossedBy_105 ?_
              refine q_iald (x := D 255 k) hA dX0_crossedBy_106 sx_255 (by omega) (by decide) rfl ?_
              refine q_aload_n (j := 0) hA rfl dX0_crossedBy_107 ?_
              refine q_getR hA f_X0_22 dX0_crossedBy_108 sx_247 (by decide) fx_247_2 ?_
              refine q_iload_n (j := 1) hA rfl dX0_crossedBy_111 ?_
              refine q_iald (x := D 256 i) hA dX0_crossedBy_112 sx_256 (by omega) (by decide) rfl ?_
              refine q_icmp_eq (tgt := 146) hA (by omega) (by omega) dX0_crossedBy_113 (by decide) (fun h113 => ?_) (fun h113 => ?_)
              · refine q_iconst hA dX0_crossedBy_146 ?_
                refine q_goto (tgt := 151) hA dX0_crossedBy_147 (by decide) ?_
                refine q_istore (j := 6) (lo2 := [vR 247, vI i, vI acc, vI k, vI 1, vI 0, vI 1]) hA dX0_crossedBy_151 (by decide) rfl rfl ?_
                refine q_iload (j := 6) hA rfl dX0_crossedBy_153 ?_
                refine q_if_ne (tgt := 171) hA (by decide) dX0_crossedBy_155 (by decide) (fun h155 => ?_) (fun h155 => absurd h155 (by decide))
                refine q_iinc (j := 3) (lo2 := [vR 247, vI i, vI acc, vI (k + 1), vI 1, vI 0, vI 1]) hA dX0_crossedBy_171 rfl (by decide) rfl rfl ?_
                refine q_goto (tgt := 4) hA dX0_crossedBy_174 (by decide) ?_
                refine q_fgt (lo2 := [vR 247, vI i, vI acc, vI (k + 1), vN, vN, vN]) hA ⟨Or.inr rfl, Or.inr rfl, Or.inr rfl, Or.inr rfl, Or.inl rfl, Or.inl rfl, Or.inl rfl, trivial⟩ ?_
                exact ih _ _ (by omega) (by first | exact crP_1 hk.1 ha (by unfold crsP; omega) | exact crP_0 hk.1 ha (by unfold crsP; omega)) (by omega)
              · refine q_aload_n (j := 0) hA rfl dX0_crossedBy_116 ?_
                refine q_getR hA f_X0_22 dX0_crossedBy_117 sx_247 (by decide) fx_247_2 ?_
                refine q_iload_n (j := 3) hA rfl dX0_crossedBy_120 ?_
                refine q_iald (x := D 256 k) hA dX0_crossedBy_121 sx_256 (by omega) (by decide) rfl ?_
                refine q_aload_n (j := 0) hA rfl dX0_crossedBy_122 ?_
                refine q_getR hA f_X0_18 dX0_crossedBy_123 sx_247 (by decide) fx_247_1 ?_
                refine q_iload_n (j := 1) hA rfl dX0_crossedBy_126 ?_
                refine q_iald (x := D 255 i) hA dX0_crossedBy_127 sx_255 (by omega) (by decide) rfl ?_
                refine q_icmp_eq (tgt := 146) hA (by omega) (by omega) dX0_crossedBy_128 (by decide) (fun h128 => ?_) (fun h128 => ?_)
                · refine q_iconst hA dX0_crossedBy_146 ?_
                  refine q_goto (tgt := 151) hA dX0_crossedBy_147 (by decide) ?_
                  refine q_istore (j := 6) (lo2 := [vR 247, vI i, vI acc, vI k, vI 1, vI 0, vI 1]) hA dX0_crossedBy_151 (by decide) rfl rfl ?_
                  refine q_iload (j := 6) hA rfl dX0_crossedBy_153 ?_
                  refine q_if_ne (tgt := 171) hA (by decide) dX0_crossedBy_155 (by decide) (fun h155 => ?_) (fun h155 => absurd h155 (by decide))
                  refine q_iinc (j := 3) (lo2 := [vR 247, vI i, vI acc, vI (k + 1), vI 1, vI 0, vI 1]) hA dX0_crossedBy_171 rfl (by decide) rfl rfl ?_
                  refine q_goto (tgt := 4) hA dX0_crossedBy_174 (by decide) ?_
                  refine q_fgt (lo2 := [vR 247, vI i, vI acc, vI (k + 1), vN, vN, vN]) hA ⟨Or.inr rfl, Or.inr rfl, Or.inr rfl, Or.inr rfl, Or.inl rfl, Or.inl rfl, Or.inl rfl, trivial⟩ ?_
                  exact ih _ _ (by omega) (by first | exact crP_1 hk.1 ha (by unfold crsP; omega) | exact crP_0 hk.1 ha (by unfold crsP; omega)) (by omega)
                · refine q_aload_n (j := 0) hA rfl dX0_crossedBy_131 ?_
                  refine q_getR hA f_X0_22 dX0_crossedBy_132 sx_247 (by decide) fx_247_2 ?_
                  refine q_iload_n (j := 3) hA rfl dX0_crossedBy_135 ?_
                  refine q_iald (x := D 256 k) hA dX0_crossedBy_136 sx_256 (by omega) (by decide) rfl ?_
                  refine q_aload_n (j := 0) hA rfl dX0_crossedBy_137 ?_
                  refine q_getR hA f_X0_22 dX0_crossedBy_138 sx_247 (by decide) fx_247_2 ?_
                  refine q_iload_n (j := 1) hA rfl dX0_crossedBy_141 ?_
                  refine q_iald (x := D 256 i) hA dX0_crossedBy_142 sx_256 (by omega) (by decide) rfl ?_
                  refine q_icmp_ne (tgt := 150) hA (by omega) (by omega) dX0_crossedBy_143 (by decide) (fun h143 => ?_) (fun h143 => ?_)
                  · refine q_iconst hA dX0_crossedBy_150 ?_
                    refine q_istore (j := 6) (lo2 := [vR 247, vI i, vI acc, vI k, vI 1, vI 0, vI 0]) hA dX0_crossedBy_151 (by decide) rfl rfl ?_
                    refine q_iload (j := 6) hA rfl dX0_crossedBy_153 ?_
                    refine q_if_ne (tgt := 171) hA (by decide) dX0_crossedBy_155 (by decide) (fun h155 => absurd h155 (by decide)) (fun h155 => ?_)
                    refine q_iload (j := 4) hA rfl dX0_crossedBy_158 ?_
                    refine q_iload (j := 5) hA rfl dX0_crossedBy_160 ?_
                    refine q_icmp_eq (tgt := 171) hA (by decide) (by decide) dX0_crossedBy_162 (by decide) (fun h162 => absurd h162 (by decide)) (fun h162 => ?_)
                    refine q_iload_n (j := 2) hA rfl dX0_crossedBy_165 ?_
                    refine q_iconst hA dX0_crossedBy_166 ?_
                    refine q_iload_n (j := 3) hA rfl dX0_crossedBy_167 ?_
                    refine q_ishl hA dX0_crossedBy_168 ?_
                    refine q_ior hA dX0_crossedBy_169 ?_
                    rw [show iOr acc (iShl 1 k) = sb acc k from orShl (m := 20) (by omega) (by omega) (by omega)]
                    refine q_istore_n (j := 2) (lo2 := [vR 247, vI i, vI (sb acc k), vI k, vI 1, vI 0, vI 0]) hA dX0_crossedBy_170 (by decide) rfl rfl ?_
                    refine q_iinc (j := 3) (lo2 := [vR 247, vI i, vI (sb acc k), vI (k + 1), vI 1, vI 0, vI 0]) hA dX0_crossedBy_171 rfl (by decide) rfl rfl ?_
                    refine q_goto (tgt := 4) hA dX0_crossedBy_174 (by decide) ?_
                    refine q_fgt (lo2 := [vR 247, vI i, vI (sb acc k), vI (k + 1), vN, vN, vN]) hA ⟨Or.inr rfl, Or.inr rfl, Or.inr rfl, Or.inr rfl, Or.inl rfl, Or.inl rfl, Or.inl rfl, trivial⟩ ?_
                    exact ih _ _ (by omega) (by first | exact crP_1 hk.1 ha (by unfold crsP; omega) | exact crP_0 hk.1 ha (by unfold crsP; omega)) (by omega)
                  · refine q_iconst hA dX0_crossedBy_146 ?_
                    refine q_goto (tgt := 151) hA dX0_crossedBy_147 (by decide) ?_
                    refine q_istore (j := 6) (lo2 := [vR 247, vI i, vI acc, vI k, vI 1, vI 0, vI 1]) hA dX0_crossedBy_151 (by decide) rfl rfl ?_
                    refine q_iload (j := 6) hA rfl dX0_crossedBy_153 ?_
                    refine q_if_ne (tgt := 171) hA (by decide) dX0_crossedBy_155 (by decide) (fun h155 => ?_) (fun h155 => absurd h155 (by decide))
                    refine q_iinc (j := 3) (lo2 := [vR 247, vI i, vI acc, vI (k + 1), vI 1, vI 0, vI 1]) hA dX0_crossedBy_171 rfl (by decide) rfl rfl ?_
                    refine q_goto (tgt := 4) hA dX0_crossedBy_174 (by decide) ?_
                    refine q_fgt (lo2 := [vR 247, vI i, vI acc, vI (k + 1), vN, vN, vN]) hA ⟨Or.inr rfl, Or.inr rfl, Or.inr rfl, Or.inr rfl, Or.inl rfl, Or.inl rfl, Or.inl rfl, trivial⟩ ?_
                    exact ih _ _ (by omega) (by first | exact crP_1 hk.1 ha (by unfold crsP; omega) | exact crP_0 hk.1 ha (by unfold crsP; omega)) (by omega)
          · refine q_aload_n (j := 0) hA rfl dX0_crossedBy_64 ?_
            refine q_getR hA f_X0_22 dX0_crossedBy_65 sx_247 (by decide) fx_247_2 ?_
            refine q_iload_n (j := 3) hA rfl dX0_crossedBy_68 ?_
            refine q_iald (x := D 256 k) hA dX0_crossedBy_69 sx_256 (by omega) (by decide) rfl ?_
            refine q_aload_n (j := 0) hA rfl dX0_crossedBy_70 ?_
            refine q_getR hA f_X0_22 dX0_crossedBy_71 sx_247 (by decide) fx_247_2 ?_
            refine q_iload_n (j := 1) hA rfl dX0_crossedBy_74 ?_
            refine q_iald (x := D 256 i) hA dX0_crossedBy_75 sx_256 (by omega) (by decide) rfl ?_
            refine q_icmp_ge (tgt := 83) hA (by omega) (by omega) dX0_crossedBy_76 (by decide) (fun h76 => ?_) (fun h76 => ?_)
            · refine q_iconst hA dX0_crossedBy_83 ?_
              refine q_istore (j := 5) (lo2 := [vR 247, vI i, vI acc, vI k, vI 1, vI 0, vN]) hA dX0_crossedBy_84 (by decide) rfl rfl ?_
              refine q_aload_n (j := 0) hA rfl dX0_crossedBy_86 ?_
              refine q_getR hA f_X0_18 dX0_crossedBy_87 sx_247 (by decide) fx_247_1 ?_
              refine q_iload_n (j := 3) hA rfl dX0_crossedBy_90 ?_
              refine q_iald (x := D 255 k) hA dX0_crossedBy_91 sx_255 (by omega) (by decide) rfl ?_
              refine q_aload_n (j := 0) hA rfl dX0_crossedBy_92 ?_
              refine q_getR hA f_X0_18 dX0_crossedBy_93 sx_247 (by decide) fx_247_1 ?_
              refine q_iload_n (j := 1) hA rfl dX0_crossedBy_96 ?_
              refine q_iald (x := D 255 i) hA dX0_crossedBy_97 sx_255 (by omega) (by decide) rfl ?_
              refine q_icmp_eq (tgt := 146) hA (by omega) (by omega) dX0_crossedBy_98 (by decide) (fun h98 => ?_) (fun h98 => ?_)
              · refine q_iconst hA dX0_crossedBy_146 ?_
                refine q_goto (tgt := 151) hA dX0_crossedBy_147 (by decide) ?_
                refine q_istore (j := 6) (lo2 := [vR 247, vI i, vI acc, vI k, vI 1, vI 0, vI 1]) hA dX0_crossedBy_151 (by decide) rfl rfl ?_
                refine q_iload (j := 6) hA rfl dX0_crossedBy_153 ?_
                refine q_if_ne (tgt := 171) hA (by decide) dX0_crossedBy_155 (by decide) (fun h155 => ?_) (fun h155 => absurd h155 (by decide))
                refine q_iinc (j := 3) (lo2 := [vR 247, vI i, vI acc, vI (k + 1), vI 1, vI 0, vI 1]) hA dX0_crossedBy_171 rfl (by decide) rfl rfl ?_
                refine q_goto (tgt := 4) hA dX0_crossedBy_174 (by decide) ?_
                refine q_fgt (lo2 := [vR 247, vI i, vI acc, vI (k + 1), vN, vN, vN]) hA ⟨Or.inr rfl, Or.inr rfl, Or.inr rfl, Or.inr rfl, Or.inl rfl, Or.inl rfl, Or.inl rfl, trivial⟩ ?_
                exact ih _ _ (by omega) (by first | exact crP_1 hk.1 ha (by unfold crsP; omega) | exact crP_0 hk.1 ha (by unfold crsP; omega)) (by omega)
              · refine q_aload_n (j := 0) hA rfl dX0_crossedBy_101 ?_
                refine q_getR hA f_X0_18 dX0_crossedBy_102 sx_247 (by decide) fx_247_1 ?_
                refine q_iload_n (j := 3) hA rfl dX0_crossedBy_105 ?_
                refine q_iald (x := D 255 k) hA dX0_crossedBy_106 sx_255 (by omega) (by decide) rfl ?_
                refine q_aload_n (j := 0) hA rfl dX0_crossedBy_107 ?_
                refine q_getR hA f_X0_22 dX0_crossedBy_108 sx_247 (by decide) fx_247_2 ?_
                refine q_iload_n (j := 1) hA rfl dX0_crossedBy_111 ?_
                refine q_iald (x := D 256 i) hA dX0_crossedBy_112 sx_256 (by omega) (by decide) rfl ?_
                refine q_icmp_eq (tgt := 146) hA (by omega) (by omega) dX0_crossedBy_113 (by decide) (fun h113 => ?_) (fun h113 => ?_)
                · refine q_iconst hA dX0_crossedBy_146 ?_
                  refine q_goto (tgt := 151) hA dX0_crossedBy_147 (by decide) ?_
                  refine q_istore (j := 6) (lo2 := [vR 247, vI i, vI acc, vI k, vI 1, vI 0, vI 1]) hA dX0_crossedBy_151 (by decide) rfl rfl ?_
                  refine q_iload (j := 6) hA rfl dX0_crossedBy_153 ?_
                  refine q_if_ne (tgt := 171) hA (by decide) dX0_crossedBy_155 (by decide) (fun h155 => ?_) (fun h155 => absurd h155 (by decide))
                  refine q_iinc (j := 3) (lo2 := [vR 247, vI i, vI acc, vI (k + 1), vI 1, vI 0, vI 1]) hA dX0_crossedBy_171 rfl (by decide) rfl rfl ?_
                  refine q_goto (tgt := 4) hA dX0_crossedBy_174 (by decide) ?_
                  refine q_fgt (lo2 := [vR 247, vI i, vI acc, vI (k + 1), vN, vN, vN]) hA ⟨Or.inr rfl, Or.inr rfl, Or.inr rfl, Or.inr rfl, Or.inl rfl, Or.inl rfl, Or.inl rfl, trivial⟩ ?_
                  exact ih _ _ (by omega) (by first | exact crP_1 hk.1 ha (by unfold crsP; omega) | exact crP_0 hk.1 ha (by unfold crsP; omega)) (by omega)
                · refine q_aload_n (j := 0) hA rfl dX0_crossedBy_116 ?_
                  refine q_getR hA f_X0_22 dX0_crossedBy_117 sx_247 (by decide) fx_247_2 ?_
                  refine q_iload_n (j := 3) hA rfl dX0_crossedBy_120 ?_
                  refine q_iald (x := D 256 k) hA dX0_crossedBy_121 sx_256 (by omega) (by decide) rfl ?_
                  refine q_aload_n (j := 0) hA rfl dX0_crossedBy_122 ?_
                  refine q_getR hA f_X0_18 dX0_crossedBy_123 sx_247 (by decide) fx_247_1 ?_
                  refine q_iload_n (j := 1) hA rfl dX0_crossedBy_126 ?_
                  refine q_iald (x := D 255 i) hA dX0_crossedBy_127 sx_255 (by omega) (by decide) rfl ?_
                  refine q_icmp_eq (tgt := 146) hA (by omega) (by omega) dX0_crossedBy_128 (by decide) (fun h128 => ?_) (fun h128 => ?_)
                  · refine q_iconst hA dX0_crossedBy_146 ?_
                    refine q_goto (tgt := 151) hA dX0_crossedBy_147 (by decide) ?_
                    refine q_istore (j := 6) (lo2 := [vR 247, vI i, vI acc, vI k, vI 1, vI 0, vI 1]) hA dX0_crossedBy_151 (by decide) rfl rfl ?_
                    refine q_iload (j := 6) hA rfl dX0_crossedBy_153 ?_
                    refine q_if_ne (tgt := 171) hA (by decide) dX0_crossedBy_155 (by decide) (fun h155 => ?_) (fun h155 => absurd h155 (by decide))
                    refine q_iinc (j := 3) (lo2 := [vR 247, vI i, vI acc, vI (k + 1), vI 1, vI 0, vI 1]) hA dX0_crossedBy_171 rfl (by decide) rfl rfl ?_
                    refine q_goto (tgt := 4) hA dX0_crossedBy_174 (by decide) ?_
                    refine q_fgt (lo2 := [vR 247, vI i, vI acc, vI (k + 1), vN, vN, vN]) hA ⟨Or.inr rfl, Or.inr rfl, Or.inr rfl, Or.inr rfl, Or.inl rfl, Or.inl rfl, Or.inl rfl, trivial⟩ ?_
                    exact ih _ _ (by omega) (by first | exact crP_1 hk.1 ha (by unfold crsP; omega) | exact crP_0 hk.1 ha (by unfold crsP; omega)) (by omega)
                  · refine q_aload_n (j := 0) hA rfl dX0_crossedBy_131 ?_
                    refine q_getR hA f_X0_22 dX0_crossedBy_132 sx_247 (by decide) fx_247_2 ?_
                    refine q_iload_n (j := 3) hA rfl dX0_crossedBy_135 ?_
                    refine q_iald (x := D 256 k) hA dX0_crossedBy_136 sx_256 (by omega) (by decide) rfl ?_
                    refine q_aload_n (j := 0) hA rfl dX0_crossedBy_137 ?_
                    refine q_getR hA f_X0_22 dX0_crossedBy_138 sx_247 (by decide) fx_247_2 ?_
                    refine q_iload_n (j := 1) hA rfl dX0_crossedBy_141 ?_
                    refine q_iald (x := D 256 i) hA dX0_crossedBy_142 sx_256 (by omega) (by decide) rfl ?_
                    refine q_icmp_ne (tgt := 150) hA (by omega) (by omega) dX0_crossedBy_143 (by decide) (fun h143 => ?_) (fun h143 => ?_)
                    · refine q_iconst hA dX0_crossedBy_150 ?_
                      refine q_istore (j := 6) (lo2 := [vR 247, vI i, vI acc, vI k, vI 1, vI 0, vI 0]) hA dX0_crossedBy_151 (by decide) rfl rfl ?_
                      refine q_iload (j := 6) hA rfl dX0_crossedBy_153 ?_
                      refine q_if_ne (tgt := 171) hA (by decide) dX0_crossedBy_155 (by decide) (fun h155 => absurd h155 (by decide)) (fun h155 => ?_)
                      refine q_iload (j := 4) hA rfl dX0_crossedBy_158 ?_
                      refine q_iload (j := 5) hA rfl dX0_crossedBy_160 ?_
                      refine q_icmp_eq (tgt := 171) hA (by decide) (by decide) dX0_crossedBy_162 (by decide) (fun h162 => absurd h162 (by decide)) (fun h162 => ?_)
                      refine q_iload_n (j := 2) hA rfl dX0_crossedBy_165 ?_
                      refine q_iconst hA dX0_crossedBy_166 ?_
                      refine q_iload_n (j := 3) hA rfl dX0_crossedBy_167 ?_
                      refine q_ishl hA dX0_crossedBy_168 ?_
                      refine q_ior hA dX0_crossedBy_169 ?_
                      rw [show iOr acc (iShl 1 k) = sb acc k from orShl (m := 20) (by omega) (by omega) (by omega)]
                      refine q_istore_n (j := 2) (lo2 := [vR 247, vI i, vI (sb acc k), vI k, vI 1, vI 0, vI 0]) hA dX0_crossedBy_170 (by decide) rfl rfl ?_
                      refine q_iinc (j := 3) (lo2 := [vR 247, vI i, vI (sb acc k), vI (k + 1), vI 1, vI 0, vI 0]) hA dX0_crossedBy_171 rfl (by decide) rfl rfl ?_
                      refine q_goto (tgt := 4) hA dX0_crossedBy_174 (by decide) ?_
                      refine q_fgt (lo2 := [vR 247, vI i, vI (sb acc k), vI (k + 1), vN, vN, vN]) hA ⟨Or.inr rfl, Or.inr rfl, Or.inr rfl, Or.inr rfl, Or.inl rfl, Or.inl rfl, Or.inl rfl, trivial⟩ ?_
                      exact ih _ _ (by omega) (by first | exact crP_1 hk.1 ha (by unfold crsP; omega) | exact crP_0 hk.1 ha (by unfold crsP; omega)) (by omega)
                    · refine q_iconst hA dX0_crossedBy_146 ?_
                      refine q_goto (tgt := 151) hA dX0_crossedBy_147 (by decide) ?_
                      refine q_istore (j := 6) (lo2 := [vR 247, vI i, vI acc, vI k, vI 1, vI 0, vI 1]) hA dX0_crossedBy_151 (by decide) rfl rfl ?_
                      refine q_iload (j := 6) hA rfl dX0_crossedBy_153 ?_
                      refine q_if_ne (tgt := 171) hA (by decide) dX0_crossedBy_155 (by decide) (fun h155 => ?_) (fun h155 => absurd h155 (by decide))
                      refine q_iinc (j := 3) (lo2 := [vR 247, vI i, vI acc, vI (k + 1), vI 1, vI 0, vI 1]) hA dX0_crossedBy_171 rfl (by decide) rfl rfl ?_
                      refine q_goto (tgt := 4) hA dX0_crossedBy_174 (by decide) ?_
                      refine q_fgt (lo2 := [vR 247, vI i, vI acc, vI (k + 1), vN, vN, vN]) hA ⟨Or.inr rfl, Or.inr rfl, Or.inr rfl, Or.inr rfl, Or.inl rfl, Or.inl rfl, Or.inl rfl, trivial⟩ ?_
                      exact ih _ _ (by omega) (by first | exact crP_1 hk.1 ha (by unfold crsP; omega) | exact crP_0 hk.1 ha (by unfold crsP; omega)) (by omega)
            · refine q_iconst hA dX0_crossedBy_79 ?_
              refine q_goto (tgt := 84) hA dX0_crossedBy_80 (by decide) ?_
              refine q_istore (j := 5) (lo2 := [vR 247, vI i, vI acc, vI k, vI 1, vI 1, vN]) hA dX0_crossedBy_84 (by decide) rfl rfl ?_
              refine q_aload_n (j := 0) hA rfl dX0_crossedBy_86 ?_
              refine q_getR hA f_X0_18 dX0_crossedBy_87 sx_247 (by decide) fx_247_1 ?_
              refine q_iload_n (j := 3) hA rfl dX0_crossedBy_90 ?_
              refine q_iald (x := D 255 k) hA dX0_crossedBy_91 sx_255 (by omega) (by decide) rfl ?_
              refine q_aload_n (j := 0) hA rfl dX0_crossedBy_92 ?_
              refine q_getR hA f_X0_18 dX0_crossedBy_93 sx_247 (by decide) fx_247_1 ?_
              refine q_iload_n (j := 1) hA rfl dX0_crossedBy_96 ?_
              refine q_iald (x := D 255 i) hA dX0_crossedBy_97 sx_255 (by omega) (by decide) rfl ?_
              refine q_icmp_eq (tgt := 146) hA (by omega) (by omega) dX0_crossedBy_98 (by decide) (fun h98 => ?_) (fun h98 => ?_)
              · refine q_iconst hA dX0_crossedBy_146 ?_
                refine q_goto (tgt := 151) hA dX0_crossedBy_147 (by decide) ?_
                refine q_istore (j := 6) (lo2 := [vR 247, vI i, vI acc, vI k, vI 1, vI 1, vI 1]) hA dX0_crossedBy_151 (by decide) rfl rfl ?_
                refine q_iload (j := 6) hA rfl dX0_crossedBy_153 ?_
                refine q_if_ne (tgt := 171) hA (by decide) dX0_crossedBy_155 (by decide) (fun h155 => ?_) (fun h155 => absurd h155 (by decide))
                refine q_iinc (j := 3) (lo2 := [vR 247, vI i, vI acc, vI (k + 1), vI 1, vI 1, vI 1]) hA dX0_crossedBy_171 rfl (by decide) rfl rfl ?_
                refine q_goto (tgt := 4) hA dX0_crossedBy_174 (by decide) ?_
                refine q_fgt (lo2 := [vR 247, vI i, vI acc, vI (k + 1), vN, vN, vN]) hA ⟨Or.inr rfl, Or.inr rfl, Or.inr rfl, Or.inr rfl, Or.inl rfl, Or.inl rfl, Or.inl rfl, trivial⟩ ?_
                exact ih _ _ (by omega) (by first | exact crP_1 hk.1 ha (by unfold crsP; omega) | exact crP_0 hk.1 ha (by unfold crsP; omega)) (by omega)
              · refine q_aload_n (j := 0) hA rfl dX0_crossedBy_101 ?_
                refine q_getR hA f_X0_18 dX0_crossedBy_102 sx_247 (by decide) fx_247_1 ?_
                refine q_iload_n (j := 3) hA rfl dX0_crossedBy_105 ?_
                refine q_iald (x := D 255 k) hA dX0_crossedBy_106 sx_255 (by omega) (by decide) rfl ?_
                refine q_aload_n (j := 0) hA rfl dX0_crossedBy_107 ?_
                refine q_getR hA f_X0_22 dX0_crossedBy_108 sx_247 (by decide) fx_247_2 ?_
                refine q_iload_n (j := 1) hA rfl dX0_crossedBy_111 ?_
                refine q_iald (x := D 256 i) hA dX0_crossedBy_112 sx_256 (by omega) (by decide) rfl ?_
                refine q_icmp_eq (tgt := 146) hA (by omega) (by omega) dX0_crossedBy_113 (by decide) (fun h113 => ?_) (fun h113 => ?_)
                · refine q_iconst hA dX0_crossedBy_146 ?_
                  refine q_goto (tgt := 151) hA dX0_crossedBy_147 (by decide) ?_
                  refine q_istore (j := 6) (lo2 := [vR 247, vI i, vI acc, vI k, vI 1, vI 1, vI 1]) hA dX0_crossedBy_151 (by decide) rfl rfl ?_
                  refine q_iload (j := 6) hA rfl dX0_crossedBy_153 ?_
                  refine q_if_ne (tgt := 171) hA (by decide) dX0_crossedBy_155 (by decide) (fun h155 => ?_) (fun h155 => absurd h155 (by decide))
                  refine q_iinc (j := 3) (lo2 := [vR 247, vI i, vI acc, vI (k + 1), vI 1, vI 1, vI 1]) hA dX0_crossedBy_171 rfl (by decide) rfl rfl ?_
                  refine q_goto (tgt := 4) hA dX0_crossedBy_174 (by decide) ?_
                  refine q_fgt (lo2 := [vR 247, vI i, vI acc, vI (k + 1), vN, vN, vN]) hA ⟨Or.inr rfl, Or.inr rfl, Or.inr rfl, Or.inr rfl, Or.inl rfl, Or.inl rfl, Or.inl rfl, trivial⟩ ?_
                  exact ih _ _ (by omega) (by first | exact crP_1 hk.1 ha (by unfold crsP; omega) | exact crP_0 hk.1 ha (by unfold crsP; omega)) (by omega)
                · refine q_aload_n (j := 0) hA rfl dX0_crossedBy_116 ?_
                  refine q_getR hA f_X0_22 dX0_crossedBy_117 sx_247 (by decide) fx_247_2 ?_
                  refine q_iload_n (j := 3) hA rfl dX0_crossedBy_120 ?_
                  refine q_iald (x := D 256 k) hA dX0_crossedBy_121 sx_256 (by omega) (by decide) rfl ?_
                  refine q_aload_n (j := 0) hA rfl dX0_crossedBy_122 ?_
                  refine q_getR hA f_X0_18 dX0_crossedBy_123 sx_247 (by decide) fx_247_1 ?_
                  refine q_iload_n (j := 1) hA rfl dX0_crossedBy_126 ?_
                  refine q_iald (x := D 255 i) hA dX0_crossedBy_127 sx_255 (by omega) (by decide) rfl ?_
                  refine q_icmp_eq (tgt := 146) hA (by omega) (by omega) dX0_crossedBy_128 (by decide) (fun h128 => ?_) (fun h128 => ?_)
                  · refine q_iconst hA dX0_crossedBy_146 ?_
                    refine q_goto (tgt := 151) hA dX0_crossedBy_147 (by decide) ?_
                    refine q_istore (j := 6) (lo2 := [vR 247, vI i, vI acc, vI k, vI 1, vI 1, vI 1]) hA dX0_crossedBy_151 (by decide) rfl rfl ?_
                    refine q_iload (j := 6) hA rfl dX0_crossedBy_153 ?_
                    refine q_if_ne (tgt := 171) hA (by decide) dX0_crossedBy_155 (by decide) (fun h155 => ?_) (fun h155 => absurd h155 (by decide))
                    refine q_iinc (j := 3) (lo2 := [vR 247, vI i, vI acc, vI (k + 1), vI 1, vI 1, vI 1]) hA dX0_crossedBy_171 rfl (by decide) rfl rfl ?_
                    refine q_goto (tgt := 4) hA dX0_crossedBy_174 (by decide) ?_
                    refine q_fgt (lo2 := [vR 247, vI i, vI acc, vI (k + 1), vN, vN, vN]) hA ⟨Or.inr rfl, Or.inr rfl, Or.inr rfl, Or.inr rfl, Or.inl rfl, Or.inl rfl, Or.inl rfl, trivial⟩ ?_
                    exact ih _ _ (by omega) (by first | exact crP_1 hk.1 ha (by unfold crsP; omega) | exact crP_0 hk.1 ha (by unfold crsP; omega)) (by omega)
                  · refine q_aload_n (j := 0) hA rfl dX0_crossedBy_131 ?_
                    refine q_getR hA f_X0_22 dX0_crossedBy_132 sx_247 (by decide) fx_247_2 ?_
                    refine q_iload_n (j := 3) hA rfl dX0_crossedBy_135 ?_
                    refine q_iald (x := D 256 k) hA dX0_crossedBy_136 sx_256 (by omega) (by decide) rfl ?_
                    refine q_aload_n (j := 0) hA rfl dX0_crossedBy_137 ?_
                    refine q_getR hA f_X0_22 dX0_crossedBy_138 sx_247 (by decide) fx_247_2 ?_
                    refine q_iload_n (j := 1) hA rfl dX0_crossedBy_141 ?_
                    refine q_iald (x := D 256 i) hA dX0_crossedBy_142 sx_256 (by omega) (by decide) rfl ?_
                    refine q_icmp_ne (tgt := 150) hA (by omega) (by omega) dX0_crossedBy_143 (by decide) (fun h143 => ?_) (fun h143 => ?_)
                    · refine q_iconst hA dX0_crossedBy_150 ?_
                      refine q_istore (j := 6) (lo2 := [vR 247, vI i, vI acc, vI k, vI 1, vI 1, vI 0]) hA dX0_crossedBy_151 (by decide) rfl rfl ?_
                      refine q_iload (j := 6) hA rfl dX0_crossedBy_153 ?_
                      refine q_if_ne (tgt := 171) hA (by decide) dX0_crossedBy_155 (by decide) (fun h155 => absurd h155 (by decide)) (fun h155 => ?_)
                      refine q_iload (j := 4) hA rfl dX0_crossedBy_158 ?_
                      refine q_iload (j := 5) hA rfl dX0_crossedBy_160 ?_
                      refine q_icmp_eq (tgt := 171) hA (by decide) (by decide) dX0_crossedBy_162 (by decide) (fun h162 => ?_) (fun h162 => absurd h162 (by decide))
                      refine q_iinc (j := 3) (lo2 := [vR 247, vI i, vI acc, vI (k + 1), vI 1, vI 1, vI 0]) hA dX0_crossedBy_171 rfl (by decide) rfl rfl ?_
                      refine q_goto (tgt := 4) hA dX0_crossedBy_174 (by decide) ?_
                      refine q_fgt (lo2 := [vR 247, vI i, vI acc, vI (k + 1), vN, vN, vN]) hA ⟨Or.inr rfl, Or.inr rfl, Or.inr rfl, Or.inr rfl, Or.inl rfl, Or.inl rfl, Or.inl rfl, trivial⟩ ?_
                      exact ih _ _ (by omega) (by first | exact crP_1 hk.1 ha (by unfold crsP; omega) | exact crP_0 hk.1 ha (by unfold crsP; omega)) (by omega)
                    · refine q_iconst hA dX0_crossedBy_146 ?_
                      refine q_goto (tgt := 151) hA dX0_crossedBy_147 (by decide) ?_
                      refine q_istore (j := 6) (lo2 := [vR 247, vI i, vI acc, vI k, vI 1, vI 1, vI 1]) hA dX0_crossedBy_151 (by decide) rfl rfl ?_
                      refine q_iload (j := 6) hA rfl dX0_crossedBy_153 ?_
                      refine q_if_ne (tgt := 171) hA (by decide) dX0_crossedBy_155 (by decide) (fun h155 => ?_) (fun h155 => absurd h155 (by decide))
                      refine q_iinc (j := 3) (lo2 := [vR 247, vI i, vI acc, vI (k + 1), vI 1, vI 1, vI 1]) hA dX0_crossedBy_171 rfl (by decide) rfl rfl ?_
                      refine q_goto (tgt := 4) hA dX0_crossedBy_174 (by decide) ?_
                      refine q_fgt (lo2 := [vR 247, vI i, vI acc, vI (k + 1), vN, vN, vN]) hA ⟨Or.inr rfl, Or.inr rfl, Or.inr rfl, Or.inr rfl, Or.inl rfl, Or.inl rfl, Or.inl rfl, trivial⟩ ?_
                      exact ih _ _ (by omega) (by first | exact crP_1 hk.1 ha (by unfold crsP; omega) | exact crP_0 hk.1 ha (by unfold crsP; omega)) (by omega)
set_option maxHeartbeats 4000000 in
set_option maxRecDepth 100000 in
theorem zX0_crossedBy {g : Gm} {l : Launch} {D : Dat} {n : Nat} (hn8 : 3 ≤ n ∧ n ≤ 8) {i : Int} (h7 : D 247 7 = ((prsN n).length : Int)) (hp : prM D 255 256 (prsN n)) (hi : 0 ≤ i ∧ i < ((prsN n).length : Int)) : CrP g l 1 mX0_crossedBy [vR 247, vI i] D (((crN n i.toNat : Nat) : Int)) := by
  unfold CrP
  refine Cr.ofI (lo0 := [vR 247, vI i, vN, vN, vN, vN, vN]) (by decide) (Nat.le_of_ble_eq_true rfl) rfl (fun J hA hR => ?_)
  have hple := prs_le (n := n) (by omega)
  refine q_iconst hA dX0_crossedBy_0 ?_
  refine q_istore_n (j := 2) (lo2 := [vR 247, vI i, vI 0, vN, vN, vN, vN]) hA dX0_crossedBy_1 (by decide) rfl rfl ?_
  refine q_iconst hA dX0_crossedBy_2 ?_
  refine q_istore_n (j := 3) (lo2 := [vR 247, vI i, vI 0, vI 0, vN, vN, vN]) hA dX0_crossedBy_3 (by decide) rfl rfl ?_
  refine zX0_crossedBy_L4 (D := D) (n := n) (i := i) hn8 h7 hp hi  hA hR 1000 _ _ (by omega) (by rfl) (by have := prs_le (n := n) (by omega); omega)
set_option maxHeartbeats 4000000 in
set_option maxRecDepth 100000 in
theorem zX0_listPairs_L22 {g : Gm} {l : Launch} {D : Dat} (ho : sOk D 248) (hn : 3 ≤ D 248 6) {a : Int} (ha : 0 ≤ a ∧ a < D 248 6) {J : JT} (hA : AX g l RX0 cX0_listPairs 3 3 J) (hR : ReV cX0_listPairs (fun D1 => D1 247 7 = ((prsN (D 248 6).toNat).length : Int) ∧ prM D1 255 256 (prsN (D 248 6).toNat) ∧ (∀ j : Nat, j < (prsN (D 248 6).toNat).length → D1 257 j = ((crN (D 248 6).toNat j : Nat) : Int)) ∧ (∀ c, c ≠ 247 → c ≠ 255 → c ≠ 256 → c ≠ 257 → D1 c = D c) ∧ ∀ j : Int, j ≠ 7 → D1 247 j = D 247 j) J) (hx : ∀ (b : Int) (P : List (Nat × Nat)) (E : Dat), (a + 2 ≤ b ∧ b ≤ D 248 6 + 1) → (E 247 7 = (P.length : Int)) → (P ++ (pBn a.toNat (D 248 6).toNat (D 248 6 - b).toNat ++ pAn (D 248 6).toNat (D 248 6 - (a + 1)).toNat) = prsN (D 248 6).toNat) → (prM E 255 256 P) → ((∀ c, c ≠ 247 → c ≠ 255 → c ≠ 256 → E c = D c) ∧ ∀ j : Int, j ≠ 7 → E 247 j = D 247 j) → (P ++ pAn (D 248 6).toNat (D 248 6 - (a + 1)).toNat = prsN (D 248 6).toNat) → J 90 [vR 247, vI a, vI b] [] E) : ∀ (fuel : Nat) (b : Int) (P : List (Nat × Nat)) (E : Dat), (a + 2 ≤ b ∧ b ≤ D 248 6 + 1) → (E 247 7 = (P.length : Int)) → (P ++ (pBn a.toNat (D 248 6).toNat (D 248 6 - b).toNat ++ pAn (D 248 6).toNat (D 248 6 - (a + 1)).toNat) = prsN (D 248 6).toNat) → (prM E 255 256 P) → ((∀ c, c ≠ 247 → c ≠ 255 → c ≠ 256 → E c = D c) ∧ ∀ j : Int, j ≠ 7 → E 247 j = D 247 j) → D 248 6 + 1 - b < (fuel : Int) → J 22 [vR 247, vI a, vI b] [] E := by
  intro fuel
  induction fuel with
  | zero => intro b P E hb hc hP hM hf hMs; exact absurd hMs (by omega)
  | succ fuel ih =>
    intro b P E hb hc hP hM hf hMs
    have hn8 := ho.n
    have e48 : E 248 6 = D 248 6 := by rw [hf.1 248 (by omega) (by omega) (by omega)]
    have oE : sOk E 248 := by unfold sOk; rw [show rowX E 248 = rowX D 248 from by unfold rowX; rw [hf.1 248 (by omega) (by omega) (by omega), hf.1 (248 + 1) (by omega) (by omega) (by omega), hf.1 (248 + 2) (by omega) (by omega) (by omega), hf.1 (248 + 3) (by omega) (by omega) (by omega), hf.1 (248 + 4) (by omega) (by omega) (by omega), hf.1 (248 + 5) (by omega) (by omega) (by omega), hf.1 (248 + 6) (by omega) (by omega) (by omega)]]; exact ho
    have hple := prs_le (n := (D 248 6).toNat) (by omega)
    have hplen : P.length ≤ (prsN (D 248 6).toNat).length := by rw [← hP, List.length_append]; omega
    refine q_iload_n (j := 2) hA rfl dX0_listPairs_22 ?_
    refine q_aload_n (j := 0) hA rfl dX0_listPairs_23 ?_
    refine q_getR hA f_X0_12 dX0_listPairs_24 sx_247 (by decide) fx_247_0 ?_
    refine q_getI (x := D 248 6) hA f_X0_88 dX0_listPairs_27 (strS isS248) (by decide) e48 ?_
    refine q_icmp_ge (tgt := 90) hA (by omega) (by omega) dX0_listPairs_30 (by decide) (fun h30 => ?_) (fun h30 => ?_)
    · exact hx _ _ _ hb hc hP hM hf (by rw [show (D 248 6 - b).toNat = 0 by omega] at hP; exact hP)
    · refine q_aload_n (j := 0) hA rfl dX0_listPairs_33 ?_
      refine q_getR hA f_X0_12 dX0_listPairs_34 sx_247 (by decide) fx_247_0 ?_
      refine q_iload_n (j := 1) hA rfl dX0_listPairs_37 ?_
      refine q_iload_n (j := 2) hA rfl dX0_listPairs_38 ?_
      refine q_callVB (b := 248) (As := [vI a, vI b]) (st := []) hA l_X0_91 kX7_areNeighbours (zX7_areNeighbours isS248 oE (by omega) (by omega)) dX0_listPairs_39 rfl rfl (strS isS248) (by decide) rfl (Nat.le_of_ble_eq_true rfl) (by omega) (fun h39 => ?_) (fun h39 => ?_)
      · refine q_if_ne (tgt := 84) hA (by decide) dX0_listPairs_42 (by decide) (fun h42 => ?_) (fun h42 => absurd h42 (by decide))
        refine q_iinc (j := 2) (lo2 := [vR 247, vI a, vI (b + 1)]) hA dX0_listPairs_84 rfl (by decide) rfl rfl ?_
        refine q_goto (tgt := 22) hA dX0_listPairs_87 (by decide) ?_
        exact ih _ (if 0 < a ∨ b < D 248 6 - 1 then P ++ [(a.toNat, b.toNat)] else P) _ (by omega) (by first | (rw [if_pos (by omega), List.length_append]; rw [upD_s]; rw [hc]; rfl) | (rw [if_neg (by omega)]; exact hc)) (by first | (rw [if_pos (by omega)]; have := pB_s (by omega) (by omega) hP; rw [if_pos (by omega)] at this; rw [List.append_assoc]; exact this) | (rw [if_neg (by omega)]; have := pB_s (by omega) (by omega) hP; rw [if_neg (by omega), List.nil_append] at this; exact this)) (by first | (rw [if_pos (by omega)]; exact prM_c (prM_s (by omega) hM hc (by omega) (by omega)) (upD_other (by omega)) (upD_other (by omega))) | (rw [if_neg (by omega)]; exact hM)) (by first | exact hf | exact ⟨fun c c1 c2 c3 => (upD_other c1).trans ((upD_other c3).trans ((upD_other c2).trans (hf.1 c c1 c2 c3))), fun j hj => (upD_n (Or.inr hj)).trans ((upD_n (Or.inl (by omega))).trans ((upD_n (Or.inl (by omega))).trans (hf.2 j hj)))⟩) (by omega)
      · refine q_if_ne (tgt := 84) hA (by decide) dX0_listPairs_42 (by decide) (fun h42 => absurd h42 (by decide)) (fun h42 => ?_)
        have hlt : P.length < (prsN (D 248 6).toNat).length := by have := pB_s (by omega) (by omega) hP; rw [if_pos (by omega)] at this; rw [← this, List.length_append, List.length_append]; simp; omega
        refine q_aload_n (j := 0) hA rfl dX0_listPairs_45 ?_
        refine q_getI (x := E 247 7) hA f_X0_85 dX0_listPairs_46 sx_247 (by decide) rfl ?_
        refine q_bipush hA (by decide) dX0_listPairs_49 ?_
        refine q_icmp_ge (tgt := 84) hA (by omega) (by omega) dX0_listPairs_51 (by decide) (fun h51 => absurd h51 (by omega)) (fun h51 => ?_)
        refine q_aload_n (j := 0) hA rfl dX0_listPairs_54 ?_
        refine q_getR hA f_X0_18 dX0_listPairs_55 sx_247 (by decide) fx_247_1 ?_
        refine q_aload_n (j := 0) hA rfl dX0_listPairs_58 ?_
        refine q_getI (x := E 247 7) hA f_X0_85 dX0_listPairs_59 sx_247 (by decide) rfl ?_
        refine q_iload_n (j := 1) hA rfl dX0_listPairs_62 ?_
        refine q_iast hA dX0_listPairs_63 sx_255 (by omega) (by decide) ?_
        refine q_aload_n (j := 0) hA rfl dX0_listPairs_64 ?_
        refine q_getR hA f_X0_22 dX0_listPairs_65 sx_247 (by decide) fx_247_2 ?_
        refine q_aload_n (j := 0) hA rfl dX0_listPairs_68 ?_
        refine q_getI (x := E 247 7) hA f_X0_85 dX0_listPairs_69 sx_247 (by decide) ((upD_n (Or.inl (by omega))).trans (rfl)) ?_
        refine q_iload_n (j := 2) hA rfl dX0_listPairs_72 ?_
        refine q_iast hA dX0_listPairs_73 sx_256 (by omega) (by decide) ?_
        refine q_aload_n (j := 0) hA rfl dX0_listPairs_74 ?_
        refine q_dupR hA dX0_listPairs_75 ?_
        refine q_getI (x := E 247 7) hA f_X0_85 dX0_listPairs_76 sx_247 (by decide) ((upD_n (Or.inl (by omega))).trans ((upD_n (Or.inl (by omega))).trans (rfl))) ?_
        refine q_iconst hA dX0_listPairs_79 ?_
        refine q_iadd hA dX0_listPairs_80 ?_
        refine q_putI hA f_X0_85 dX0_listPairs_81 sx_247 (by decide) ?_
        show J _ _ _ (upD (upD (upD E 255 (E 247 7) a) 256 (E 247 7) b) 247 7 ((E 247 7) + 1))
        refine q_iinc (j := 2) (lo2 := [vR 247, vI a, vI (b + 1)]) hA dX0_listPairs_84 rfl (by decide) rfl rfl ?_
        refine q_goto (tgt := 22) hA dX0_listPairs_87 (by decide) ?_
        exact ih _ (if 0 < a ∨ b < D 248 6 - 1 then P ++ [(a.toNat, b.toNat)] else P) _ (by omega) (by first | (rw [if_pos (by omega), List.length_append]; rw [upD_s]; rw [hc]; rfl) | (rw [if_neg (by omega)]; exact hc)) (by first | (rw [if_pos (by omega)]; have := pB_s (by omega) (by omega) hP; rw [if_pos (by omega)] at this; rw [List.append_assoc]; exact this) | (rw [if_neg (by omega)]; have := pB_s (by omega) (by omega) hP; rw [if_neg (by omega), List.nil_append] at this; exact this)) (by first | (rw [if_pos (by omega)]; exact prM_c (prM_s (by omega) hM hc (by omega) (by omega)) (upD_other (by omega)) (upD_other (by omega))) | (rw [if_neg (by omega)]; exact hM)) (by first | exact hf | exact ⟨fun c c1 c2 c3 => (upD_other c1).trans ((upD_other c3).trans ((upD_other c2).trans (hf.1 c c1 c2 c3))), fun j hj => (upD_n (Or.inr hj)).trans ((upD_n (Or.inl (by omega))).trans ((upD_n (Or.inl (by omega))).trans (hf.2 j hj)))⟩) (by omega)
set_option maxHeartbeats 4000000 in
set_option maxRecDepth 100000 in
theorem zX0_listPairs_L7 {g : Gm} {l : Launch} {D : Dat} (ho : sOk D 248) (hn : 3 ≤ D 248 6)   {J : JT} (hA : AX g l RX0 cX0_listPairs 3 3 J) (hR : ReV cX0_listPairs (fun D1 => D1 247 7 = ((prsN (D 248 6).toNat).length : Int) ∧ prM D1 255 256 (prsN (D 248 6).toNat) ∧ (∀ j : Nat, j < (prsN (D 248 6).toNat).length → D1 257 j = ((crN (D 248 6).toNat j : Nat) : Int)) ∧ (∀ c, c ≠ 247 → c ≠ 255 → c ≠ 256 → c ≠ 257 → D1 c = D c) ∧ ∀ j : Int, j ≠ 7 → D1 247 j = D 247 j) J) (hx : ∀ (a : Int) (P : List (Nat × Nat)) (E : Dat), (0 ≤ a ∧ a ≤ D 248 6) → (E 247 7 = (P.length : Int)) → (P ++ pAn (D 248 6).toNat (D 248 6 - a).toNat = prsN (D 248 6).toNat) → (prM E 255 256 P) → ((∀ c, c ≠ 247 → c ≠ 255 → c ≠ 256 → E c = D c) ∧ ∀ j : Int, j ≠ 7 → E 247 j = D 247 j) → (P = prsN (D 248 6).toNat) → J 96 [vR 247, vI a, vN] [] E) : ∀ (fuel : Nat) (a : Int) (P : List (Nat × Nat)) (E : Dat), (0 ≤ a ∧ a ≤ D 248 6) → (E 247 7 = (P.length : Int)) → (P ++ pAn (D 248 6).toNat (D 248 6 - a).toNat = prsN (D 248 6).toNat) → (prM E 255 256 P) → ((∀ c, c ≠ 247 → c ≠ 255 → c ≠ 256 → E c = D c) ∧ ∀ j : Int, j ≠ 7 → E 247 j = D 247 j) → D 248 6 - a < (fuel : Int) → J 7 [vR 247, vI a, vN] [] E := by
  intro fuel
  induction fuel with
  | zero => intro a P E ha hc hP hM hf hMs; exact absurd hMs (by omega)
  | succ fuel ih =>
    intro a P E ha hc hP hM hf hMs
    have hn8 := ho.n
    have e48 : E 248 6 = D 248 6 := by rw [hf.1 248 (by omega) (by omega) (by omega)]
    refine q_iload_n (j := 1) hA rfl dX0_listPairs_7 ?_
    refine q_aload_n (j := 0) hA rfl dX0_listPairs_8 ?_
    refine q_getR hA f_X0_12 dX0_listPairs_9 sx_247 (by decide) fx_247_0 ?_
    refine q_getI (x := D 248 6) hA f_X0_88 dX0_listPairs_12 (strS isS248) (by decide) e48 ?_
    refine q_icmp_ge (tgt := 96) hA (by omega) (by omega) dX0_listPairs_15 (by decide) (fun h15 => ?_) (fun h15 => ?_)
    · exact hx _ _ _ ha hc hP hM hf (by rw [show (D 248 6 - a).toNat = 0 by omega] at hP; rw [← hP]; exact (List.append_nil P).symm)
    · refine q_iload_n (j := 1) hA rfl dX0_listPairs_18 ?_
      refine q_iconst hA dX0_listPairs_19 ?_
      refine q_iadd hA dX0_listPairs_20 ?_
      refine q_istore_n (j := 2) (lo2 := [vR 247, vI a, vI (a + 2)]) hA dX0_listPairs_21 (by decide) rfl rfl ?_
      refine zX0_listPairs_L22 (D := D) ho hn (by omega) hA hR (fun b P E hb hc hP hM hf hx => ?_) 1000 _ P _ (by omega) (by exact hc) (by exact pA_s (by omega) hP) (by exact hM) (by exact hf) (by omega)
      refine q_iinc (j := 1) (lo2 := [vR 247, vI (a + 1), vI b]) hA dX0_listPairs_90 rfl (by decide) rfl rfl ?_
      refine q_goto (tgt := 7) hA dX0_listPairs_93 (by decide) ?_
      refine q_fgt (lo2 := [vR 247, vI (a + 1), vN]) hA ⟨Or.inr rfl, Or.inr rfl, Or.inl rfl, trivial⟩ ?_
      exact ih _ P _ (by omega) (by exact hc) (by exact hx) (by exact hM) (by exact hf) (by omega)
set_option maxHeartbeats 4000000 in
set_option maxRecDepth 100000 in
theorem zX0_listPairs_L98 {g : Gm} {l : Launch} {D : Dat} (ho : sOk D 248) (hn : 3 ≤ D 248 6) {F : Dat} (h7 : F 247 7 = ((prsN (D 248 6).toNat).length : Int)) (hp : prM F 255 256 (prsN (D 248 6).toNat)) (hF : (∀ c, c ≠ 247 → c ≠ 255 → c ≠ 256 → F c = D c) ∧ ∀ j : Int, j ≠ 7 → F 247 j = D 247 j) {J : JT} (hA : AX g l RX0 cX0_listPairs 3 3 J) (hR : ReV cX0_listPairs (fun D1 => D1 247 7 = ((prsN (D 248 6).toNat).length : Int) ∧ prM D1 255 256 (prsN (D 248 6).toNat) ∧ (∀ j : Nat, j < (prsN (D 248 6).toNat).length → D1 257 j = ((crN (D 248 6).toNat j : Nat) : Int)) ∧ (∀ c, c ≠ 247 → c ≠ 255 → c ≠ 256 → c ≠ 257 → D1 c = D c) ∧ ∀ j : Int, j ≠ 7 → D1 247 j = D 247 j) J) : ∀ (fuel : Nat) (k : Int) (E : Dat), (0 ≤ k ∧ k ≤ ((prsN (D 248 6).toNat).length : Int)) → (∀ j : Nat, (j : Int) < k → E 257 j = ((crN (D 248 6).toNat j : Nat) : Int)) → (∀ c, c ≠ 257 → E c = F c) → ((prsN (D 248 6).toNat).length : Int) - k < (fuel : Int) → J 98 [vR 247, vI k, vN] [] E := by
  intro fuel
  induction fuel with
  | zero => intro k E hk he hf hMs; exact absurd hMs (by omega)
  | succ fuel ih =>
    intro k E hk he hf hMs
    have hn8 := ho.n
    have h7E : E 247 7 = ((prsN (D 248 6).toNat).length : Int) := by rw [hf 247 (by omega)]; exact h7
    have hpE : prM E 255 256 (prsN (D 248 6).toNat) := prM_c hp (hf 255 (by omega)) (hf 256 (by omega))
    have hple := prs_le (n := (D 248 6).toNat) (by omega)
    refine q_iload_n (j := 1) hA rfl dX0_listPairs_98 ?_
    refine q_aload_n (j := 0) hA rfl dX0_listPairs_99 ?_
    refine q_getI (x := ((prsN (D 248 6).toNat).length : Int)) hA f_X0_85 dX0_listPairs_100 sx_247 (by decide) h7E ?_
    refine q_icmp_ge (tgt := 123) hA (by omega) (by omega) dX0_listPairs_103 (by decide) (fun h103 => ?_) (fun h103 => ?_)
    · exact hR 123 _ _ dX0_listPairs_123 ⟨h7E, hpE, fun j hj => he j (by omega), fun c c1 c2 c3 c4 => (hf c c4).trans (hF.1 c c1 c2 c3), fun j hj => by rw [hf 247 (by omega)]; exact hF.2 j hj⟩
    · refine q_aload_n (j := 0) hA rfl dX0_listPairs_106 ?_
      refine q_getR hA f_X0_25 dX0_listPairs_107 sx_247 (by decide) fx_247_3 ?_
      refine q_iload_n (j := 1) hA rfl dX0_listPairs_110 ?_
      refine q_aload_n (j := 0) hA rfl dX0_listPairs_111 ?_
      refine q_iload_n (j := 1) hA rfl dX0_listPairs_112 ?_
      refine q_callVP (b := 247) (As := [vI k]) (st := [vI k, vR 257]) hA l_X0_94 kX0_crossedBy (zX0_crossedBy (n := (D 248 6).toNat) (by omega) h7E hpE (by omega)) dX0_listPairs_113 rfl rfl sx_247 (by decide) rfl (Nat.le_of_ble_eq_true rfl) (by omega) ?_
      refine q_nmI (fun cr ecr => ?_)
      refine q_iast hA dX0_listPairs_116 sx_257 (by omega) (by decide) ?_
      refine q_iinc (j := 1) (lo2 := [vR 247, vI (k + 1), vN]) hA dX0_listPairs_117 rfl (by decide) rfl rfl ?_
      refine q_goto (tgt := 98) hA dX0_listPairs_120 (by decide) ?_
      exact ih _ _ (by omega) (by intro j hj; rw [upD2]; by_cases q : (j : Int) = k; (rw [if_pos q, ecr, show k.toNat = j by omega]); (rw [if_neg q]; exact he j (by omega))) (by exact fun c hc => (upD_other hc).trans (hf c hc)) (by omega)
set_option maxHeartbeats 4000000 in
set_option maxRecDepth 100000 in
theorem zX0_listPairs {g : Gm} {l : Launch} {D : Dat} (ho : sOk D 248) (hn : 3 ≤ D 248 6) : CrV g l 3 mX0_listPairs [vR 247] D (fun D1 => D1 247 7 = ((prsN (D 248 6).toNat).length : Int) ∧ prM D1 255 256 (prsN (D 248 6).toNat) ∧ (∀ j : Nat, j < (prsN (D 248 6).toNat).length → D1 257 j = ((crN (D 248 6).toNat j : Nat) : Int)) ∧ (∀ c, c ≠ 247 → c ≠ 255 → c ≠ 256 → c ≠ 257 → D1 c = D c) ∧ ∀ j : Int, j ≠ 7 → D1 247 j = D 247 j) := by
  refine Cr.ofV (lo0 := [vR 247, vN, vN]) (by decide) (Nat.le_of_ble_eq_true rfl) rfl (fun J hA hR => ?_)
  have hn8 := ho.n
  refine q_aload_n (j := 0) hA rfl dX0_listPairs_0 ?_
  refine q_iconst hA dX0_listPairs_1 ?_
  refine q_putI hA f_X0_85 dX0_listPairs_2 sx_247 (by decide) ?_
  show J _ _ _ (upD D 247 7 0)
  refine q_iconst hA dX0_listPairs_5 ?_
  refine q_istore_n (j := 1) (lo2 := [vR 247, vI 0, vN]) hA dX0_listPairs_6 (by decide) rfl rfl ?_
  refine zX0_listPairs_L7 (D := D) ho hn  hA hR (fun a P E ha hc hP hM hf hPe => ?_) 1000 _ [] _ (by omega) (by exact upD_s) (by rw [Int.sub_zero, List.nil_append]; rfl) (by exact prM_z) (by exact ⟨fun c c1 _ _ => upD_other c1, fun j hj => upD_n (Or.inr hj)⟩) (by omega)
  refine q_iconst hA dX0_listPairs_96 ?_
  refine q_istore_n (j := 1) (lo2 := [vR 247, vI 0, vN]) hA dX0_listPairs_97 (by decide) rfl rfl ?_
  refine zX0_listPairs_L98 (D := D) ho hn (by rw [hc, hPe]) (hPe ▸ hM) hf hA hR 1000 _ _ (by exact ⟨Int.le_refl _, Int.natCast_nonneg _⟩) (by intro j hj; omega) (by exact fun _ _ => rfl) (by have := prs_le (n := (D 248 6).toNat) (by omega); omega)
set_option maxHeartbeats 4000000 in
set_option maxRecDepth 100000 in
theorem zX0_weigh_L24 {g : Gm} {l : Launch} {D : Dat} {n : Nat} {L : LL} {f : Int → Int} {o m : Int} (hn8 : 3 ≤ n ∧ n ≤ 8) (hm : mrow (rowX D 248) n L) (hmn : 0 ≤ m ∧ m ≤ 8) (hh : hrdM D f o m) (hwh : whB f (n : Int) o m.toNat = true) {gs_ : Int} (hgs : gs_ = gsX (rL (rowX D 248)) (n : Int) f o m ∧ gs_ ≠ -4) {J : JT} (hA : AX g l RX0 cX0_weigh 4 4 J) (hR : ReV cX0_weigh (fun D1 => accQ f o m (n : Int) D D1 [L] ∧ (∀ c, c ≠ 247 → c ≠ 260 → D1 c = D c) ∧ ∀ j : Int, j ≠ 11 → j ≠ 12 → j ≠ 13 → D1 247 j = D 247 j) J) : ∀ (fuel : Nat) (s : Int) (E : Dat), (0 ≤ s ∧ s ≤ 2) → (prtQ (fun s => ouX s (rL (rowX D 248)) (n : Int) f o m) D E s) → (E 247 13 = D 247 13 + 1 ∧ E 247 11 = gs_ / 8 ∧ E 247 12 = gs_ % 8) → ((∀ c, c ≠ 247 → c ≠ 260 → E c = D c) ∧ ∀ j : Int, j ≠ 11 → j ≠ 12 → j ≠ 13 → E 247 j = D 247 j) → 2 - s < (fuel : Int) → J 24 [vR 247, vI s, vN, vN] [] E := by
  intro fuel
  induction fuel with
  | zero => intro s E hs hp h13 hf hMs; exact absurd hMs (by omega)
  | succ fuel ih =>
    intro s E hs hp h13 hf hMs
    have hN : D 248 6 = (n : Int) := by rw [← xN D 248]; exact hm.2.2.1
    have eg1 := h13.2.1
    have eg2 := h13.2.2
    have hro : rowX E 248 = rowX D 248 := by unfold rowX; rw [hf.1 248 (by omega) (by omega), hf.1 (248 + 1) (by omega) (by omega), hf.1 (248 + 2) (by omega) (by omega), hf.1 (248 + 3) (by omega) (by omega), hf.1 (248 + 4) (by omega) (by omega), hf.1 (248 + 5) (by omega) (by omega), hf.1 (248 + 6) (by omega) (by omega)]
    have oE : sOk E 248 := by unfold sOk; rw [hro]; exact hm.2.1
    have e48 : E 248 6 = (n : Int) := by rw [hf.1 248 (by omega) (by omega)]; exact hN
    have hgi := gsX_in (L := rL (rowX D 248)) (N := (n : Int)) (f := f) (o := o) (n := m) (by omega) (by omega) hwh
    rw [← hgs.1] at hgi
    have hgn := hgs.2
    refine q_iload_n (j := 1) hA rfl dX0_weigh_24 ?_
    refine q_iconst hA dX0_weigh_25 ?_
    refine q_icmp_gt (tgt := 85) hA (by omega) (by omega) dX0_weigh_26 (by decide) (fun h26 => ?_) (fun h26 => ?_)
    · exact hR 85 _ _ dX0_weigh_85 (by have e : s = 2 := (by omega); subst e; exact ⟨wg_acc hm (by omega) hmn.1 hwh (by rw [if_neg (by rw [← hgs.1]; exact hgn)]; exact h13.1) hp, hf⟩)
    · refine q_aload_n (j := 0) hA rfl dX0_weigh_29 ?_
      refine q_getR hA f_X0_12 dX0_weigh_30 sx_247 (by decide) fx_247_0 ?_
      refine q_aload_n (j := 0) hA rfl dX0_weigh_33 ?_
      refine q_getI (x := gs_ / 8) hA f_X0_65 dX0_weigh_34 sx_247 (by decide) eg1 ?_
      refine q_aload_n (j := 0) hA rfl dX0_weigh_37 ?_
      refine q_getI (x := gs_ % 8) hA f_X0_68 dX0_weigh_38 sx_247 (by decide) eg2 ?_
      refine q_iload_n (j := 1) hA rfl dX0_weigh_41 ?_
      refine q_callVP (b := 248) (As := [vI (gs_ / 8), vI (gs_ % 8), vI s]) (st := []) hA l_X0_61 kX7_third (zX7_third isS248 oE (by omega) (by omega) (by omega)) dX0_weigh_42 rfl rfl (strS isS248) (by decide) rfl (Nat.le_of_ble_eq_true rfl) (by omega) ?_
      refine q_nmI (fun th eth => ?_)
      rw [hro, thX_L, xN, hN] at eth
      have hti := thL_in (L := rL (rowX D 248)) (N := (n : Int)) (a := gs_ / 8) (b := gs_ % 8) (s := s) (by omega)
      rw [← eth] at hti
      refine q_istore_n (j := 2) (lo2 := [vR 247, vI s, vI th, vN]) hA dX0_weigh_45 (by decide) rfl rfl ?_
      refine q_aload_n (j := 0) hA rfl dX0_weigh_46 ?_
      refine q_getR hA f_X0_12 dX0_weigh_47 sx_247 (by decide) fx_247_0 ?_
      refine q_iload_n (j := 2) hA rfl dX0_weigh_50 ?_
      refine q_callVB (b := 248) (As := [vI th]) (st := []) hA l_X0_112 kX7_has (zX7_has isS248 oE (by omega)) dX0_weigh_51 rfl rfl (strS isS248) (by decide) rfl (Nat.le_of_ble_eq_true rfl) (by omega) (fun h51 => ?_) (fun h51 => ?_)
      · refine q_if_eq (tgt := 61) hA (by decide) dX0_weigh_54 (by decide) (fun h54 => absurd h54 (by decide)) (fun h54 => ?_)
        refine q_iload_n (j := 2) hA rfl dX0_weigh_57 ?_
        refine q_goto (tgt := 63) hA dX0_weigh_58 (by decide) ?_
        refine q_nmI (fun ix eix => ?_)
        refine q_istore_n (j := 3) (lo2 := [vR 247, vI s, vI th, vI ix]) hA dX0_weigh_63 (by decide) rfl rfl ?_
        have hou : (fun s => ouX s (rL (rowX D 248)) (n : Int) f o m) s = ix := by dsimp only; unfold ouX; rw [← hgs.1, if_neg hgn, ← eth]; first | (rw [if_neg (by omega)]; exact eix.symm) | (rw [if_pos (by omega)]; exact eix.symm)
        refine q_aload_n (j := 0) hA rfl dX0_weigh_64 ?_
        refine q_getR hA f_X0_34 dX0_weigh_65 sx_247 (by decide) fx_247_6 ?_
        refine q_iload_n (j := 1) hA rfl dX0_weigh_68 ?_
        refine q_bipush hA (by decide) dX0_weigh_69 ?_
        refine q_imul hA dX0_weigh_71 ?_
        refine q_iload_n (j := 3) hA rfl dX0_weigh_72 ?_
        refine q_iadd hA dX0_weigh_73 ?_
        refine q_dup2IR hA dX0_weigh_74 ?_
        refine q_iald (x := E 260 ((s * 9) + ix)) hA dX0_weigh_75 sx_260 (by omega) (by decide) rfl ?_
        refine q_iconst hA dX0_weigh_76 ?_
        refine q_iadd hA dX0_weigh_77 ?_
        refine q_iast hA dX0_weigh_78 sx_260 (by omega) (by decide) ?_
        refine q_iinc (j := 1) (lo2 := [vR 247, vI (s + 1), vI th, vI ix]) hA dX0_weigh_79 rfl (by decide) rfl rfl ?_
        refine q_goto (tgt := 24) hA dX0_weigh_82 (by decide) ?_
        refine q_fgt (lo2 := [vR 247, vI (s + 1), vN, vN]) hA ⟨Or.inr rfl, Or.inr rfl, Or.inl rfl, Or.inl rfl, trivial⟩ ?_
        exact ih _ _ (by omega) (by exact hp.s (by omega) hou (by omega)) (by rw [upD_other (by omega)]; exact h13) (by exact ⟨fun c c1 c2 => (upD_other c2).trans (hf.1 c c1 c2), fun j j1 j2 j3 => (upD_n (Or.inl (by omega))).trans (hf.2 j j1 j2 j3)⟩) (by omega)
      · refine q_if_eq (tgt := 61) hA (by decide) dX0_weigh_54 (by decide) (fun h54 => ?_) (fun h54 => absurd h54 (by decide))
        refine q_bipush hA (by decide) dX0_weigh_61 ?_
        refine q_nmI (fun ix eix => ?_)
        refine q_istore_n (j := 3) (lo2 := [vR 247, vI s, vI th, vI ix]) hA dX0_weigh_63 (by decide) rfl rfl ?_
        have hou : (fun s => ouX s (rL (rowX D 248)) (n : Int) f o m) s = ix := by dsimp only; unfold ouX; rw [← hgs.1, if_neg hgn, ← eth]; first | (rw [if_neg (by omega)]; exact eix.symm) | (rw [if_pos (by omega)]; exact eix.symm)
        refine q_aload_n (j := 0) hA rfl dX0_weigh_64 ?_
        refine q_getR hA f_X0_34 dX0_weigh_65 sx_247 (by decide) fx_247_6 ?_
        refine q_iload_n (j := 1) hA rfl dX0_weigh_68 ?_
        refine q_bipush hA (by decide) dX0_weigh_69 ?_
        refine q_imul hA dX0_weigh_71 ?_
        refine q_iload_n (j := 3) hA rfl dX0_weigh_72 ?_
        refine q_iadd hA dX0_weigh_73 ?_
        refine q_dup2IR hA dX0_weigh_74 ?_
        refine q_iald (x := E 260 ((s * 9) + ix)) hA dX0_weigh_75 sx_260 (by omega) (by decide) rfl ?_
        refine q_iconst hA dX0_weigh_76 ?_
        refine q_iadd hA dX0_weigh_77 ?_
        refine q_iast hA dX0_weigh_78 sx_260 (by omega) (by decide) ?_
        refine q_iinc (j := 1) (lo2 := [vR 247, vI (s + 1), vI th, vI ix]) hA dX0_weigh_79 rfl (by decide) rfl rfl ?_
        refine q_goto (tgt := 24) hA dX0_weigh_82 (by decide) ?_
        refine q_fgt (lo2 := [vR 247, vI (s + 1), vN, vN]) hA ⟨Or.inr rfl, Or.inr rfl, Or.inl rfl, Or.inl rfl, trivial⟩ ?_
        exact ih _ _ (by omega) (by exact hp.s (by omega) hou (by omega)) (by rw [upD_other (by omega)]; exact h13) (by exact ⟨fun c c1 c2 => (upD_other c2).trans (hf.1 c c1 c2), fun j j1 j2 j3 => (upD_n (Or.inl (by omega))).trans (hf.2 j j1 j2 j3)⟩) (by omega)
set_option maxHeartbeats 4000000 in
set_option maxRecDepth 100000 in
theorem zX0_weigh {g : Gm} {l : Launch} {D : Dat} {n : Nat} {L : LL} {f : Int → Int} {o m : Int} (hn8 : 3 ≤ n ∧ n ≤ 8) (hm : mrow (rowX D 248) n L) (hmn : 0 ≤ m ∧ m ≤ 8) (hh : hrdM D f o m) (hwh : whB f (n : Int) o m.toNat = true) : CrV g l 4 mX0_weigh [vR 247] D (fun D1 => accQ f o m (n : Int) D D1 [L] ∧ (∀ c, c ≠ 247 → c ≠ 260 → D1 c = D c) ∧ ∀ j : Int, j ≠ 11 → j ≠ 12 → j ≠ 13 → D1 247 j = D 247 j) := by
  refine Cr.ofV (lo0 := [vR 247, vN, vN, vN]) (by decide) (Nat.le_of_ble_eq_true rfl) rfl (fun J hA hR => ?_)
  have hoD : sOk D 248 := hm.2.1
  have hN : D 248 6 = (n : Int) := by rw [← xN D 248]; exact hm.2.2.1
  refine q_aload_n (j := 0) hA rfl dX0_weigh_0 ?_
  refine q_aload_n (j := 0) hA rfl dX0_weigh_1 ?_
  refine q_getR hA f_X0_12 dX0_weigh_2 sx_247 (by decide) fx_247_0 ?_
  refine q_callVI (b := 247) (As := [vR 248]) (st := []) hA l_X0_108 kX0_wouldGo (zX0_wouldGo isS248 hoD (by omega) hmn hh (by rw [hN]; exact hwh)) dX0_weigh_5 rfl rfl sx_247 (by decide) rfl (Nat.le_of_ble_eq_true rfl) (by omega) (fun v5 D5 q5 => ?_)
  rw [xN, hN] at q5
  have hgi := gsX_in (L := rL (rowX D 248)) (N := (n : Int)) (f := f) (o := o) (n := m) (by omega) (by omega) hwh
  rcases q5 with ⟨hg, rfl, e5⟩ | ⟨hg, rfl, e5⟩
  · skip
    refine q_if_ne (tgt := 12) hA (by decide) dX0_weigh_8 (by decide) (fun h8 => absurd h8 (by decide)) (fun h8 => ?_)
    exact hR 11 _ _ dX0_weigh_11 (by subst e5; exact ⟨wg_acc hm (by omega) hmn.1 hwh (by rw [if_pos hg]; omega) (fun t k t0 t1 k0 k1 => by rw [if_neg (fun z => by have w := z.2; dsimp only at w; unfold ouX at w; rw [if_pos hg] at w; omega)]; omega), fun _ _ _ => rfl, fun _ _ _ _ => rfl⟩)
  · skip
    refine q_if_ne (tgt := 12) hA (by decide) dX0_weigh_8 (by decide) (fun h8 => ?_) (fun h8 => absurd h8 (by decide))
    refine q_aload_n (j := 0) hA rfl dX0_weigh_12 ?_
    refine q_dupR hA dX0_weigh_13 ?_
    refine q_getI (x := D5 247 13) hA f_X0_71 dX0_weigh_14 sx_247 (by decide) rfl ?_
    refine q_iconst hA dX0_weigh_17 ?_
    refine q_iadd hA dX0_weigh_18 ?_
    refine q_putI hA f_X0_71 dX0_weigh_19 sx_247 (by decide) ?_
    refine q_nmD (fun G eG => ?_)
    replace eG : G = upD D5 247 13 (D5 247 13 + 1) := eG
    obtain ⟨gs_, egs_⟩ : ∃ x, x = gsX (rL (rowX D 248)) (n : Int) f o m := ⟨_, rfl⟩
    rw [← egs_] at e5
    have e260 : G 260 = D 260 := by rw [eG, upD_other (by omega), e5, upD_other (by omega), upD_other (by omega)]
    have hG13 : G 247 13 = D 247 13 + 1 ∧ G 247 11 = gs_ / 8 ∧ G 247 12 = gs_ % 8 := by refine ⟨by rw [eG, upD_s, e5, upD_n (Or.inr (by decide)), upD_n (Or.inr (by decide))], by rw [eG, upD_n (Or.inr (by decide)), e5, upD_n (Or.inr (by decide)), upD_s], by rw [eG, upD_n (Or.inr (by decide)), e5, upD_s]⟩
    have hGf : (∀ c, c ≠ 247 → c ≠ 260 → G c = D c) ∧ ∀ j : Int, j ≠ 11 → j ≠ 12 → j ≠ 13 → G 247 j = D 247 j := ⟨fun c c1 c2 => by rw [eG, upD_other c1, e5, upD_other c1, upD_other c1], fun j j1 j2 j3 => by rw [eG, upD_n (Or.inr j3), e5, upD_n (Or.inr j2), upD_n (Or.inr j1)]⟩
    refine q_iconst hA dX0_weigh_22 ?_
    refine q_istore_n (j := 1) (lo2 := [vR 247, vI 0, vN, vN]) hA dX0_weigh_23 (by decide) rfl rfl ?_
    refine zX0_weigh_L24 (D := D) (n := n) (L := L) (f := f) (o := o) (m := m) hn8 hm hmn hh hwh ((show gs_ = _ ∧ gs_ ≠ -4 from ⟨egs_, by rw [egs_]; exact hg⟩)) hA hR 1000 _ _ (by omega) (by exact prtQ.z e260) (by exact hG13) (by exact hGf) (by omega)
