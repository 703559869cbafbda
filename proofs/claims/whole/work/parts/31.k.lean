set_option maxHeartbeats 4000000 in
set_option maxRecDepth 100000 in
theorem zX10_joins_L43 {g : Gm} {l : Launch} {D : Dat} {c w : Nat} (hcw : Sx[c]? = some (100, w) ∧ w < 20000) {at_ : Int} {n : Int} {a : Int} {b : Int} (hat : 0 ≤ at_ ∧ at_ + 8 ≤ w) (hn : 0 < n ∧ n ≤ 8) (hlk : lkOk D c at_) (ha : 0 ≤ a ∧ a < n) (hb : 0 ≤ b ∧ b < n) {ci : Int} (hci : 0 ≤ ci ∧ ci < n) {J : JT} (hA : AX g l RX10 cX10_joins 9 2 J) (hR : ReZ cX10_joins (fun v D1 => D1 = D ∧ (((jnM (fun p => D c (at_ + p)) n a b) ∧ v = 1) ∨ (¬ (jnM (fun p => D c (at_ + p)) n a b) ∧ v = 0))) J) (hx : ∀ (m : Int) (d : Int), (0 ≤ d ∧ d ≤ n) → (mayI (fun p => D c (at_ + p)) n a b ci d m) → (n ≤ d ∨ m = 0) → J 117 [vR c, vI at_, vI n, vI a, vI b, vI m, vI ci, vI d, vN] [] D) : ∀ (fuel : Nat) (m : Int) (d : Int), (0 ≤ d ∧ d ≤ n) → (mayI (fun p => D c (at_ + p)) n a b ci d m) → n - d < (fuel : Int) → J 43 [vR c, vI at_, vI n, vI a, vI b, vI m, vI ci, vI d, vN] [] D := by
  intro fuel
  induction fuel with
  | zero => intro m d hd hm hMs; exact absurd hMs (by omega)
  | succ fuel ih =>
    intro m d hd hm hMs
    have hw := hcw.2
    have hmb := hm.b
    have l2 := hlk ci (by omega) (by omega)
    refine q_iload (j := 7) hA rfl dX10_joins_43 ?_
    refine q_iload_n (j := 2) hA rfl dX10_joins_45 ?_
    refine q_icmp_ge (tgt := 117) hA (by omega) (by omega) dX10_joins_46 (by decide) (fun h46 => ?_) (fun h46 => ?_)
    · exact hx _ _ hd hm (by omega)
    · refine q_iload (j := 5) hA rfl dX10_joins_49 ?_
      refine q_if_eq (tgt := 117) hA (by omega) dX10_joins_51 (by decide) (fun h51 => ?_) (fun h51 => ?_)
      · exact hx _ _ hd hm (by omega)
      · refine q_iload (j := 6) hA rfl dX10_joins_54 ?_
        refine q_iload_n (j := 3) hA rfl dX10_joins_56 ?_
        refine q_iload (j := 4) hA rfl dX10_joins_57 ?_
        refine q_iload_n (j := 2) hA rfl dX10_joins_59 ?_
        refine q_callSB (As := [vI ci, vI a, vI b, vI n]) (st := []) hA l_X10_104 kX10_isBetween (zX10_isBetween (by first | assumption | omega | rfl) (by first | assumption | omega | rfl) (by first | assumption | omega | rfl) (by first | assumption | omega | rfl)) dX10_joins_60 rfl rfl (Nat.le_of_ble_eq_true rfl) (by omega) (fun h60 => ?_) (fun h60 => ?_)
        · refine q_if_eq (tgt := 82) hA (by decide) dX10_joins_63 (by decide) (fun h63 => absurd h63 (by decide)) (fun h63 => ?_)
          refine q_iload (j := 7) hA rfl dX10_joins_66 ?_
          refine q_iload (j := 4) hA rfl dX10_joins_68 ?_
          refine q_iload_n (j := 3) hA rfl dX10_joins_70 ?_
          refine q_iload_n (j := 2) hA rfl dX10_joins_71 ?_
          refine q_callSB (As := [vI d, vI b, vI a, vI n]) (st := []) hA l_X10_104 kX10_isBetween (zX10_isBetween (by first | assumption | omega | rfl) (by first | assumption | omega | rfl) (by first | assumption | omega | rfl) (by first | assumption | omega | rfl)) dX10_joins_72 rfl rfl (Nat.le_of_ble_eq_true rfl) (by omega) (fun h72 => ?_) (fun h72 => ?_)
          · refine q_if_eq (tgt := 82) hA (by decide) dX10_joins_75 (by decide) (fun h75 => absurd h75 (by decide)) (fun h75 => ?_)
            refine q_iconst hA dX10_joins_78 ?_
            refine q_goto (tgt := 83) hA dX10_joins_79 (by decide) ?_
            refine q_istore (j := 8) (lo2 := [vR c, vI at_, vI n, vI a, vI b, vI m, vI ci, vI d, vI 1]) hA dX10_joins_83 (by decide) rfl rfl ?_
            refine q_iload (j := 8) hA rfl dX10_joins_85 ?_
            refine q_if_eq (tgt := 104) hA (by decide) dX10_joins_87 (by decide) (fun h87 => absurd h87 (by decide)) (fun h87 => ?_)
            refine q_aload_n (j := 0) hA rfl dX10_joins_90 ?_
            refine q_iload_n (j := 1) hA rfl dX10_joins_91 ?_
            refine q_iload (j := 6) hA rfl dX10_joins_92 ?_
            refine q_iadd hA dX10_joins_94 ?_
            refine q_iald (x := D c (at_ + ci)) hA dX10_joins_95 hcw.1 (by omega) (by omega) rfl ?_
            refine q_iload (j := 7) hA rfl dX10_joins_96 ?_
            refine q_ishr hA dX10_joins_98 ?_
            refine q_iconst hA dX10_joins_99 ?_
            refine q_iand hA dX10_joins_100 ?_
            rw [show iAnd (iShr (D c (at_ + ci)) d) 1 = if tb (D c (at_ + ci)) d then 1 else 0 from bitT (by omega) (by omega)]
            have l4 := if10_in (b := tb (D c (at_ + ci)) d)
            refine q_if_ne (tgt := 108) hA (by omega) dX10_joins_101 (by decide) (fun h101 => ?_) (fun h101 => ?_)
            · refine q_iconst hA dX10_joins_108 ?_
              refine q_istore (j := 5) (lo2 := [vR c, vI at_, vI n, vI a, vI b, vI 0, vI ci, vI d, vI 1]) hA dX10_joins_109 (by decide) rfl rfl ?_
              refine q_iinc (j := 7) (lo2 := [vR c, vI at_, vI n, vI a, vI b, vI 0, vI ci, vI (d + 1), vI 1]) hA dX10_joins_111 rfl (by decide) rfl rfl ?_
              refine q_goto (tgt := 43) hA dX10_joins_114 (by decide) ?_
              refine q_fgt (lo2 := [vR c, vI at_, vI n, vI a, vI b, vI 0, vI ci, vI (d + 1), vN]) hA ⟨Or.inr rfl, Or.inr rfl, Or.inr rfl, Or.inr rfl, Or.inr rfl, Or.inr rfl, Or.inr rfl, Or.inr rfl, Or.inl rfl, trivial⟩ ?_
              exact ih _ _ (by omega) (by first | exact mayI_a (L := fun p => D c (at_ + p)) hm h51 h60 | exact mayI_b (L := fun p => D c (at_ + p)) hm h51 h72 | exact mayI_c (L := fun p => D c (at_ + p)) hm h51 h101 | exact mayI_d (L := fun p => D c (at_ + p)) (by omega) (by omega) h60 h72 h101) (by omega)
            · refine q_iconst hA dX10_joins_104 ?_
              refine q_goto (tgt := 109) hA dX10_joins_105 (by decide) ?_
              refine q_istore (j := 5) (lo2 := [vR c, vI at_, vI n, vI a, vI b, vI 1, vI ci, vI d, vI 1]) hA dX10_joins_109 (by decide) rfl rfl ?_
              refine q_iinc (j := 7) (lo2 := [vR c, vI at_, vI n, vI a, vI b, vI 1, vI ci, vI (d + 1), vI 1]) hA dX10_joins_111 rfl (by decide) rfl rfl ?_
              refine q_goto (tgt := 43) hA dX10_joins_114 (by decide) ?_
              refine q_fgt (lo2 := [vR c, vI at_, vI n, vI a, vI b, vI 1, vI ci, vI (d + 1), vN]) hA ⟨Or.inr rfl, Or.inr rfl, Or.inr rfl, Or.inr rfl, Or.inr rfl, Or.inr rfl, Or.inr rfl, Or.inr rfl, Or.inl rfl, trivial⟩ ?_
              exact ih _ _ (by omega) (by first | exact mayI_a (L := fun p => D c (at_ + p)) hm h51 h60 | exact mayI_b (L := fun p => D c (at_ + p)) hm h51 h72 | exact mayI_c (L := fun p => D c (at_ + p)) hm h51 h101 | exact mayI_d (L := fun p => D c (at_ + p)) (by omega) (by omega) h60 h72 h101) (by omega)
          · refine q_if_eq (tgt := 82) hA (by decide) dX10_joins_75 (by decide) (fun h75 => ?_) (fun h75 => absurd h75 (by decide))
            refine q_iconst hA dX10_joins_82 ?_
            refine q_istore (j := 8) (lo2 := [vR c, vI at_, vI n, vI a, vI b, vI m, vI ci, vI d, vI 0]) hA dX10_joins_83 (by decide) rfl rfl ?_
            refine q_iload (j := 8) hA rfl dX10_joins_85 ?_
            refine q_if_eq (tgt := 104) hA (by decide) dX10_joins_87 (by decide) (fun h87 => ?_) (fun h87 => absurd h87 (by decide))
            refine q_iconst hA dX10_joins_104 ?_
            refine q_goto (tgt := 109) hA dX10_joins_105 (by decide) ?_
            refine q_istore (j := 5) (lo2 := [vR c, vI at_, vI n, vI a, vI b, vI 1, vI ci, vI d, vI 0]) hA dX10_joins_109 (by decide) rfl rfl ?_
            refine q_iinc (j := 7) (lo2 := [vR c, vI at_, vI n, vI a, vI b, vI 1, vI ci, vI (d + 1), vI 0]) hA dX10_joins_111 rfl (by decide) rfl rfl ?_
            refine q_goto (tgt := 43) hA dX10_joins_114 (by decide) ?_
            refine q_fgt (lo2 := [vR c, vI at_, vI n, vI a, vI b, vI 1, vI ci, vI (d + 1), vN]) hA ⟨Or.inr rfl, Or.inr rfl, Or.inr rfl, Or.inr rfl, Or.inr rfl, Or.inr rfl, Or.inr rfl, Or.inr rfl, Or.inl rfl, trivial⟩ ?_
            exact ih _ _ (by omega) (by first | exact mayI_a (L := fun p => D c (at_ + p)) hm h51 h60 | exact mayI_b (L := fun p => D c (at_ + p)) hm h51 h72 | exact mayI_c (L := fun p => D c (at_ + p)) hm h51 h101 | exact mayI_d (L := fun p => D c (at_ + p)) (by omega) (by omega) h60 h72 h101) (by omega)
        · refine q_if_eq (tgt := 82) hA (by decide) dX10_joins_63 (by decide) (fun h63 => ?_) (fun h63 => absurd h63 (by decide))
          refine q_iconst hA dX10_joins_82 ?_
          refine q_istore (j := 8) (lo2 := [vR c, vI at_, vI n, vI a, vI b, vI m, vI ci, vI d, vI 0]) hA dX10_joins_83 (by decide) rfl rfl ?_
          refine q_iload (j := 8) hA rfl dX10_joins_85 ?_
          refine q_if_eq (tgt := 104) hA (by decide) dX10_joins_87 (by decide) (fun h87 => ?_) (fun h87 => absurd h87 (by decide))
          refine q_iconst hA dX10_joins_104 ?_
          refine q_goto (tgt := 109) hA dX10_joins_105 (by decide) ?_
          refine q_istore (j := 5) (lo2 := [vR c, vI at_, vI n, vI a, vI b, vI 1, vI ci, vI d, vI 0]) hA dX10_joins_109 (by decide) rfl rfl ?_
          refine q_iinc (j := 7) (lo2 := [vR c, vI at_, vI n, vI a, vI b, vI 1, vI ci, vI (d + 1), vI 0]) hA dX10_joins_111 rfl (by decide) rfl rfl ?_
          refine q_goto (tgt := 43) hA dX10_joins_114 (by decide) ?_
          refine q_fgt (lo2 := [vR c, vI at_, vI n, vI a, vI b, vI 1, vI ci, vI (d + 1), vN]) hA ⟨Or.inr rfl, Or.inr rfl, Or.inr rfl, Or.inr rfl, Or.inr rfl, Or.inr rfl, Or.inr rfl, Or.inr rfl, Or.inl rfl, trivial⟩ ?_
          exact ih _ _ (by omega) (by first | exact mayI_a (L := fun p => D c (at_ + p)) hm h51 h60 | exact mayI_b (L := fun p => D c (at_ + p)) hm h51 h72 | exact mayI_c (L := fun p => D c (at_ + p)) hm h51 h101 | exact mayI_d (L := fun p => D c (at_ + p)) (by omega) (by omega) h60 h72 h101) (by omega)
set_option maxHeartbeats 4000000 in
set_option maxRecDepth 100000 in
theorem zX10_joins_L29 {g : Gm} {l : Launch} {D : Dat} {c w : Nat} (hcw : Sx[c]? = some (100, w) ∧ w < 20000) {at_ : Int} {n : Int} {a : Int} {b : Int} (hat : 0 ≤ at_ ∧ at_ + 8 ≤ w) (hn : 0 < n ∧ n ≤ 8) (hlk : lkOk D c at_) (ha : 0 ≤ a ∧ a < n) (hb : 0 ≤ b ∧ b < n)   {J : JT} (hA : AX g l RX10 cX10_joins 9 2 J) (hR : ReZ cX10_joins (fun v D1 => D1 = D ∧ (((jnM (fun p => D c (at_ + p)) n a b) ∧ v = 1) ∨ (¬ (jnM (fun p => D c (at_ + p)) n a b) ∧ v = 0))) J) : ∀ (fuel : Nat) (m : Int) (ci : Int), (0 ≤ ci ∧ ci ≤ n) → (mayO (fun p => D c (at_ + p)) n a b ci m) → n - ci < (fuel : Int) → J 29 [vR c, vI at_, vI n, vI a, vI b, vI m, vI ci, vN, vN] [] D := by
  intro fuel
  induction fuel with
  | zero => intro m ci hc hm hMs; exact absurd hMs (by omega)
  | succ fuel ih =>
    intro m ci hc hm hMs
    have hw := hcw.2
    have hmb := hm.b
    refine q_iload (j := 6) hA rfl dX10_joins_29 ?_
    refine q_iload_n (j := 2) hA rfl dX10_joins_31 ?_
    refine q_icmp_ge (tgt := 123) hA (by omega) (by omega) dX10_joins_32 (by decide) (fun h32 => ?_) (fun h32 => ?_)
    · refine q_iload (j := 5) hA rfl dX10_joins_123 ?_
      exact hR 125 _ _ _ dX10_joins_125 (by omega) ⟨rfl, (by exact mayO_x (L := fun p => D c (at_ + p)) hm (by omega))⟩
    · refine q_iload (j := 5) hA rfl dX10_joins_35 ?_
      refine q_if_eq (tgt := 123) hA (by omega) dX10_joins_37 (by decide) (fun h37 => ?_) (fun h37 => ?_)
      · refine q_iload (j := 5) hA rfl dX10_joins_123 ?_
        exact hR 125 _ _ _ dX10_joins_125 (by omega) ⟨rfl, (by exact mayO_x (L := fun p => D c (at_ + p)) hm (by omega))⟩
      · refine q_iconst hA dX10_joins_40 ?_
        refine q_istore (j := 7) (lo2 := [vR c, vI at_, vI n, vI a, vI b, vI m, vI ci, vI 0, vN]) hA dX10_joins_41 (by decide) rfl rfl ?_
        refine zX10_joins_L43 (D := D) (c := c) (w := w) (at_ := at_) (n := n) (a := a) (b := b) hcw hat hn hlk ha hb ((by first | assumption | omega | rfl)) hA hR (fun m d hd hm hx => ?_) 1000 _ _ (by omega) (by exact mayI_0 hm h37) (by omega)
        have hmb := hm.b
        refine q_iinc (j := 6) (lo2 := [vR c, vI at_, vI n, vI a, vI b, vI m, vI (ci + 1), vI d, vN]) hA dX10_joins_117 rfl (by decide) rfl rfl ?_
        refine q_goto (tgt := 29) hA dX10_joins_120 (by decide) ?_
        refine q_fgt (lo2 := [vR c, vI at_, vI n, vI a, vI b, vI m, vI (ci + 1), vN, vN]) hA ⟨Or.inr rfl, Or.inr rfl, Or.inr rfl, Or.inr rfl, Or.inr rfl, Or.inr rfl, Or.inr rfl, Or.inl rfl, Or.inr rfl, trivial⟩ ?_
        exact ih _ _ (by omega) (by exact mayI_x (L := fun p => D c (at_ + p)) hm hx) (by omega)
set_option maxHeartbeats 4000000 in
set_option maxRecDepth 100000 in
theorem zX10_joins {g : Gm} {l : Launch} {D : Dat} {c w : Nat} (hcw : Sx[c]? = some (100, w) ∧ w < 20000) {at_ : Int} {n : Int} {a : Int} {b : Int} (hat : 0 ≤ at_ ∧ at_ + 8 ≤ w) (hn : 0 < n ∧ n ≤ 8) (hlk : lkOk D c at_) (ha : 0 ≤ a ∧ a < n) (hb : 0 ≤ b ∧ b < n) : CrB g l 2 mX10_joins [vR c, vI at_, vI n, vI a, vI b] D (jnM (fun p => D c (at_ + p)) n a b) := by
  unfold CrB
  refine Cr.ofZ (lo0 := [vR c, vI at_, vI n, vI a, vI b, vN, vN, vN, vN]) (by decide) (Nat.le_of_ble_eq_true rfl) rfl (fun J hA hR => ?_)
  have hw := hcw.2
  have l1 := hlk a (by omega) (by omega)
  refine q_iload_n (j := 3) hA rfl dX10_joins_0 ?_
  refine q_iload (j := 4) hA rfl dX10_joins_1 ?_
  refine q_icmp_eq (tgt := 23) hA (by omega) (by omega) dX10_joins_3 (by decide) (fun h3 => ?_) (fun h3 => ?_)
  · refine q_iconst hA dX10_joins_23 ?_
    refine q_istore (j := 5) (lo2 := [vR c, vI at_, vI n, vI a, vI b, vI 0, vN, vN, vN]) hA dX10_joins_24 (by decide) rfl rfl ?_
    refine q_iconst hA dX10_joins_26 ?_
    refine q_istore (j := 6) (lo2 := [vR c, vI at_, vI n, vI a, vI b, vI 0, vI 0, vN, vN]) hA dX10_joins_27 (by decide) rfl rfl ?_
    refine zX10_joins_L29 (D := D) (c := c) (w := w) (at_ := at_) (n := n) (a := a) (b := b) hcw hat hn hlk ha hb  hA hR 1000 _ _ (by omega) (by first | exact mayO_1 (L := fun p => D c (at_ + p)) h3 h16 | exact mayO_0 h3 | exact mayO_2 (L := fun p => D c (at_ + p)) h16) (by omega)
  · refine q_aload_n (j := 0) hA rfl dX10_joins_6 ?_
    refine q_iload_n (j := 1) hA rfl dX10_joins_7 ?_
    refine q_iload_n (j := 3) hA rfl dX10_joins_8 ?_
    refine q_iadd hA dX10_joins_9 ?_
    refine q_iald (x := D c (at_ + a)) hA dX10_joins_10 hcw.1 (by omega) (by omega) rfl ?_
    refine q_iload (j := 4) hA rfl dX10_joins_11 ?_
    refine q_ishr hA dX10_joins_13 ?_
    refine q_iconst hA dX10_joins_14 ?_
    refine q_iand hA dX10_joins_15 ?_
    rw [show iAnd (iShr (D c (at_ + a)) b) 1 = if tb (D c (at_ + a)) b then 1 else 0 from bitT (by omega) (by omega)]
    have l3 := if10_in (b := tb (D c (at_ + a)) b)
    refine q_if_ne (tgt := 23) hA (by omega) dX10_joins_16 (by decide) (fun h16 => ?_) (fun h16 => ?_)
    · refine q_iconst hA dX10_joins_23 ?_
      refine q_istore (j := 5) (lo2 := [vR c, vI at_, vI n, vI a, vI b, vI 0, vN, vN, vN]) hA dX10_joins_24 (by decide) rfl rfl ?_
      refine q_iconst hA dX10_joins_26 ?_
      refine q_istore (j := 6) (lo2 := [vR c, vI at_, vI n, vI a, vI b, vI 0, vI 0, vN, vN]) hA dX10_joins_27 (by decide) rfl rfl ?_
      refine zX10_joins_L29 (D := D) (c := c) (w := w) (at_ := at_) (n := n) (a := a) (b := b) hcw hat hn hlk ha hb  hA hR 1000 _ _ (by omega) (by first | exact mayO_1 (L := fun p => D c (at_ + p)) h3 h16 | exact mayO_0 h3 | exact mayO_2 (L := fun p => D c (at_ + p)) h16) (by omega)
    · refine q_iconst hA dX10_joins_19 ?_
      refine q_goto (tgt := 24) hA dX10_joins_20 (by decide) ?_
      refine q_istore (j := 5) (lo2 := [vR c, vI at_, vI n, vI a, vI b, vI 1, vN, vN, vN]) hA dX10_joins_24 (by decide) rfl rfl ?_
      refine q_iconst hA dX10_joins_26 ?_
      refine q_istore (j := 6) (lo2 := [vR c, vI at_, vI n, vI a, vI b, vI 1, vI 0, vN, vN]) hA dX10_joins_27 (by decide) rfl rfl ?_
      refine zX10_joins_L29 (D := D) (c := c) (w := w) (at_ := at_) (n := n) (a := a) (b := b) hcw hat hn hlk ha hb  hA hR 1000 _ _ (by omega) (by first | exact mayO_1 (L := fun p => D c (at_ + p)) h3 h16 | exact mayO_0 h3 | exact mayO_2 (L := fun p => D c (at_ + p)) h16) (by omega)
set_option maxHeartbeats 4000000 in
set_option maxRecDepth 100000 in
theorem zX10_ring_L22 {g : Gm} {l : Launch} {D : Dat} {c w : Nat} (hcw : Sx[c]? = some (100, w) ∧ w < 20000) {at_ : Int} {n : Int} (hat : 0 ≤ at_ ∧ at_ + 8 ≤ w) (hn : 0 < n ∧ n ≤ 8)   {J : JT} (hA : AX g l RX10 cX10_ring 4 2 J) (hR : ReV cX10_ring (fun D1 => D1 = rnM D c at_ n n.toNat) J) : ∀ (fuel : Nat) (k : Int) (E : Dat), (0 ≤ k ∧ k ≤ n) → (E = rnM D c at_ n k.toNat) → n - k < (fuel : Int) → J 22 [vR c, vI at_, vI n, vI k] [] E := by
  intro fuel
  induction fuel with
  | zero => intro k E hk he hMs; exact absurd hMs (by omega)
  | succ fuel ih =>
    intro k E hk he hMs
    have hw := hcw.2
    refine q_iload_n (j := 3) hA rfl dX10_ring_22 ?_
    refine q_iload_n (j := 2) hA rfl dX10_ring_23 ?_
    refine q_icmp_ge (tgt := 44) hA (by omega) (by omega) dX10_ring_24 (by decide) (fun h24 => ?_) (fun h24 => ?_)
    · exact hR 44 _ _ dX10_ring_44 (by rw [show k.toNat = n.toNat by omega] at he; exact he)
    · have m1 := Int.emod_nonneg (k + 1) (show n ≠ 0 by omega)
      have m2 := Int.emod_lt_of_pos (k + 1) (show 0 < n by omega)
      have lk := rnM_ok (D := D) (c := c) (o := at_) hn k.toNat (by omega)
      rw [← he] at lk
      refine q_aload_n (j := 0) hA rfl dX10_ring_27 ?_
      refine q_iload_n (j := 1) hA rfl dX10_ring_28 ?_
      refine q_iload_n (j := 3) hA rfl dX10_ring_29 ?_
      refine q_iload_n (j := 3) hA rfl dX10_ring_30 ?_
      refine q_iconst hA dX10_ring_31 ?_
      refine q_iadd hA dX10_ring_32 ?_
      refine q_iload_n (j := 2) hA rfl dX10_ring_33 ?_
      refine q_irem hA (by omega) (by omega) dX10_ring_34 ?_
      refine q_callSV (As := [vR c, vI at_, vI k, vI ((k + 1) % n)]) (st := []) hA l_X10_108 kX10_links (zX10_links (by first | assumption | omega | rfl) (by first | assumption | omega | rfl) (by first | assumption | omega | rfl) (by first | assumption | omega | rfl) (by first | assumption | omega | rfl)) dX10_ring_35 rfl rfl (Nat.le_of_ble_eq_true rfl) (by omega) (fun D35 q35 => ?_)
      refine q_iinc (j := 3) (lo2 := [vR c, vI at_, vI n, vI (k + 1)]) hA dX10_ring_38 rfl (by decide) rfl rfl ?_
      refine q_goto (tgt := 22) hA dX10_ring_41 (by decide) ?_
      exact ih _ _ (by omega) (by rw [rnM_step (by omega), ← he]; exact q35) (by omega)
set_option maxHeartbeats 4000000 in
set_option maxRecDepth 100000 in
theorem zX10_ring_L2 {g : Gm} {l : Launch} {D : Dat} {c w : Nat} (hcw : Sx[c]? = some (100, w) ∧ w < 20000) {at_ : Int} {n : Int} (hat : 0 ≤ at_ ∧ at_ + 8 ≤ w) (hn : 0 < n ∧ n ≤ 8)   {J : JT} (hA : AX g l RX10 cX10_ring 4 2 J) (hR : ReV cX10_ring (fun D1 => D1 = rnM D c at_ n n.toNat) J) : ∀ (fuel : Nat) (k : Int) (E : Dat), (0 ≤ k ∧ k ≤ 8) → (E = clM D c at_ k.toNat) → 8 - k < (fuel : Int) → J 2 [vR c, vI at_, vI n, vI k] [] E := by
  intro fuel
  induction fuel with
  | zero => intro k E hk he hMs; exact absurd hMs (by omega)
  | succ fuel ih =>
    intro k E hk he hMs
    have hw := hcw.2
    refine q_iload_n (j := 3) hA rfl dX10_ring_2 ?_
    refine q_bipush hA (by decide) dX10_ring_3 ?_
    refine q_icmp_ge (tgt := 20) hA (by omega) (by omega) dX10_ring_5 (by decide) (fun h5 => ?_) (fun h5 => ?_)
    · refine q_iconst hA dX10_ring_20 ?_
      refine q_istore_n (j := 3) (lo2 := [vR c, vI at_, vI n, vI 0]) hA dX10_ring_21 (by decide) rfl rfl ?_
      refine zX10_ring_L22 (D := D) (c := c) (w := w) (at_ := at_) (n := n) hcw hat hn  hA hR 1000 _ _ (by omega) (by rw [he, show k = 8 by omega]; rfl) (by omega)
    · refine q_aload_n (j := 0) hA rfl dX10_ring_8 ?_
      refine q_iload_n (j := 1) hA rfl dX10_ring_9 ?_
      refine q_iload_n (j := 3) hA rfl dX10_ring_10 ?_
      refine q_iadd hA dX10_ring_11 ?_
      refine q_iconst hA dX10_ring_12 ?_
      refine q_iast hA dX10_ring_13 hcw.1 (by omega) (by omega) ?_
      refine q_iinc (j := 3) (lo2 := [vR c, vI at_, vI n, vI (k + 1)]) hA dX10_ring_14 rfl (by decide) rfl rfl ?_
      refine q_goto (tgt := 2) hA dX10_ring_17 (by decide) ?_
      exact ih _ _ (by omega) (by rw [clM_step (by omega), he]) (by omega)
set_option maxHeartbeats 4000000 in
set_option maxRecDepth 100000 in
theorem zX10_ring {g : Gm} {l : Launch} {D : Dat} {c w : Nat} (hcw : Sx[c]? = some (100, w) ∧ w < 20000) {at_ : Int} {n : Int} (hat : 0 ≤ at_ ∧ at_ + 8 ≤ w) (hn : 0 < n ∧ n ≤ 8) : CrV g l 2 mX10_ring [vR c, vI at_, vI n] D (fun D1 => D1 = rnM D c at_ n n.toNat) := by
  refine Cr.ofV (lo0 := [vR c, vI at_, vI n, vN]) (by decide) (Nat.le_of_ble_eq_true rfl) rfl (fun J hA hR => ?_)
  have hw := hcw.2
  refine q_iconst hA dX10_ring_0 ?_
  refine q_istore_n (j := 3) (lo2 := [vR c, vI at_, vI n, vI 0]) hA dX10_ring_1 (by decide) rfl rfl ?_
  refine zX10_ring_L2 (D := D) (c := c) (w := w) (at_ := at_) (n := n) hcw hat hn  hA hR 1000 _ _ (by omega) (by rfl) (by omega)
set_option maxHeartbeats 4000000 in
set_option maxRecDepth 100000 in
theorem zX10_figure {g : Gm} {l : Launch} {D : Dat} (ht : 0 ≤ D 283 3 ∧ D 283 3 ≤ D 283 2 ∧ D 283 2 ≤ 80) (htp : ∀ i : Int, 0 ≤ i → i < 80 → 0 ≤ D 285 i ∧ D 285 i ≤ 255) {x : Int} {y : Int} (hx : 0 ≤ x ∧ x ≤ 9) (hy : 0 ≤ y ∧ y ≤ 9) : CrI g l 2 mX10_figure [vR 283, vI x, vI y] D (fun v D1 => ((x ≤ mAt D (D 283 3) - 48 ∧ mAt D (D 283 3) - 48 ≤ y) ∧ v = mAt D (D 283 3) - 48 ∧ D1 = upD D 283 3 (D 283 3 + 1)) ∨ (¬ (x ≤ mAt D (D 283 3) - 48 ∧ mAt D (D 283 3) - 48 ≤ y) ∧ v = -1 ∧ D1 = D)) := by
  refine Cr.ofI (lo0 := [vR 283, vI x, vI y, vN]) (by decide) (Nat.le_of_ble_eq_true rfl) rfl (fun J hA hR => ?_)
  refine q_aload_n (j := 0) hA rfl dX10_figure_0 ?_
  refine q_callVP (b := 283) (As := []) (st := []) hA l_X10_88 kX10_here (zX10_here (by first | assumption | omega | rfl) (by first | assumption | omega | rfl)) dX10_figure_1 rfl rfl sx_283 (by decide) rfl (Nat.le_of_ble_eq_true rfl) (by omega) ?_
  refine q_nmI (fun v1 ev1 => ?_)
  have hmi := mAt_in htp (p := D 283 3) (by omega)
  rw [← ev1] at hmi
  refine q_bipush hA (by decide) dX10_figure_4 ?_
  refine q_isub hA dX10_figure_6 ?_
  refine q_istore_n (j := 3) (lo2 := [vR 283, vI x, vI y, vI (v1 - 48)]) hA dX10_figure_7 (by decide) rfl rfl ?_
  refine q_iload_n (j := 3) hA rfl dX10_figure_8 ?_
  refine q_i2l hA (by omega) dX10_figure_9 ?_
  refine q_iload_n (j := 1) hA rfl dX10_figure_10 ?_
  refine q_i2l hA (by omega) dX10_figure_11 ?_
  refine q_iload_n (j := 2) hA rfl dX10_figure_12 ?_
  refine q_i2l hA (by omega) dX10_figure_13 ?_
  refine q_callSB (As := [vL (v1 - 48), vL x, vL y]) (st := []) hA l_X10_77 kX10_in (zX10_in (by first | assumption | omega | rfl) (by first | assumption | omega | rfl) (by first | assumption | omega | rfl)) dX10_figure_14 rfl rfl (Nat.le_of_ble_eq_true rfl) (by omega) (fun h14 => ?_) (fun h14 => ?_)
  · refine q_if_ne (tgt := 22) hA (by decide) dX10_figure_17 (by decide) (fun h17 => ?_) (fun h17 => absurd h17 (by decide))
    refine q_aload_n (j := 0) hA rfl dX10_figure_22 ?_
    refine q_dupR hA dX10_figure_23 ?_
    refine q_getI (x := D 283 3) hA f_X10_85 dX10_figure_24 sx_283 (by decide) rfl ?_
    refine q_iconst hA dX10_figure_27 ?_
    refine q_iadd hA dX10_figure_28 ?_
    refine q_putI hA f_X10_85 dX10_figure_29 sx_283 (by decide) ?_
    show J _ _ _ (upD D 283 3 ((D 283 3) + 1))
    refine q_iload_n (j := 3) hA rfl dX10_figure_32 ?_
    exact hR 33 _ _ _ dX10_figure_33 (by rw [← ev1]; exact Or.inl ⟨h14, rfl, rfl⟩)
  · refine q_if_ne (tgt := 22) hA (by decide) dX10_figure_17 (by decide) (fun h17 => absurd h17 (by decide)) (fun h17 => ?_)
    refine q_iconst hA dX10_figure_20 ?_
    exact hR 21 _ _ _ dX10_figure_21 (by rw [← ev1]; exact Or.inr ⟨h14, rfl, rfl⟩)
set_option maxHeartbeats 4000000 in
set_option maxRecDepth 100000 in
theorem zX10_has {g : Gm} {l : Launch} {D : Dat} (ht : 0 ≤ D 283 3 ∧ D 283 3 ≤ D 283 2 ∧ D 283 2 ≤ 80) (htp : ∀ i : Int, 0 ≤ i → i < 80 → 0 ≤ D 285 i ∧ D 285 i ≤ 255) {x : Int} (hx : 0 ≤ x ∧ x ≤ 255) : CrI g l 2 mX10_has [vR 283, vI x] D (fun v D1 => (mAt D (D 283 3) = x ∧ v = 1 ∧ D1 = upD D 283 3 (D 283 3 + 1)) ∨ (¬ mAt D (D 283 3) = x ∧ v = 0 ∧ D1 = D)) := by
  refine Cr.ofZ (lo0 := [vR 283, vI x]) (by decide) (Nat.le_of_ble_eq_true rfl) rfl (fun J hA hR => ?_)
  refine q_aload_n (j := 0) hA rfl dX10_has_0 ?_
  refine q_callVP (b := 283) (As := []) (st := []) hA l_X10_88 kX10_here (zX10_here (by first | assumption | omega | rfl) (by first | assumption | omega | rfl)) dX10_has_1 rfl rfl sx_283 (by decide) rfl (Nat.le_of_ble_eq_true rfl) (by omega) ?_
  refine q_nmI (fun v1 ev1 => ?_)
  have hmi := mAt_in htp (p := D 283 3) (by omega)
  rw [← ev1] at hmi
  refine q_iload_n (j := 1) hA rfl dX10_has_4 ?_
  refine q_icmp_eq (tgt := 10) hA (by omega) (by omega) dX10_has_5 (by decide) (fun h5 => ?_) (fun h5 => ?_)
  · refine q_aload_n (j := 0) hA rfl dX10_has_10 ?_
    refine q_dupR hA dX10_has_11 ?_
    refine q_getI (x := D 283 3) hA f_X10_85 dX10_has_12 sx_283 (by decide) rfl ?_
    refine q_iconst hA dX10_has_15 ?_
    refine q_iadd hA dX10_has_16 ?_
    refine q_putI hA f_X10_85 dX10_has_17 sx_283 (by decide) ?_
    show J _ _ _ (upD D 283 3 ((D 283 3) + 1))
    refine q_iconst hA dX10_has_20 ?_
    exact hR 21 _ _ _ dX10_has_21 (by omega) (by rw [← ev1]; exact Or.inl ⟨h5, rfl, rfl⟩)
  · refine q_iconst hA dX10_has_8 ?_
    exact hR 9 _ _ _ dX10_has_9 (by omega) (by rw [← ev1]; exact Or.inr ⟨h5, rfl, rfl⟩)
set_option maxHeartbeats 4000000 in
set_option maxRecDepth 100000 in
theorem zX10_readsPictures_L2 {g : Gm} {l : Launch} {D : Dat} (ht : 0 ≤ D 283 3 ∧ D 283 3 ≤ D 283 2 ∧ D 283 2 ≤ 80) (htp : ∀ i : Int, 0 ≤ i → i < 80 → 0 ≤ D 285 i ∧ D 285 i ≤ 255) (hz0 : rowM D 286 0 = zR)   {J : JT} (hA : AX g l RX10 cX10_readsPictures 3 3 J) (hR : ReZ cX10_readsPictures (fun v D1 => MB D D1 v (pb (pPics (mAt D) 8 (rowM D 286 0) (D 283 3)) (fun r p => sgn (mAt D) 59 r p)) ∧ (v = 1 → 3 ≤ D1 286 0 ∧ D1 286 0 ≤ 8)) J) : ∀ (fuel : Nat) (k : Int) (E : Dat) (r : Row), (0 ≤ k ∧ k < 8) → (pf D E) → (0 ≤ E 283 3 ∧ E 283 3 ≤ D 283 2) → (rdZ r) → (rN r = k) → (rowM E 286 0 = r.set 0 0) → (pPics (mAt D) 8 (rowM D 286 0) (D 283 3) = pPics (mAt D) (8 - k).toNat r (E 283 3)) → 8 - k < (fuel : Int) → J 2 [vR 283, vI k, vN] [] E := by
  intro fuel
  induction fuel with
  | zero => intro k E r hk hE hpl hz hr hrow hv hMs; exact absurd hMs (by omega)
  | succ fuel ih =>
    intro k E r hk hE hpl hz hr hrow hv hMs
    have hts := hE.ts
    have hat := hE.at
    have htp2 := hE.tp htp
    have hmi := mAt_in htp2 (p := E 283 3) (by omega)
    refine q_iload_n (j := 1) hA rfl dX10_readsPictures_2 ?_
    refine q_bipush hA (by decide) dX10_readsPictures_3 ?_
    refine q_icmp_ge (tgt := 18) hA (by omega) (by omega) dX10_readsPictures_5 (by decide) (fun h5 => absurd h5 (by omega)) (fun h5 => ?_)
    refine q_aload_n (j := 0) hA rfl dX10_readsPictures_8 ?_
    refine q_callVP (b := 283) (As := []) (st := []) hA l_X10_88 kX10_here (zX10_here (by first | assumption | omega | rfl) (by first | assumption | omega | rfl)) dX10_readsPictures_9 rfl rfl sx_283 (by decide) rfl (Nat.le_of_ble_eq_true rfl) (by omega) ?_
    refine q_nmI (fun v9 ev9 => ?_)
    rw [← ev9] at hmi
    refine q_callSP (As := [vI v9]) (st := []) hA l_X10_92 kX10_kindBy (zX10_kindBy (by first | assumption | omega | rfl)) dX10_readsPictures_12 rfl rfl (Nat.le_of_ble_eq_true rfl) (by omega) ?_
    refine q_nmI (fun v12 ev12 => ?_)
    refine q_goto (tgt := 19) hA dX10_readsPictures_15 (by decide) ?_
    have hkk := kindM_L v9
    rw [← ev12] at hkk
    rw [hat] at ev9
    refine q_istore_n (j := 2) (lo2 := [vR 283, vI k, vI v12]) hA dX10_readsPictures_19 (by decide) rfl rfl ?_
    refine q_iload_n (j := 2) hA rfl dX10_readsPictures_20 ?_
    refine q_if_ne (tgt := 26) hA (by omega) dX10_readsPictures_21 (by decide) (fun h21 => ?_) (fun h21 => ?_)
    · have hlt : E 283 3 < E 283 2 := by (by_cases hq : E 283 3 < E 283 2; exact hq; rw [hmi.2.2 (by omega)] at hkk; have hk1 : kindL (-1) = -4 := rfl; omega)
      have hkd : v12 = kindL (mAt D (E 283 3)) := by rw [← ev9]; omega
      refine q_aload_n (j := 0) hA rfl dX10_readsPictures_26 ?_
      refine q_dupR hA dX10_readsPictures_27 ?_
      refine q_getI (x := E 283 3) hA f_X10_85 dX10_readsPictures_28 sx_283 (by decide) rfl ?_
      refine q_iconst hA dX10_readsPictures_31 ?_
      refine q_iadd hA dX10_readsPictures_32 ?_
      refine q_putI hA f_X10_85 dX10_readsPictures_33 sx_283 (by decide) ?_
      show J _ _ _ (upD E 283 3 ((E 283 3) + 1))
      refine q_aload_n (j := 0) hA rfl dX10_readsPictures_36 ?_
      refine q_getR hA f_X10_16 dX10_readsPictures_37 sx_283 (by decide) fx_283_4 ?_
      refine q_iconst hA dX10_readsPictures_40 ?_
      refine q_iload_n (j := 1) hA rfl dX10_readsPictures_41 ?_
      refine q_iadd hA dX10_readsPictures_42 ?_
      refine q_iload_n (j := 2) hA rfl dX10_readsPictures_43 ?_
      refine q_iast hA dX10_readsPictures_44 sx_286 (by omega) (by decide) ?_
      refine q_nmD (fun F eF => ?_)
      have hF : pf D F := eF ▸ (pf.up (pf.pl hE))
      have hFp : F 283 3 = E 283 3 + 1 := by rw [eF, upD_n (Or.inl (by omega)), upD_s]
      have hFr : rowM F 286 0 = (r.set 0 0).set (4 + k.toNat) v12 := by rw [eF, rowM_up (by omega), rowM_up_o (Or.inl (by omega)), hrow, show (4 + k - 0).toNat = 4 + k.toNat by omega]
      have hFs := hF.ts
      have hFt := hF.tp htp
      have i57 := figT_in (mAt D) (E 283 3 + 1)
      refine q_aload_n (j := 0) hA rfl dX10_readsPictures_45 ?_
      refine q_getR hA f_X10_16 dX10_readsPictures_46 sx_283 (by decide) fx_283_4 ?_
      refine q_bipush hA (by decide) dX10_readsPictures_49 ?_
      refine q_iload_n (j := 1) hA rfl dX10_readsPictures_51 ?_
      refine q_iadd hA dX10_readsPictures_52 ?_
      refine q_aload_n (j := 0) hA rfl dX10_readsPictures_53 ?_
      refine q_iconst hA dX10_readsPictures_54 ?_
      refine q_bipush hA (by decide) dX10_readsPictures_55 ?_
      refine q_callVI (b := 283) (As := [vI 0, vI 9]) (st := [vI (12 + k), vR 286]) hA l_X10_96 kX10_figure (zX10_figure (by first | assumption | omega | rfl) (by first | assumption | omega | rfl) (by first | assumption | omega | rfl) (by first | assumption | omega | rfl)) dX10_readsPictures_57 rfl rfl sx_283 (by decide) rfl (Nat.le_of_ble_eq_true rfl) (by omega) (fun v57 D57 q57 => ?_)
      have g57 := figQ_of (by omega) (by omega) q57
      unfold figQ at g57
      rw [hF.at, hFp, hF.ts] at g57
      obtain ⟨f57, r57, c57⟩ := g57
      refine q_iast hA dX10_readsPictures_60 sx_286 (by omega) (by decide) ?_
      refine q_nmD (fun G eG => ?_)
      have hG : pf D G := eG ▸ (hF.tr f57).up
      have hGp : G 283 3 = D57 283 3 := by rw [eG, upD_n (Or.inl (by omega))]
      have hGr : rowM G 286 0 = ((r.set 0 0).set (4 + k.toNat) v12).set (12 + k.toNat) v57 := by rw [eG, rowM_up (by omega), rowM_c r57, hFr, show (12 + k - 0).toNat = 12 + k.toNat by omega]
      have hGs := hG.ts
      have hGt := hG.tp htp
      refine q_aload_n (j := 0) hA rfl dX10_readsPictures_61 ?_
      refine q_getR hA f_X10_16 dX10_readsPictures_62 sx_283 (by decide) fx_283_4 ?_
      refine q_bipush hA (by decide) dX10_readsPictures_65 ?_
      refine q_iload_n (j := 1) hA rfl dX10_readsPictures_67 ?_
      refine q_iadd hA dX10_readsPictures_68 ?_
      refine q_iald (x := v57) hA dX10_readsPictures_69 sx_286 (by omega) (by decide) (by rw [eG]; exact upD_s) ?_
      refine q_if_ge (tgt := 75) hA (by omega) dX10_readsPictures_70 (by decide) (fun h70 => ?_) (fun h70 => ?_)
      · have hp57 : D57 283 3 = E 283 3 + 1 + 1 := by omega
        have ew : v57 = figT (mAt D) (E 283 3 + 1) := by omega
        rw [hp57, show E 283 3 + 1 + 1 = E 283 3 + 2 by omega] at hGp
        have i87 := figT_in (mAt D) (E 283 3 + 2)
        refine q_aload_n (j := 0) hA rfl dX10_readsPictures_75 ?_
        refine q_getR hA f_X10_16 dX10_readsPictures_76 sx_283 (by decide) fx_283_4 ?_
        refine q_bipush hA (by decide) dX10_readsPictures_79 ?_
        refine q_iload_n (j := 1) hA rfl dX10_readsPictures_81 ?_
        refine q_iadd hA dX10_readsPictures_82 ?_
        refine q_aload_n (j := 0) hA rfl dX10_readsPictures_83 ?_
        refine q_iconst hA dX10_readsPictures_84 ?_
        refine q_bipush hA (by decide) dX10_readsPictures_85 ?_
        refine q_callVI (b := 283) (As := [vI 1, vI 9]) (st := [vI (20 + k), vR 286]) hA l_X10_96 kX10_figure (zX10_figure (by first | assumption | omega | rfl) (by first | assumption | omega | rfl) (by first | assumption | omega | rfl) (by first | assumption | omega | rfl)) dX10_readsPictures_87 rfl rfl sx_283 (by decide) rfl (Nat.le_of_ble_eq_true rfl) (by omega) (fun v87 D87 q87 => ?_)
        have g87 := figQ_of (by omega) (by omega) q87
        unfold figQ at g87
        rw [hG.at, hGp, hG.ts] at g87
        obtain ⟨f87, r87, c87⟩ := g87
        refine q_iast hA dX10_readsPictures_90 sx_286 (by omega) (by decide) ?_
        refine q_nmD (fun H eH => ?_)
        have hH : pf D H := eH ▸ (hG.tr f87).up
        have hHp : H 283 3 = D87 283 3 := by rw [eH, upD_n (Or.inl (by omega))]
        have hHr : rowM H 286 0 = (addR r v12 v57 v87).set 0 0 := by rw [eH, rowM_up (by omega), rowM_c r87, hGr, show (20 + k - 0).toNat = 20 + k.toNat by omega, pic_row hz hr hk]
        have hHs := hH.ts
        have hHt := hH.tp htp
        refine q_aload_n (j := 0) hA rfl dX10_readsPictures_91 ?_
        refine q_getR hA f_X10_16 dX10_readsPictures_92 sx_283 (by decide) fx_283_4 ?_
        refine q_bipush hA (by decide) dX10_readsPictures_95 ?_
        refine q_iload_n (j := 1) hA rfl dX10_readsPictures_97 ?_
        refine q_iadd hA dX10_readsPictures_98 ?_
        refine q_iald (x := v87) hA dX10_readsPictures_99 sx_286 (by omega) (by decide) (by rw [eH]; exact upD_s) ?_
        refine q_if_ge (tgt := 105) hA (by omega) dX10_readsPictures_100 (by decide) (fun h100 => ?_) (fun h100 => ?_)
        · have hp87 : H 283 3 = E 283 3 + 3 := by omega
          have hpic : pPic (mAt D) r (E 283 3) = (true, addR r v12 v57 v87, E 283 3 + 3) := by unfold pPic; rw [if_neg (by omega), if_neg (by omega), if_neg (by omega), ← hkd, ← ew, show figT (mAt D) (E 283 3 + 2) = v87 by omega]
          have hN : rN (addR r v12 v57 v87) = k + 1 := by rw [addR_n hz.1, hr]
          refine q_iinc (j := 1) (lo2 := [vR 283, vI (k + 1), vI v12]) hA dX10_readsPictures_105 rfl (by decide) rfl rfl ?_
          refine q_iload_n (j := 1) hA rfl dX10_readsPictures_108 ?_
          refine q_bipush hA (by decide) dX10_readsPictures_109 ?_
          refine q_icmp_ge (tgt := 123) hA (by omega) (by omega) dX10_readsPictures_111 (by decide) (fun h111 => ?_) (fun h111 => ?_)
          · refine q_aload_n (j := 0) hA rfl dX10_readsPictures_123 ?_
            refine q_getR hA f_X10_16 dX10_readsPictures_124 sx_283 (by decide) fx_283_4 ?_
            refine q_iconst hA dX10_readsPictures_127 ?_
            refine q_iload_n (j := 1) hA rfl dX10_readsPictures_128 ?_
            refine q_iast hA dX10_readsPictures_129 sx_286 (by omega) (by decide) ?_
            refine q_nmD (fun K eK => ?_)
            have hK : pf D K := by first | exact eK ▸ hH.up | exact eK ▸ (hH.tr f117).up
            have hKp : K 283 3 = E 283 3 + 3 := by first | (rw [eK, upD_n (Or.inl (by omega))]; omega) | (rw [eK, upD_n (Or.inl (by omega))]; exact hp87)
            have hKr : rowM K 286 0 = addR r v12 v57 v87 := by first | (rw [eK, rowM_up (by omega), hHr]; exact set0 (addR_len hz.1) hN) | (rw [eK, rowM_up (by omega), rowM_c r117, hHr]; exact set0 (addR_len hz.1) hN)
            have hKs := hK.ts
            have hKt := hK.tp htp
            have hxx := (pp_t hk hv hpic).trans (if_pos (by first | exact Or.inl (hN.trans (by omega)) | exact Or.inr (by omega)))
            rw [hN] at hxx
            refine q_iload_n (j := 1) hA rfl dX10_readsPictures_130 ?_
            refine q_iconst hA dX10_readsPictures_131 ?_
            refine q_icmp_le (tgt := 148) hA (by omega) (by omega) dX10_readsPictures_132 (by decide) (fun h132 => ?_) (fun h132 => ?_)
            · refine q_iconst hA dX10_readsPictures_148 ?_
              exact hR 149 _ _ _ dX10_readsPictures_149 (by omega) (by first | exact ⟨MB_f (hxx.trans (by rw [decide_eq_false (by omega)])) hKp hK (by omega), fun z => absurd z (by decide)⟩ | exact ⟨MB_s (hxx.trans (by rw [decide_eq_true (by omega)])) hK hKp hKr (by omega) g138 (by omega), fun _ => by rw [g138.2.1, show K 286 0 = k + 1 from (mN K 286).symm.trans (by rw [hKr, hN])]; omega⟩)
            · refine q_aload_n (j := 0) hA rfl dX10_readsPictures_135 ?_
              refine q_bipush hA (by decide) dX10_readsPictures_136 ?_
              refine q_callVI (b := 283) (As := [vI 59]) (st := []) hA l_X10_100 kX10_has (zX10_has (by first | assumption | omega | rfl) (by first | assumption | omega | rfl) (by first | assumption | omega | rfl)) dX10_readsPictures_138 rfl rfl sx_283 (by decide) rfl (Nat.le_of_ble_eq_true rfl) (by omega) (fun v138 D138 q138 => ?_)
              have g138 := hasQ_of (by omega) q138
              have b138 : v138 = 0 ∨ v138 = 1 := (by rcases g138.2.2 with z | z <;> omega)
              refine q_if_eq (tgt := 148) hA (by omega) dX10_readsPictures_141 (by decide) (fun h141 => ?_) (fun h141 => ?_)
              · refine q_iconst hA dX10_readsPictures_148 ?_
                exact hR 149 _ _ _ dX10_readsPictures_149 (by omega) (by first | exact ⟨MB_f (hxx.trans (by rw [decide_eq_false (by omega)])) hKp hK (by omega), fun z => absurd z (by decide)⟩ | exact ⟨MB_s (hxx.trans (by rw [decide_eq_true (by omega)])) hK hKp hKr (by omega) g138 (by omega), fun _ => by rw [g138.2.1, show K 286 0 = k + 1 from (mN K 286).symm.trans (by rw [hKr, hN])]; omega⟩)
              · refine q_iconst hA dX10_readsPictures_144 ?_
                refine q_goto (tgt := 149) hA dX10_readsPictures_145 (by decide) ?_
                exact hR 149 _ _ _ dX10_readsPictures_149 (by omega) (by first | exact ⟨MB_f (hxx.trans (by rw [decide_eq_false (by omega)])) hKp hK (by omega), fun z => absurd z (by decide)⟩ | exact ⟨MB_s (hxx.trans (by rw [decide_eq_true (by omega)])) hK hKp hKr (by omega) g138 (by omega), fun _ => by rw [g138.2.1, show K 286 0 = k + 1 from (mN K 286).symm.trans (by rw [hKr, hN])]; omega⟩)
          · refine q_aload_n (j := 0) hA rfl dX10_readsPictures_114 ?_
            refine q_bipush hA (by decide) dX10_readsPictures_115 ?_
            refine q_callVI (b := 283) (As := [vI 44]) (st := []) hA l_X10_100 kX10_has (zX10_has (by first | assumption | omega | rfl) (by first | assumption | omega | rfl) (by first | assumption | omega | rfl)) dX10_readsPictures_117 rfl rfl sx_283 (by decide) rfl (Nat.le_of_ble_eq_true rfl) (by omega) (fun v117 D117 q117 => ?_)
            have g117 := hasQ_of (by omega) q117
            unfold hasQ at g117
            rw [hH.at, hp87, hH.ts] at g117
            obtain ⟨f117, r117, c117⟩ := g117
            refine q_if_ne (tgt := 2) hA (by omega) dX10_readsPictures_120 (by decide) (fun h120 => ?_) (fun h120 => ?_)
            · refine q_fgt (lo2 := [vR 283, vI (k + 1), vN]) hA ⟨Or.inr rfl, Or.inr rfl, Or.inl rfl, trivial⟩ ?_
              exact ih _ _ (addR r v12 v57 v87) (by omega) (by exact hH.tr f117) (by have := f117.ts; omega) (by exact hz.add (by omega)) (by rw [addR_n hz.1, hr]) (by rw [rowM_c r117, hHr]) (by rw [show D117 283 3 = E 283 3 + 3 + 1 by omega]; exact (pp_t hk hv hpic).trans (if_neg (by rw [addR_n hz.1, hr]; omega))) (by omega)
            · refine q_aload_n (j := 0) hA rfl dX10_readsPictures_123 ?_
              refine q_getR hA f_X10_16 dX10_readsPictures_124 sx_283 (by decide) fx_283_4 ?_
              refine q_iconst hA dX10_readsPictures_127 ?_
              refine q_iload_n (j := 1) hA rfl dX10_readsPictures_128 ?_
              refine q_iast hA dX10_readsPictures_129 sx_286 (by omega) (by decide) ?_
              refine q_nmD (fun K eK => ?_)
              have hK : pf D K := by first | exact eK ▸ hH.up | exact eK ▸ (hH.tr f117).up
              have hKp : K 283 3 = E 283 3 + 3 := by first | (rw [eK, upD_n (Or.inl (by omega))]; omega) | (rw [eK, upD_n (Or.inl (by omega))]; exact hp87)
              have hKr : rowM K 286 0 = addR r v12 v57 v87 := by first | (rw [eK, rowM_up (by omega), hHr]; exact set0 (addR_len hz.1) hN) | (rw [eK, rowM_up (by omega), rowM_c r117, hHr]; exact set0 (addR_len hz.1) hN)
              have hKs := hK.ts
              have hKt := hK.tp htp
              have hxx := (pp_t hk hv hpic).trans (if_pos (by first | exact Or.inl (hN.trans (by omega)) | exact Or.inr (by omega)))
              rw [hN] at hxx
              refine q_iload_n (j := 1) hA rfl dX10_readsPictures_130 ?_
              refine q_iconst hA dX10_readsPictures_131 ?_
              refine q_icmp_le (tgt := 148) hA (by omega) (by omega) dX10_readsPictures_132 (by decide) (fun h132 => ?_) (fun h132 => ?_)
              · refine q_iconst hA dX10_readsPictures_148 ?_
                exact hR 149 _ _ _ dX10_readsPictures_149 (by omega) (by first | exact ⟨MB_f (hxx.trans (by rw [decide_eq_false (by omega)])) hKp hK (by omega), fun z => absurd z (by decide)⟩ | exact ⟨MB_s (hxx.trans (by rw [decide_eq_true (by omega)])) hK hKp hKr (by omega) g138 (by omega), fun _ => by rw [g138.2.1, show K 286 0 = k + 1 from (mN K 286).symm.trans (by rw [hKr, hN])]; omega⟩)
              · refine q_aload_n (j := 0) hA rfl dX10_readsPictures_135 ?_
                refine q_bipush hA (by decide) dX10_readsPictures_136 ?_
                refine q_callVI (b := 283) (As := [vI 59]) (st := []) hA l_X10_100 kX10_has (zX10_has (by first | assumption | omega | rfl) (by first | assumption | omega | rfl) (by first | assumption | omega | rfl)) dX10_readsPictures_138 rfl rfl sx_283 (by decide) rfl (Nat.le_of_ble_eq_true rfl) (by omega) (fun v138 D138 q138 => ?_)
                have g138 := hasQ_of (by omega) q138
                have b138 : v138 = 0 ∨ v138 = 1 := (by rcases g138.2.2 with z | z <;> omega)
                refine q_if_eq (tgt := 148) hA (by omega) dX10_readsPictures_141 (by decide) (fun h141 => ?_) (fun h141 => ?_)
                · refine q_iconst hA dX10_readsPictures_148 ?_
                  exact hR 149 _ _ _ dX10_readsPictures_149 (by omega) (by first | exact ⟨MB_f (hxx.trans (by rw [decide_eq_false (by omega)])) hKp hK (by omega), fun z => absurd z (by decide)⟩ | exact ⟨MB_s (hxx.trans (by rw [decide_eq_true (by omega)])) hK hKp hKr (by omega) g138 (by omega), fun _ => by rw [g138.2.1, show K 286 0 = k + 1 from (mN K 286).symm.trans (by rw [hKr, hN])]; omega⟩)
                · refine q_iconst hA dX10_readsPictures_144 ?_
                  refine q_goto (tgt := 149) hA dX10_readsPictures_145 (by decide) ?_
                  exact hR 149 _ _ _ dX10_readsPictures_149 (by omega) (by first | exact ⟨MB_f (hxx.trans (by rw [decide_eq_false (by omega)])) hKp hK (by omega), fun z => absurd z (by decide)⟩ | exact ⟨MB_s (hxx.trans (by rw [decide_eq_true (by omega)])) hK hKp hKr (by omega) g138 (by omega), fun _ => by rw [g138.2.1, show K 286 0 = k + 1 from (mN K 286).symm.trans (by rw [hKr, hN])]; omega⟩)
        · refine q_iconst hA dX10_readsPictures_103 ?_
          exact hR 104 _ _ _ dX10_readsPictures_104 (by omega) (by exact ⟨MB_f (pp_f hk hv (by unfold pPic; rw [if_neg (by omega), if_neg (by omega), if_pos (by omega)])) (by omega) hH (by omega), fun z => absurd z (by decide)⟩)
      · refine q_iconst hA dX10_readsPictures_73 ?_
        exact hR 74 _ _ _ dX10_readsPictures_74 (by omega) (by exact ⟨MB_f (pp_f hk hv (by unfold pPic; rw [if_neg (by omega), if_pos (by omega)])) (by omega) hG (by omega), fun z => absurd z (by decide)⟩)
    · refine q_iconst hA dX10_readsPictures_24 ?_
      exact hR 25 _ _ _ dX10_readsPictures_25 (by omega) (by exact ⟨MB_f (pp_f hk hv (by unfold pPic; rw [if_pos (by rw [← ev9]; omega)])) rfl hE (by omega), fun z => absurd z (by decide)⟩)
set_option maxHeartbeats 4000000 in
set_option maxRecDepth 100000 in
theorem zX10_readsPictures {g : Gm} {l : Launch} {D : Dat} (ht : 0 ≤ D 283 3 ∧ D 283 3 ≤ D 283 2 ∧ D 283 2 ≤ 80) (htp : ∀ i : Int, 0 ≤ i → i < 80 → 0 ≤ D 285 i ∧ D 285 i ≤ 255) (hz0 : rowM D 286 0 = zR) : CrI g l 3 mX10_readsPictures [vR 283] D (fun v D1 => MB D D1 v (pb (pPics (mAt D) 8 (rowM D 286 0) (D 283 3)) (fun r p => sgn (mAt D) 59 r p)) ∧ (v = 1 → 3 ≤ D1 286 0 ∧ D1 286 0 ≤ 8)) := by
  refine Cr.ofZ (lo0 := [vR 283, vN, vN]) (by decide) (Nat.le_of_ble_eq_true rfl) rfl (fun J hA hR => ?_)
  refine q_iconst hA dX10_readsPictures_0 ?_
  refine q_istore_n (j := 1) (lo2 := [vR 283, vI 0, vN]) hA dX10_readsPictures_1 (by decide) rfl rfl ?_
  refine zX10_readsPictures_L2 (D := D) ht htp hz0  hA hR 1000 _ _ zR (by omega) (by exact pf.rf) (by omega) (by exact zR_Z) (by rfl) (by rw [hz0]; rfl) (by rw [hz0]; rfl) (by omega)
