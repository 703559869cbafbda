set_option maxHeartbeats 4000000 in
set_option maxRecDepth 100000 in
theorem zX10_joins_L43 {g : Gm} {l : Launch} {D : Dat} {c w : Nat} (hcw : Sx[c]? = some (100, w) ∧ w < 20000) {at_ : Int} {n : Int} {a : Int} {b : Int} (hat : 0 ≤ at_ ∧ at_ + 8 ≤ w) (hn : 0 < n ∧ n ≤ 8) (hlk : lkOk D c at_) (ha : 0 ≤ a ∧ a < n) (hb : 0 ≤ b ∧ b < n) {ci : Int} (hci : 0 ≤ ci ∧ ci < n) {J : JT} (hA : AX g l RX10 cX10_joins 9 2 J) (hR : ReZ cX10_joins (fun v D1 => D1 = D ∧ (((jnM (fun p => D c (at_ + p)) n a b) ∧ v = 1) ∨ (¬ (jnM (fun p => D c (at_ + p)) n a b) ∧ v = 0))) J) (hx : ∀ (m : Int) (d : Int), (0 ≤ d ∧ d ≤ n) → (mayI (fun p => D c (at_ + p)) n a b ci d m) → (n ≤ d ∨ m = 0) → J 117 [vR c, vI at_, vI n, vI a, vI b, vI m, vI ci, vI d, vN] [] D) : ∀ (fuel : Nat) (m : Int) (d : Int), (0 ≤ d ∧ d ≤ n) → (mayI (fun p => D c (at_ + p)) n a b ci d m) → n - d < (fuel : Int) → J 43 [vR c, vI at_, vI n, vI a, vI b, vI m, vI ci, vI d, vN] [] D := by
  intro fuel
  induction fuel with
  | zero => intro m d hd hm hMs; exact absurd hMs (by omega)
  | succ fuel ih =>
    intro m d hd hm hMs
    have hw := hcw.2
    have hmb := hm.b
    have l2 := hlk ci (by omega) (by omega)
    refine q_iload (j := 7) hA rfl dX10_joins_43 ?_
    refine q_iload_n (j := 2) hA rfl dX10_joins_45 ?_
    refine q_icmp_ge (tgt := 117) hA (by omega) (by omega) dX10_joins_46 (by decide) (fun h46 => ?_) (fun h46 => ?_)
    · exact hx _ _ hd hm (by omega)
    · refine q_iload (j := 5) hA rfl dX10_joins_49 ?_
      refine q_if_eq (tgt := 117) hA (by omega) dX10_joins_51 (by decide) (fun h51 => ?_) (fun h51 => ?_)
      · exact hx _ _ hd hm (by omega)
      · refine q_iload (j := 6) hA rfl dX10_joins_54 ?_
        refine q_iload_n (j := 3) hA rfl dX10_joins_56 ?_
        refine q_iload (j := 4) hA rfl dX10_joins_57 ?_
        refine q_iload_n (j := 2) hA rfl dX10_joins_59 ?_
        refine q_callSB (As := [vI ci, vI a, vI b, vI n]) (st := []) hA l_X10_104 kX10_isBetween (zX10_isBetween (by first | assumption | omega | rfl) (by first | assumption | omega | rfl) (by first | assumption | omega | rfl) (by first | assumption | omega | rfl)) dX10_joins_60 rfl rfl (Nat.le_of_ble_eq_true rfl) (by omega) (fun h60 => ?_) (fun h60 => ?_)
        · refine q_if_eq (tgt := 82) hA (by decide) dX10_joins_63 (by decide) (fun h63 => absurd h63 (by decide)) (fun h63 => ?_)
          refine q_iload (j := 7) hA rfl dX10_joins_66 ?_
          refine q_iload (j := 4) hA rfl dX10_joins_68 ?_
          refine q_iload_n (j := 3) hA rfl dX10_joins_70 ?_
          refine q_iload_n (j := 2) hA rfl dX10_joins_71 ?_
          refine q_callSB (As := [vI d, vI b, vI a, vI n]) (st := []) hA l_X10_104 kX10_isBetween (zX10_isBetween (by first | assumption | omega | rfl) (by first | assumption | omega | rfl) (by first | assumption | omega | rfl) (by first | assumption | omega | rfl)) dX10_joins_72 rfl rfl (Nat.le_of_ble_eq_true rfl) (by omega) (fun h72 => ?_) (fun h72 => ?_)
          · refine q_if_eq (tgt := 82) hA (by decide) dX10_joins_75 (by decide) (fun h75 => absurd h75 (by decide)) (fun h75 => ?_)
            refine q_iconst hA dX10_joins_78 ?_
            refine q_goto (tgt := 83) hA dX10_joins_79 (by decide) ?_
            refine q_istore (j := 8) (lo2 := [vR c, vI at_, vI n, vI a, vI b, vI m, vI ci, vI d, vI 1]) hA dX10_joins_83 (by decide) rfl rfl ?_
            refine q_iload (j := 8) hA rfl dX10_joins_85 ?_
            refine q_if_eq (tgt := 104) hA (by decide) dX10_joins_87 (by decide) (fun h87 => absurd h87 (by decide)) (fun h87 => ?_)
            refine q_aload_n (j := 0) hA rfl dX10_joins_90 ?_
            refine q_iload_n (j := 1) hA rfl dX10_joins_91 ?_
            refine q_iload (j := 6) hA rfl dX10_joins_92 ?_
            refine q_iadd hA dX10_joins_94 ?_
            refine q_iald (x := D c (at_ + ci)) hA dX10_joins_95 hcw.1 (by omega) (by omega) rfl ?_
            refine q_iload (j := 7) hA rfl dX10_joins_96 ?_
            refine q_ishr hA dX10_joins_98 ?_
            refine q_iconst hA dX10_joins_99 ?_
            refine q_iand hA dX10_joins_100 ?_
            rw [show iAnd (iShr (D c (at_ + ci)) d) 1 = if tb (D c (at_ + ci)) d then 1 else 0 from bitT (by omega) (by omega)]
            have l4 := if10_in (b := tb (D c (at_ + ci)) d)
            refine q_if_ne (tgt := 108) hA (by omega) dX10_joins_101 (by decide) (fun h101 => ?_) (fun h101 => ?_)
            · refine q_iconst hA dX10_joins_108 ?_
              refine q_istore (j := 5) (lo2 := [vR c, vI at_, vI n, vI a, vI b, vI 0, vI ci, vI d, vI 1]) hA dX10_joins_109 (by decide) rfl rfl ?_
              refine q_iinc (j := 7) (lo2 := [vR c, vI at_, vI n, vI a, vI b, vI 0, vI ci, vI (d + 1), vI 1]) hA dX10_joins_111 rfl (by decide) rfl rfl ?_
              refine q_goto (tgt := 43) hA dX10_joins_114 (by decide) ?_
              refine q_fgt (lo2 := [vR c, vI at_, vI n, vI a, vI b, vI 0, vI ci, vI (d + 1), vN]) hA ⟨Or.inr rfl, Or.inr rfl, Or.inr rfl, Or.inr rfl, Or.inr rfl, Or.inr rfl, Or.inr rfl, Or.inr rfl, Or.inl rfl, trivial⟩ ?_
              exact ih _ _ (by omega) (by first | exact mayI_a (L := fun p => D c (at_ + p)) hm h51 h60 | exact mayI_b (L := fun p => D c (at_ + p)) hm h51 h72 | exact mayI_c (L := fun p => D c (at_ + p)) hm h51 h101 | exact mayI_d (L := fun p => D c (at_ + p)) (by omega) (by omega) h60 h72 h101) (by omega)
            · refine q_iconst hA dX10_joins_104 ?_
              refine q_goto (tgt := 109) hA dX10_joins_105 (by decide) ?_
              refine q_istore (j := 5) (lo2 := [vR c, vI at_, vI n, vI a, vI b, vI 1, vI ci, vI d, vI 1]) hA dX10_joins_109 (by decide) rfl rfl ?_
              refine q_iinc (j := 7) (lo2 := [vR c, vI at_, vI n, vI a, vI b, vI 1, vI ci, vI (d + 1), vI 1]) hA dX10_joins_111 rfl (by decide) rfl rfl ?_
              refine q_goto (tgt := 43) hA dX10_joins_114 (by decide) ?_
              refine q_fgt (lo2 := [vR c, vI at_, vI n, vI a, vI b, vI 1, vI ci, vI (d + 1), vN]) hA ⟨Or.inr rfl, Or.inr rfl, Or.inr rfl, Or.inr rfl, Or.inr rfl, Or.inr rfl, Or.inr rfl, Or.inr rfl, Or.inl rfl, trivial⟩ ?_
              exact ih _ _ (by omega) (by first | exact mayI_a (L := fun p => D c (at_ + p)) hm h51 h60 | exact mayI_b (L := fun p => D c (at_ + p)) hm h51 h72 | exact mayI_c (L := fun p => D c (at_ + p)) hm h51 h101 | exact mayI_d (L := fun p => D c (at_ + p)) (by omega) (by omega) h60 h72 h101) (by omega)
          · refine q_if_eq (tgt := 82) hA (by decide) dX10_joins_75 (by decide) (fun h75 => ?_) (fun h75 => absurd h75 (by decide))
            refine q_iconst hA dX10_joins_82 ?_
            refine q_istore (j := 8) (lo2 := [vR c, vI at_, vI n, vI a, vI b, vI m, vI ci, vI d, vI 0]) hA dX10_joins_83 (by decide) rfl rfl ?_
            refine q_iload (j := 8) hA rfl dX10_joins_85 ?_
            refine q_if_eq (tgt := 104) hA (by decide) dX10_joins_87 (by decide) (fun h87 => ?_) (fun h87 => absurd h87 (by decide))
            refine q_iconst hA dX10_joins_104 ?_
            refine q_goto (tgt := 109) hA dX10_joins_105 (by decide) ?_
            refine q_istore (j := 5) (lo2 := [vR c, vI at_, vI n, vI a, vI b, vI 1, vI ci, vI d, vI 0]) hA dX10_joins_109 (by decide) rfl rfl ?_
            refine q_iinc (j := 7) (lo2 := [vR c, vI at_, vI n, vI a, vI b, vI 1, vI ci, vI (d + 1), vI 0]) hA dX10_joins_111 rfl (by decide) rfl rfl ?_
            refine q_goto (tgt := 43) hA dX10_joins_114 (by decide) ?_
            refine q_fgt (lo2 := [vR c, vI at_, vI n, vI a, vI b, vI 1, vI ci, vI (d + 1), vN]) hA ⟨Or.inr rfl, Or.inr rfl, Or.inr rfl, Or.inr rfl, Or.inr rfl, Or.inr rfl, Or.inr rfl, Or.inr rfl, Or.inl rfl, trivial⟩ ?_
            exact ih _ _ (by omega) (by first | exact mayI_a (L := fun p => D c (at_ + p)) hm h51 h60 | exact mayI_b (L := fun p => D c (at_ + p)) hm h51 h72 | exact mayI_c (L := fun p => D c (at_ + p)) hm h51 h101 | exact mayI_d (L := fun p => D c (at_ + p)) (by omega) (by omega) h60 h72 h101) (by omega)
        · refine q_if_eq (tgt := 82) hA (by decide) dX10_joins_63 (by decide) (fun h63 => ?_) (fun h63 => absurd h63 (by decide))
          refine q_iconst hA dX10_joins_82 ?_
          refine q_istore (j := 8) (lo2 := [vR c, vI at_, vI n, vI a, vI b, vI m, vI ci, vI d, vI 0]) hA dX10_joins_83 (by decide) rfl rfl ?_
          refine q_iload (j := 8) hA rfl dX10_joins_85 ?_
          refine q_if_eq (tgt := 104) hA (by decide) dX10_joins_87 (by decide) (fun h87 => ?_) (fun h87 => absurd h87 (by decide))
          refine q_iconst hA dX10_joins_104 ?_
          refine q_goto (tgt := 109) hA dX10_joins_105 (by decide) ?_
          refine q_istore (j := 5) (lo2 := [vR c, vI at_, vI n, vI a, vI b, vI 1, vI ci, vI d, vI 0]) hA dX10_joins_109 (by decide) rfl rfl ?_
          refine q_iinc (j := 7) (lo2 := [vR c, vI at_, vI n, vI a, vI b, vI 1, vI ci, vI (d + 1), vI 0]) hA dX10_joins_111 rfl (by decide) rfl rfl ?_
          refine q_goto (tgt := 43) hA dX10_joins_114 (by decide) ?_
          refine q_fgt (lo2 := [vR c, vI at_, vI n, vI a, vI b, vI 1, vI ci, vI (d + 1), vN]) hA ⟨Or.inr rfl, Or.inr rfl, Or.inr rfl, Or.inr rfl, Or.inr rfl, Or.inr rfl, Or.inr rfl, Or.inr rfl, Or.inl rfl, trivial⟩ ?_
          exact ih _ _ (by omega) (by first | exact mayI_a (L := fun p => D c (at_ + p)) hm h51 h60 | exact mayI_b (L := fun p => D c (at_ + p)) hm h51 h72 | exact mayI_c (L := fun p => D c (at_ + p)) hm h51 h101 | exact mayI_d (L := fun p => D c (at_ + p)) (by omega) (by omega) h60 h72 h101) (by omega)
set_option maxHeartbeats 4000000 in
set_option maxRecDepth 100000 in
theorem zX10_joins_L29 {g : Gm} {l : Launch} {D : Dat} {c w : Nat} (hcw : Sx[c]? = some (100, w) ∧ w < 20000) {at_ : Int} {n : Int} {a : Int} {b : Int} (hat : 0 ≤ at_ ∧ at_ + 8 ≤ w) (hn : 0 < n ∧ n ≤ 8) (hlk : lkOk D c at_) (ha : 0 ≤ a ∧ a < n) (hb : 0 ≤ b ∧ b < n)   {J : JT} (hA : AX g l RX10 cX10_joins 9 2 J) (hR : ReZ cX10_joins (fun v D1 => D1 = D ∧ (((jnM (fun p => D c (at_ + p)) n a b) ∧ v = 1) ∨ (¬ (jnM (fun p => D c (at_ + p)) n a b) ∧ v = 0))) J) : ∀ (fuel : Nat) (m : Int) (ci : Int), (0 ≤ ci ∧ ci ≤ n) → (mayO (fun p => D c (at_ + p)) n a b ci m) → n - ci < (fuel : Int) → J 29 [vR c, vI at_, vI n, vI a, vI b, vI m, vI ci, vN, vN] [] D := by
  intro fuel
  induction fuel with
  | zero => intro m ci hc hm hMs; exact absurd hMs (by omega)
  | succ fuel ih =>
    intro m ci hc hm hMs
    have hw := hcw.2
    have hmb := hm.b
    refine q_iload (j := 6) hA rfl dX10_joins_29 ?_
    refine q_iload_n (j := 2) hA rfl dX10_joins_31 ?_
    refine q_icmp_ge (tgt := 123) hA (by omega) (by omega) dX10_joins_32 (by decide) (fun h32 => ?_) (fun h32 => ?_)
    · refine q_iload (j := 5) hA rfl dX10_joins_123 ?_
      exact hR 125 _ _ _ dX10_joins_125 (by omega) ⟨rfl, (by exact mayO_x (L := fun p => D c (at_ + p)) hm (by omega))⟩
    · refine q_iload (j := 5) hA rfl dX10_joins_35 ?_
      refine q_if_eq (tgt := 123) hA (by omega) dX10_joins_37 (by decide) (fun h37 => ?_) (fun h37 => ?_)
      · refine q_iload (j := 5) hA rfl dX10_joins_123 ?_
        exact hR 125 _ _ _ dX10_joins_125 (by omega) ⟨rfl, (by exact mayO_x (L := fun p => D c (at_ + p)) hm (by omega))⟩
      · refine q_iconst hA dX10_joins_40 ?_
        refine q_istore (j := 7) (lo2 := [vR c, vI at_, vI n, vI a, vI b, vI m, vI ci, vI 0, vN]) hA dX10_joins_41 (by decide) rfl rfl ?_
        refine zX10_joins_L43 (D := D) (c := c) (w := w) (at_ := at_) (n := n) (a := a) (b := b) hcw hat hn hlk ha hb ((by first | assumption | omega | rfl)) hA hR (fun m d hd hm hx => ?_) 1000 _ _ (by omega) (by exact mayI_0 hm h37) (by omega)
        have hmb := hm.b
        refine q_iinc (j := 6) (lo2 := [vR c, vI at_, vI n, vI a, vI b, vI m, vI (ci + 1), vI d, vN]) hA dX10_joins_117 rfl (by decide) rfl rfl ?_
        refine q_goto (tgt := 29) hA dX10_joins_120 (by decide) ?_
        refine q_fgt (lo2 := [vR c, vI at_, vI n, vI a, vI b, vI m, vI (ci + 1), vN, vN]) hA ⟨Or.inr rfl, Or.inr rfl, Or.inr rfl, Or.inr rfl, Or.inr rfl, Or.inr rfl, Or.inr rfl, Or.inl rfl, Or.inr rfl, trivial⟩ ?_
        exact ih _ _ (by omega) (by exact mayI_x (L := fun p => D c (at_ + p)) hm hx) (by omega)
set_option maxHeartbeats 4000000 in
set_option maxRecDepth 100000 in
theorem zX10_joins {g : Gm} {l : Launch} {D : Dat} {c w : Nat} (hcw : Sx[c]? = some (100, w) ∧ w < 20000) {at_ : Int} {n : Int} {a : Int} {b : Int} (hat : 0 ≤ at_ ∧ at_ + 8 ≤ w) (hn : 0 < n ∧ n ≤ 8) (hlk : lkOk D c at_) (ha : 0 ≤ a ∧ a < n) (hb : 0 ≤ b ∧ b < n) : CrB g l 2 mX10_joins [vR c, vI at_, vI n, vI a, vI b] D (jnM (fun p => D c (at_ + p)) n a b) := by
  unfold CrB
  refine Cr.ofZ (lo0 := [vR c, vI at_, vI n, vI a, vI b, vN, vN, vN, vN]) (by decide) (Nat.le_of_ble_eq_true rfl) rfl (fun J hA hR => ?_)
  have hw := hcw.2
  have l1 := hlk a (by omega) (by omega)
  refine q_iload_n (j := 3) hA rfl dX10_joins_0 ?_
  refine q_iload (j := 4) hA rfl dX10_joins_1 ?_
  refine q_icmp_eq (tgt := 23) hA (by omega) (by omega) dX10_joins_3 (by decide) (fun h3 => ?_) (fun h3 => ?_)
  · refine q_iconst hA dX10_joins_23 ?_
    refine q_istore (j := 5) (lo2 := [vR c, vI at_, vI n, vI a, vI b, vI 0, vN, vN, vN]) hA dX10_joins_24 (by decide) rfl rfl ?_
    refine q_iconst hA dX10_joins_26 ?_
    refine q_istore (j := 6) (lo2 := [vR c, vI at_, vI n, vI a, vI b, vI 0, vI 0, vN, vN]) hA dX10_joins_27 (by decide) rfl rfl ?_
    refine zX10_joins_L29 (D := D) (c := c) (w := w) (at_ := at_) (n := n) (a := a) (b := b) hcw hat hn hlk ha hb  hA hR 1000 _ _ (by omega) (by first | exact mayO_1 (L := fun p => D c (at_ + p)) h3 h16 | exact mayO_0 h3 | exact mayO_2 (L := fun p => D c (at_ + p)) h16) (by omega)
  · refine q_aload_n (j := 0) hA rfl dX10_joins_6 ?_
    refine q_iload_n (j := 1) hA rfl dX10_joins_7 ?_
    refine q_iload_n (j := 3) hA rfl dX10_joins_8 ?_
    refine q_iadd hA dX10_joins_9 ?_
    refine q_iald (x := D c (at_ + a)) hA dX10_joins_10 hcw.1 (by omega) (by omega) rfl ?_
    refine q_iload (j := 4) hA rfl dX10_joins_11 ?_
    refine q_ishr hA dX10_joins_13 ?_
    refine q_iconst hA dX10_joins_14 ?_
    refine q_iand hA dX10_joins_15 ?_
    rw [show iAnd (iShr (D c (at_ + a)) b) 1 = if tb (D c (at_ + a)) b then 1 else 0 from bitT (by omega) (by omega)]
    have l3 := if10_in (b := tb (D c (at_ + a)) b)
    refine q_if_ne (tgt := 23) hA (by omega) dX10_joins_16 (by decide) (fun h16 => ?_) (fun h16 => ?_)
    · refine q_iconst hA dX10_joins_23 ?_
      refine q_istore (j := 5) (lo2 := [vR c, vI at_, vI n, vI a, vI b, vI 0, vN, vN, vN]) hA dX10_joins_24 (by decide) rfl rfl ?_
      refine q_iconst hA dX10_joins_26 ?_
      refine q_istore (j := 6) (lo2 := [vR c, vI at_, vI n, vI a, vI b, vI 0, vI 0, vN, vN]) hA dX10_joins_27 (by decide) rfl rfl ?_
      refine zX10_joins_L29 (D := D) (c := c) (w := w) (at_ := at_) (n := n) (a := a) (b := b) hcw hat hn hlk ha hb  hA hR 1000 _ _ (by omega) (by first | exact mayO_1 (L := fun p => D c (at_ + p)) h3 h16 | exact mayO_0 h3 | exact mayO_2 (L := fun p => D c (at_ + p)) h16) (by omega)
    · refine q_iconst hA dX10_joins_19 ?_
      refine q_goto (tgt := 24) hA dX10_joins_20 (by decide) ?_
      refine q_istore (j := 5) (lo2 := [vR c, vI at_, vI n, vI a, vI b, vI 1, vN, vN, vN]) hA dX10_joins_24 (by decide) rfl rfl ?_
      refine q_iconst hA dX10_joins_26 ?_
      refine q_istore (j := 6) (lo2 := [vR c, vI at_, vI n, vI a, vI b, vI 1, vI 0, vN, vN]) hA dX10_joins_27 (by decide) rfl rfl ?_
      refine zX10_joins_L29 (D := D) (c := c) (w := w) (at_ := at_) (n := n) (a := a) (b := b) hcw hat hn hlk ha hb  hA hR 1000 _ _ (by omega) (by first | exact mayO_1 (L := fun p => D c (at_ + p)) h3 h16 | exact mayO_0 h3 | exact mayO_2 (L := fun p => D c (at_ + p)) h16) (by omega)
set_option maxHeartbeats 4000000 in
set_option maxRecDepth 100000 in
theorem zX10_ring_L22 {g : Gm} {l : Launch} {D : Dat} {c w : Nat} (hcw : Sx[c]? = some (100, w) ∧ w < 20000) {at_ : Int} {n : Int} (hat : 0 ≤ at_ ∧ at_ + 8 ≤ w) (hn : 0 < n ∧ n ≤ 8)   {J : JT} (hA : AX g l RX10 cX10_ring 4 2 J) (hR : ReV cX10_ring (fun D1 => D1 = rnM D c at_ n n.toNat) J) : ∀ (fuel : Nat) (k : Int) (E : Dat), (0 ≤ k ∧ k ≤ n) → (E = rnM D c at_ n k.toNat) → n - k < (fuel : Int) → J 22 [vR c, vI at_, vI n, vI k] [] E := by
  intro fuel
  induction fuel with
  | zero => intro k E hk he hMs; exact absurd hMs (by omega)
  | succ fuel ih =>
    intro k E hk he hMs
    have hw := hcw.2
    refine q_iload_n (j := 3) hA rfl dX10_ring_22 ?_
    refine q_iload_n (j := 2) hA rfl dX10_ring_23 ?_
    refine q_icmp_ge (tgt := 44) hA (by omega) (by omega) dX10_ring_24 (by decide) (fun h24 => ?_) (fun h24 => ?_)
    · exact hR 44 _ _ dX10_ring_44 (by rw [show k.toNat = n.toNat by omega] at he; exact he)
    · have m1 := Int.emod_nonneg (k + 1) (show n ≠ 0 by omega)
      have m2 := Int.emod_lt_of_pos (k + 1) (show 0 < n by omega)
      have lk := rnM_ok (D := D) (c := c) (o := at_) hn k.toNat (by omega)
      rw [← he] at lk
      refine q_aload_n (j := 0) hA rfl dX10_ring_27 ?_
      refine q_iload_n (j := 1) hA rfl dX10_ring_28 ?_
      refine q_iload_n (j := 3) hA rfl dX10_ring_29 ?_
      refine q_iload_n (j := 3) hA rfl dX10_ring_30 ?_
      refine q_iconst hA dX10_ring_31 ?_
      refine q_iadd hA dX10_ring_32 ?_
      refine q_iload_n (j := 2) hA rfl dX10_ring_33 ?_
      refine q_irem hA (by omega) (by omega) dX10_ring_34 ?_
      refine q_callSV (As := [vR c, vI at_, vI k, vI ((k + 1) % n)]) (st := []) hA l_X10_108 kX10_links (zX10_links (by first | assumption | omega | rfl) (by first | assumption | omega | rfl) (by first | assumption | omega | rfl) (by first | assumption | omega | rfl) (by first | assumption | omega | rfl)) dX10_ring_35 rfl rfl (Nat.le_of_ble_eq_true rfl) (by omega) (fun D35 q35 => ?_)
      refine q_iinc (j := 3) (lo2 := [vR c, vI at_, vI n, vI (k + 1)]) hA dX10_ring_38 rfl (by decide) rfl rfl ?_
      refine q_goto (tgt := 22) hA dX10_ring_41 (by decide) ?_
      exact ih _ _ (by omega) (by rw [rnM_step (by omega), ← he]; exact q35) (by omega)
set_option maxHeartbeats 4000000 in
set_option maxRecDepth 100000 in
theorem zX10_ring_L2 {g : Gm} {l : Launch} {D : Dat} {c w : Nat} (hcw : Sx[c]? = some (100, w) ∧ w < 20000) {at_ : Int} {n : Int} (hat : 0 ≤ at_ ∧ at_ + 8 ≤ w) (hn : 0 < n ∧ n ≤ 8)   {J : JT} (hA : AX g l RX10 cX10_ring 4 2 J) (hR : ReV cX10_ring (fun D1 => D1 = rnM D c at_ n n.toNat) J) : ∀ (fuel : Nat) (k : Int) (E : Dat), (0 ≤ k ∧ k ≤ 8) → (E = clM D c at_ k.toNat) → 8 - k < (fuel : Int) → J 2 [vR c, vI at_, vI n, vI k] [] E := by
  intro fuel
  induction fuel with
  | zero => intro k E hk he hMs; exact absurd hMs (by omega)
  | succ fuel ih =>
    intro k E hk he hMs
    have hw := hcw.2
    refine q_iload_n (j := 3) hA rfl dX10_ring_2 ?_
    refine q_bipush hA (by decide) dX10_ring_3 ?_
    refine q_icmp_ge (tgt := 20) hA (by omega) (by omega) dX10_ring_5 (by decide) (fun h5 => ?_) (fun h5 => ?_)
    · refine q_iconst hA dX10_ring_20 ?_
      refine q_istore_n (j := 3) (lo2 := [vR c, vI at_, vI n, vI 0]) hA dX10_ring_21 (by decide) rfl rfl ?_
      refine zX10_ring_L22 (D := D) (c := c) (w := w) (at_ := at_) (n := n) hcw hat hn  hA hR 1000 _ _ (by omega) (by rw [he, show k = 8 by omega]; rfl) (by omega)
    · refine q_aload_n (j := 0) hA rfl dX10_ring_8 ?_
      refine q_iload_n (j := 1) hA rfl dX10_ring_9 ?_
      refine q_iload_n (j := 3) hA rfl dX10_ring_10 ?_
      refine q_iadd hA dX10_ring_11 ?_
      refine q_iconst hA dX10_ring_12 ?_
      refine q_iast hA dX10_ring_13 hcw.1 (by omega) (by omega) ?_
      refine q_iinc (j := 3) (lo2 := [vR c, vI at_, vI n, vI (k + 1)]) hA dX10_ring_14 rfl (by decide) rfl rfl ?_
      refine q_goto (tgt := 2) hA dX10_ring_17 (by decide) ?_
      exact ih _ _ (by omega) (by rw [clM_step (by omega), he]) (by omega)
set_option maxHeartbeats 4000000 in
set_option maxRecDepth 100000 in
theorem zX10_ring {g : Gm} {l : Launch} {D : Dat} {c w : Nat} (hcw : Sx[c]? = some (100, w) ∧ w < 20000) {at_ : Int} {n : Int} (hat : 0 ≤ at_ ∧ at_ + 8 ≤ w) (hn : 0 < n ∧ n ≤ 8) : CrV g l 2 mX10_ring [vR c, vI at_, vI n] D (fun D1 => D1 = rnM D c at_ n n.toNat) := by
  refine Cr.ofV (lo0 := [vR c, vI at_, vI n, vN]) (by decide) (Nat.le_of_ble_eq_true rfl) rfl (fun J hA hR => ?_)
  have hw := hcw.2
  refine q_iconst hA dX10_ring_0 ?_
  refine q_istore_n (j := 3) (lo2 := [vR c, vI at_, vI n, vI 0]) hA dX10_ring_1 (by decide) rfl rfl ?_
  refine zX10_ring_L2 (D := D) (c := c) (w := w) (at_ := at_) (n := n) hcw hat hn  hA hR 1000 _ _ (by omega) (by rfl) (by omega)
set_option maxHeartbeats 4000000 in
set_option maxRecDepth 100000 in
theorem zX10_figure {g : Gm} {l : Launch} {D : Dat} (ht : 0 ≤ D 283 3 ∧ D 283 3 ≤ D 283 2 ∧ D 283 2 ≤ 80) (htp : ∀ i : Int, 0 ≤ i → i < 80 → 0 ≤ D 285 i ∧ D 285 i ≤ 255) {x : Int} {y : Int} (hx : 0 ≤ x ∧ x ≤ 9) (hy : 0 ≤ y ∧ y ≤ 9) : CrI g l 2 mX10_figure [vR 283, vI x, vI y] D (fun v D1 => ((x ≤ mAt D (D 283 3) - 48 ∧ mAt D (D 283 3) - 48 ≤ y) ∧ v = mAt D (D 283 3) - 48 ∧ D1 = upD D 283 3 (D 283 3 + 1)) ∨ (¬ (x ≤ mAt D (D 283 3) - 48 ∧ mAt D (D 283 3) - 48 ≤ y) ∧ v = -1 ∧ D1 = D)) := by
  refine Cr.ofI (lo0 := [vR 283, vI x, vI y, vN]) (by decide) (Nat.le_of_ble_eq_true rfl) rfl (fun J hA hR => ?_)
  refine q_aload_n (j := 0) hA rfl dX10_figure_0 ?_
  refine q_callVP (b := 283) (As := []) (st := []) hA l_X10_88 kX10_here (zX10_here (by first | assumption | omega | rfl) (by first | assumption | omega | rfl)) dX10_figure_1 rfl rfl sx_283 (by decide) rfl (Nat.le_of_ble_eq_true rfl) (by omega) ?_
  refine q_nmI (fun v1 ev1 => ?_)
  have hmi := mAt_in htp (p := D 283 3) (by omega)
  rw [← ev1] at hmi
  refine q_bipush hA (by decide) dX10_figure_4 ?_
  refine q_isub hA dX10_figure_6 ?_
  refine q_istore_n (j := 3) (lo2 := [vR 283, vI x, vI y, vI (v1 - 48)]) hA dX10_figure_7 (by decide) rfl rfl ?_
  refine q_iload_n (j := 3) hA rfl dX10_figure_8 ?_
  refine q_i2l hA (by omega) dX10_figure_9 ?_
  refine q_iload_n (j := 1) hA rfl dX10_figure_10 ?_
  refine q_i2l hA (by omega) dX10_figure_11 ?_
  refine q_iload_n (j := 2) hA rfl dX10_figure_12 ?_
  refine q_i2l hA (by omega) dX10_figure_13 ?_
  refine q_callSB (As := [vL (v1 - 48), vL x, vL y]) (st := []) hA l_X10_77 kX10_in (zX10_in (by first | assumption | omega | rfl) (by first | assumption | omega | rfl) (by first | assumption | omega | rfl)) dX10_figure_14 rfl rfl (Nat.le_of_ble_eq_true rfl) (by omega) (fun h14 => ?_) (fun h14 => ?_)
  · refine q_if_ne (tgt := 22) hA (by decide) dX10_figure_17 (by decide) (fun h17 => ?_) (fun h17 => absurd h17 (by decide))
    refine q_aload_n (j := 0) hA rfl dX10_figure_22 ?_
    refine q_dupR hA dX10_figure_23 ?_
    refine q_getI (x := D 283 3) hA f_X10_85 dX10_figure_24 sx_283 (by decide) rfl ?_
    refine q_iconst hA dX10_figure_27 ?_
    refine q_iadd hA dX10_figure_28 ?_
    refine q_putI hA f_X10_85 dX10_figure_29 sx_283 (by decide) ?_
    show J _ _ _ (upD D 283 3 ((D 283 3) + 1))
    refine q_iload_n (j := 3) hA rfl dX10_figure_32 ?_
    exact hR 33 _ _ _ dX10_figure_33 (by rw [← ev1]; exact Or.inl ⟨h14, rfl, rfl⟩)
  · refine q_if_ne (tgt := 22) hA (by decide) dX10_figure_17 (by decide) (fun h17 => absurd h17 (by decide)) (fun h17 => ?_)
    refine q_iconst hA dX10_figure_20 ?_
    exact hR 21 _ _ _ dX10_figure_21 (by rw [← ev1]; exact Or.inr ⟨h14, rfl, rfl⟩)
set_option maxHeartbeats 4000000 in
set_option maxRecDepth 100000 in
theorem zX10_has {g : Gm} {l : Launch} {D : Dat} (ht : 0 ≤ D 283 3 ∧ D 283 3 ≤ D 283 2 ∧ D 283 2 ≤ 80) (htp : ∀ i : Int, 0 ≤ i → i < 80 → 0 ≤ D 285 i ∧ D 285 i ≤ 255) {x : Int} (hx : 0 ≤ x ∧ x ≤ 255) : CrI g l 2 mX10_has [vR 283, vI x] D (fun v D1 => (mAt D (D 283 3) = x ∧ v = 1 ∧ D1 = upD D 283 3 (D 283 3 + 1)) ∨ (¬ mAt D (D 283 3) = x ∧ v = 0 ∧ D1 = D)) := by
  refine Cr.ofZ (lo0 := [vR 283, vI x]) (by decide) (Nat.le_of_ble_eq_true rfl) rfl (fun J hA hR => ?_)
  refine q_aload_n (j := 0) hA rfl dX10_has_0 ?_
  refine q_callVP (b := 283) (As := []) (st := []) hA l_X10_88 kX10_here (zX10_here (by first | assumption | omega | rfl) (by first | assumption | omega | rfl)) dX10_has_1 rfl rfl sx_283 (by decide) rfl (Nat.le_of_ble_eq_true rfl) (by omega) ?_
  refine q_nmI (fun v1 ev1 => ?_)
  have hmi := mAt_in htp (p := D 283 3) (by omega)
  rw [← ev1] at hmi
  refine q_iload_n (j := 1) hA rfl dX10_has_4 ?_
  refine q_icmp_eq (tgt := 10) hA (by omega) (by omega) dX10_has_5 (by decide) (fun h5 => ?_) (fun h5 => ?_)
  · refine q_aload_n (j := 0) hA rfl dX10_has_10 ?_
    refine q_dupR hA dX10_has_11 ?_
    refine q_getI (x := D 283 3) hA f_X10_85 dX10_has_12 sx_283 (by decide) rfl ?_
    refine q_iconst hA dX10_has_15 ?_
    refine q_iadd hA dX10_has_16 ?_
    refine q_putI hA f_X10_85 dX10_has_17 sx_283 (by decide) ?_
    show J _ _ _ (upD D 283 3 ((D 283 3) + 1))
    refine q_iconst hA dX10_has_20 ?_
    exact hR 21 _ _ _ dX10_has_21 (by omega) (by rw [← ev1]; exact Or.inl ⟨h5, rfl, rfl⟩)
  · refine q_iconst hA dX10_has_8 ?_
    exact hR 9 _ _ _ dX10_has_9 (by omega) (by rw [← ev1]; exact Or.inr ⟨h5, rfl, rfl⟩)
