set_option maxHeartbeats 4000000 in
set_option maxRecDepth 100000 in
theorem zX10_whyNot_L71 {g : Gm} {l : Launch} {D : Dat} (hN1 : 1 ≤ D 284 0 ∧ D 284 0 ≤ 8) {o : Int} {n : Int} (hn8 : 0 ≤ n ∧ n ≤ 8) (ho2 : 0 ≤ o ∧ o + 2 * n + 1 < 96) (hit : ∀ i : Int, 0 ≤ i → i < 96 → -9223372036854775808 ≤ D 297 i ∧ D 297 i ≤ 9223372036854775807)   {J : JT} (hA : AX g l RX10 cX10_whyNot 6 2 J) (hR : ReI cX10_whyNot (fun v D1 => v = (if whB (D 297) (D 284 0) o n.toNat = true then 0 else -2) ∧ D1 = D) J) : ∀ (fuel : Nat) (we : Int) (k : Int), (1 ≤ k ∧ k ≤ n + 1) → (we = b01 (whB (D 297) (D 284 0) o (k - 1).toNat)) → n + 1 - k < (fuel : Int) → J 71 [vR 283, vI o, vI n, vI (D 284 0), vI we, vI k] [] D := by
  intro fuel
  induction fuel with
  | zero => intro we k hk hw hMs; exact absurd hMs (by omega)
  | succ fuel ih =>
    intro we k hk hw hMs
    have hwi := b01_in (whB (D 297) (D 284 0) o (k - 1).toNat)
    rw [← hw] at hwi
    refine q_iload (j := 5) hA rfl dX10_whyNot_71 ?_
    refine q_iload_n (j := 2) hA rfl dX10_whyNot_73 ?_
    refine q_icmp_gt (tgt := 140) hA (by omega) (by omega) dX10_whyNot_74 (by decide) (fun h74 => ?_) (fun h74 => ?_)
    · refine q_iload (j := 4) hA rfl dX10_whyNot_140 ?_
      refine q_if_eq (tgt := 149) hA (by omega) dX10_whyNot_142 (by decide) (fun h142 => ?_) (fun h142 => ?_)
      · refine q_bipush hA (by decide) dX10_whyNot_149 ?_
        exact hR 151 _ _ _ dX10_whyNot_151 ⟨(by rw [show n = k - 1 by omega]; first | rw [if_pos (b01_t.1 (by omega))] | rw [if_neg (fun z => by have := b01_t.2 z; omega)]), rfl⟩
      · refine q_iconst hA dX10_whyNot_145 ?_
        refine q_goto (tgt := 151) hA dX10_whyNot_146 (by decide) ?_
        exact hR 151 _ _ _ dX10_whyNot_151 ⟨(by rw [show n = k - 1 by omega]; first | rw [if_pos (b01_t.1 (by omega))] | rw [if_neg (fun z => by have := b01_t.2 z; omega)]), rfl⟩
    · refine q_iload (j := 4) hA rfl dX10_whyNot_77 ?_
      refine q_if_eq (tgt := 131) hA (by omega) dX10_whyNot_79 (by decide) (fun h79 => ?_) (fun h79 => ?_)
      · refine q_iconst hA dX10_whyNot_131 ?_
        refine q_istore (j := 4) (lo2 := [vR 283, vI o, vI n, vI (D 284 0), vI 0, vI k]) hA dX10_whyNot_132 (by decide) rfl rfl ?_
        refine q_iinc (j := 5) (lo2 := [vR 283, vI o, vI n, vI (D 284 0), vI 0, vI (k + 1)]) hA dX10_whyNot_134 rfl (by decide) rfl rfl ?_
        refine q_goto (tgt := 71) hA dX10_whyNot_137 (by decide) ?_
        exact ih _ _ (by omega) (by first | exact whB_2 (by omega) hw (Or.inl h79) | exact whB_1 (by omega) hw h79 h97 h121 | exact whB_2 (by omega) hw (Or.inr (Or.inl h97)) | exact whB_2 (by omega) hw (Or.inr (Or.inr h121))) (by omega)
      · refine q_aload_n (j := 0) hA rfl dX10_whyNot_82 ?_
        refine q_getR hA f_X10_50 dX10_whyNot_83 sx_283 (by decide) fx_283_17 ?_
        refine q_iload_n (j := 1) hA rfl dX10_whyNot_86 ?_
        refine q_iconst hA dX10_whyNot_87 ?_
        refine q_iload (j := 5) hA rfl dX10_whyNot_88 ?_
        refine q_imul hA dX10_whyNot_90 ?_
        refine q_iadd hA dX10_whyNot_91 ?_
        have j0 := hit (o + 2 * k) (by omega) (by omega)
        have j1 := hit (o + 2 * k + 1) (by omega) (by omega)
        refine q_lald (x := D 297 (o + (2 * k))) hA dX10_whyNot_92 sx_297 (by omega) (by decide) rfl ?_
        refine q_lconst hA dX10_whyNot_93 ?_
        show J _ _ (vL 0 :: _) _
        refine q_ldc2 hA c_X10_260 dX10_whyNot_94 ?_
        refine q_callSB (As := [vL (D 297 (o + (2 * k))), vL 0, vL 2]) (st := []) hA l_X10_77 kX10_in (zX10_in (by first | assumption | omega | rfl) (by first | assumption | omega | rfl) (by first | assumption | omega | rfl)) dX10_whyNot_97 rfl rfl (Nat.le_of_ble_eq_true rfl) (by omega) (fun h97 => ?_) (fun h97 => ?_)
        · refine q_if_eq (tgt := 131) hA (by decide) dX10_whyNot_100 (by decide) (fun h100 => absurd h100 (by decide)) (fun h100 => ?_)
          refine q_aload_n (j := 0) hA rfl dX10_whyNot_103 ?_
          refine q_getR hA f_X10_50 dX10_whyNot_104 sx_283 (by decide) fx_283_17 ?_
          refine q_iload_n (j := 1) hA rfl dX10_whyNot_107 ?_
          refine q_iconst hA dX10_whyNot_108 ?_
          refine q_iload (j := 5) hA rfl dX10_whyNot_109 ?_
          refine q_imul hA dX10_whyNot_111 ?_
          refine q_iadd hA dX10_whyNot_112 ?_
          refine q_iconst hA dX10_whyNot_113 ?_
          refine q_iadd hA dX10_whyNot_114 ?_
          refine q_lald (x := D 297 ((o + (2 * k)) + 1)) hA dX10_whyNot_115 sx_297 (by omega) (by decide) rfl ?_
          refine q_lconst hA dX10_whyNot_116 ?_
          show J _ _ (vL 0 :: _) _
          refine q_iload_n (j := 3) hA rfl dX10_whyNot_117 ?_
          refine q_iconst hA dX10_whyNot_118 ?_
          refine q_isub hA dX10_whyNot_119 ?_
          refine q_i2l hA (by omega) dX10_whyNot_120 ?_
          refine q_callSB (As := [vL (D 297 ((o + (2 * k)) + 1)), vL 0, vL ((D 284 0) - 1)]) (st := []) hA l_X10_77 kX10_in (zX10_in (by first | assumption | omega | rfl) (by first | assumption | omega | rfl) (by first | assumption | omega | rfl)) dX10_whyNot_121 rfl rfl (Nat.le_of_ble_eq_true rfl) (by omega) (fun h121 => ?_) (fun h121 => ?_)
          · refine q_if_eq (tgt := 131) hA (by decide) dX10_whyNot_124 (by decide) (fun h124 => absurd h124 (by decide)) (fun h124 => ?_)
            refine q_iconst hA dX10_whyNot_127 ?_
            refine q_goto (tgt := 132) hA dX10_whyNot_128 (by decide) ?_
            refine q_istore (j := 4) (lo2 := [vR 283, vI o, vI n, vI (D 284 0), vI 1, vI k]) hA dX10_whyNot_132 (by decide) rfl rfl ?_
            refine q_iinc (j := 5) (lo2 := [vR 283, vI o, vI n, vI (D 284 0), vI 1, vI (k + 1)]) hA dX10_whyNot_134 rfl (by decide) rfl rfl ?_
            refine q_goto (tgt := 71) hA dX10_whyNot_137 (by decide) ?_
            exact ih _ _ (by omega) (by first | exact whB_2 (by omega) hw (Or.inl h79) | exact whB_1 (by omega) hw h79 h97 h121 | exact whB_2 (by omega) hw (Or.inr (Or.inl h97)) | exact whB_2 (by omega) hw (Or.inr (Or.inr h121))) (by omega)
          · refine q_if_eq (tgt := 131) hA (by decide) dX10_whyNot_124 (by decide) (fun h124 => ?_) (fun h124 => absurd h124 (by decide))
            refine q_iconst hA dX10_whyNot_131 ?_
            refine q_istore (j := 4) (lo2 := [vR 283, vI o, vI n, vI (D 284 0), vI 0, vI k]) hA dX10_whyNot_132 (by decide) rfl rfl ?_
            refine q_iinc (j := 5) (lo2 := [vR 283, vI o, vI n, vI (D 284 0), vI 0, vI (k + 1)]) hA dX10_whyNot_134 rfl (by decide) rfl rfl ?_
            refine q_goto (tgt := 71) hA dX10_whyNot_137 (by decide) ?_
            exact ih _ _ (by omega) (by first | exact whB_2 (by omega) hw (Or.inl h79) | exact whB_1 (by omega) hw h79 h97 h121 | exact whB_2 (by omega) hw (Or.inr (Or.inl h97)) | exact whB_2 (by omega) hw (Or.inr (Or.inr h121))) (by omega)
        · refine q_if_eq (tgt := 131) hA (by decide) dX10_whyNot_100 (by decide) (fun h100 => ?_) (fun h100 => absurd h100 (by decide))
          refine q_iconst hA dX10_whyNot_131 ?_
          refine q_istore (j := 4) (lo2 := [vR 283, vI o, vI n, vI (D 284 0), vI 0, vI k]) hA dX10_whyNot_132 (by decide) rfl rfl ?_
          refine q_iinc (j := 5) (lo2 := [vR 283, vI o, vI n, vI (D 284 0), vI 0, vI (k + 1)]) hA dX10_whyNot_134 rfl (by decide) rfl rfl ?_
          refine q_goto (tgt := 71) hA dX10_whyNot_137 (by decide) ?_
          exact ih _ _ (by omega) (by first | exact whB_2 (by omega) hw (Or.inl h79) | exact whB_1 (by omega) hw h79 h97 h121 | exact whB_2 (by omega) hw (Or.inr (Or.inl h97)) | exact whB_2 (by omega) hw (Or.inr (Or.inr h121))) (by omega)
set_option maxHeartbeats 4000000 in
set_option maxRecDepth 100000 in
theorem zX10_whyNot {g : Gm} {l : Launch} {D : Dat} (hN1 : 1 ≤ D 284 0 ∧ D 284 0 ≤ 8) {o : Int} {n : Int} (hn8 : 0 ≤ n ∧ n ≤ 8) (ho2 : 0 ≤ o ∧ o + 2 * n + 1 < 96) (hit : ∀ i : Int, 0 ≤ i → i < 96 → -9223372036854775808 ≤ D 297 i ∧ D 297 i ≤ 9223372036854775807) : CrP g l 2 mX10_whyNot [vR 283, vI o, vI n] D (if whB (D 297) (D 284 0) o n.toNat = true then 0 else -2) := by
  unfold CrP
  refine Cr.ofI (lo0 := [vR 283, vI o, vI n, vN, vN, vN]) (by decide) (Nat.le_of_ble_eq_true rfl) rfl (fun J hA hR => ?_)
  refine q_aload_n (j := 0) hA rfl dX10_whyNot_0 ?_
  refine q_getR hA f_X10_7 dX10_whyNot_1 sx_283 (by decide) fx_283_0 ?_
  refine q_iconst hA dX10_whyNot_4 ?_
  refine q_iald (x := D 284 0) hA dX10_whyNot_5 sx_284 (by omega) (by decide) rfl ?_
  refine q_istore_n (j := 3) (lo2 := [vR 283, vI o, vI n, vI (D 284 0), vN, vN]) hA dX10_whyNot_6 (by decide) rfl rfl ?_
  refine q_aload_n (j := 0) hA rfl dX10_whyNot_7 ?_
  refine q_getR hA f_X10_50 dX10_whyNot_8 sx_283 (by decide) fx_283_17 ?_
  refine q_iload_n (j := 1) hA rfl dX10_whyNot_11 ?_
  have i0 := hit o (by omega) (by omega)
  have i1 := hit (o + 1) (by omega) (by omega)
  refine q_lald (x := D 297 o) hA dX10_whyNot_12 sx_297 (by omega) (by decide) rfl ?_
  refine q_lconst hA dX10_whyNot_13 ?_
  show J _ _ (vL 0 :: _) _
  refine q_iload_n (j := 3) hA rfl dX10_whyNot_14 ?_
  refine q_iconst hA dX10_whyNot_15 ?_
  refine q_isub hA dX10_whyNot_16 ?_
  refine q_i2l hA (by omega) dX10_whyNot_17 ?_
  refine q_callSB (As := [vL (D 297 o), vL 0, vL ((D 284 0) - 1)]) (st := []) hA l_X10_77 kX10_in (zX10_in (by first | assumption | omega | rfl) (by first | assumption | omega | rfl) (by first | assumption | omega | rfl)) dX10_whyNot_18 rfl rfl (Nat.le_of_ble_eq_true rfl) (by omega) (fun h18 => ?_) (fun h18 => ?_)
  · refine q_if_eq (tgt := 65) hA (by decide) dX10_whyNot_21 (by decide) (fun h21 => absurd h21 (by decide)) (fun h21 => ?_)
    refine q_aload_n (j := 0) hA rfl dX10_whyNot_24 ?_
    refine q_getR hA f_X10_50 dX10_whyNot_25 sx_283 (by decide) fx_283_17 ?_
    refine q_iload_n (j := 1) hA rfl dX10_whyNot_28 ?_
    refine q_iconst hA dX10_whyNot_29 ?_
    refine q_iadd hA dX10_whyNot_30 ?_
    refine q_lald (x := D 297 (o + 1)) hA dX10_whyNot_31 sx_297 (by omega) (by decide) rfl ?_
    refine q_lconst hA dX10_whyNot_32 ?_
    show J _ _ (vL 0 :: _) _
    refine q_iload_n (j := 3) hA rfl dX10_whyNot_33 ?_
    refine q_iconst hA dX10_whyNot_34 ?_
    refine q_isub hA dX10_whyNot_35 ?_
    refine q_i2l hA (by omega) dX10_whyNot_36 ?_
    refine q_callSB (As := [vL (D 297 (o + 1)), vL 0, vL ((D 284 0) - 1)]) (st := []) hA l_X10_77 kX10_in (zX10_in (by first | assumption | omega | rfl) (by first | assumption | omega | rfl) (by first | assumption | omega | rfl)) dX10_whyNot_37 rfl rfl (Nat.le_of_ble_eq_true rfl) (by omega) (fun h37 => ?_) (fun h37 => ?_)
    · refine q_if_eq (tgt := 65) hA (by decide) dX10_whyNot_40 (by decide) (fun h40 => absurd h40 (by decide)) (fun h40 => ?_)
      refine q_aload_n (j := 0) hA rfl dX10_whyNot_43 ?_
      refine q_getR hA f_X10_50 dX10_whyNot_44 sx_283 (by decide) fx_283_17 ?_
      refine q_iload_n (j := 1) hA rfl dX10_whyNot_47 ?_
      refine q_lald (x := D 297 o) hA dX10_whyNot_48 sx_297 (by omega) (by decide) rfl ?_
      refine q_aload_n (j := 0) hA rfl dX10_whyNot_49 ?_
      refine q_getR hA f_X10_50 dX10_whyNot_50 sx_283 (by decide) fx_283_17 ?_
      refine q_iload_n (j := 1) hA rfl dX10_whyNot_53 ?_
      refine q_iconst hA dX10_whyNot_54 ?_
      refine q_iadd hA dX10_whyNot_55 ?_
      refine q_lald (x := D 297 (o + 1)) hA dX10_whyNot_56 sx_297 (by omega) (by decide) rfl ?_
      refine q_lcmp hA (by omega) (by omega) dX10_whyNot_57 ?_
      have hc57 := cmpL_spec (D 297 o) (D 297 (o + 1))
      refine q_if_eq (tgt := 65) hA (by omega) dX10_whyNot_58 (by decide) (fun h58 => ?_) (fun h58 => ?_)
      · refine q_iconst hA dX10_whyNot_65 ?_
        refine q_istore (j := 4) (lo2 := [vR 283, vI o, vI n, vI (D 284 0), vI 0, vN]) hA dX10_whyNot_66 (by decide) rfl rfl ?_
        refine q_iconst hA dX10_whyNot_68 ?_
        refine q_istore (j := 5) (lo2 := [vR 283, vI o, vI n, vI (D 284 0), vI 0, vI 1]) hA dX10_whyNot_69 (by decide) rfl rfl ?_
        refine zX10_whyNot_L71 (D := D) (o := o) (n := n) hN1 hn8 ho2 hit  hA hR 1000 _ _ (by omega) (by first | exact whB_s1 h18 h37 (by omega) | exact whB_s0 (by first | exact Or.inl h18 | exact Or.inr (Or.inl h37) | exact Or.inr (Or.inr (by omega)))) (by omega)
      · refine q_iconst hA dX10_whyNot_61 ?_
        refine q_goto (tgt := 66) hA dX10_whyNot_62 (by decide) ?_
        refine q_istore (j := 4) (lo2 := [vR 283, vI o, vI n, vI (D 284 0), vI 1, vN]) hA dX10_whyNot_66 (by decide) rfl rfl ?_
        refine q_iconst hA dX10_whyNot_68 ?_
        refine q_istore (j := 5) (lo2 := [vR 283, vI o, vI n, vI (D 284 0), vI 1, vI 1]) hA dX10_whyNot_69 (by decide) rfl rfl ?_
        refine zX10_whyNot_L71 (D := D) (o := o) (n := n) hN1 hn8 ho2 hit  hA hR 1000 _ _ (by omega) (by first | exact whB_s1 h18 h37 (by omega) | exact whB_s0 (by first | exact Or.inl h18 | exact Or.inr (Or.inl h37) | exact Or.inr (Or.inr (by omega)))) (by omega)
    · refine q_if_eq (tgt := 65) hA (by decide) dX10_whyNot_40 (by decide) (fun h40 => ?_) (fun h40 => absurd h40 (by decide))
      refine q_iconst hA dX10_whyNot_65 ?_
      refine q_istore (j := 4) (lo2 := [vR 283, vI o, vI n, vI (D 284 0), vI 0, vN]) hA dX10_whyNot_66 (by decide) rfl rfl ?_
      refine q_iconst hA dX10_whyNot_68 ?_
      refine q_istore (j := 5) (lo2 := [vR 283, vI o, vI n, vI (D 284 0), vI 0, vI 1]) hA dX10_whyNot_69 (by decide) rfl rfl ?_
      refine zX10_whyNot_L71 (D := D) (o := o) (n := n) hN1 hn8 ho2 hit  hA hR 1000 _ _ (by omega) (by first | exact whB_s1 h18 h37 (by omega) | exact whB_s0 (by first | exact Or.inl h18 | exact Or.inr (Or.inl h37) | exact Or.inr (Or.inr (by omega)))) (by omega)
  · refine q_if_eq (tgt := 65) hA (by decide) dX10_whyNot_21 (by decide) (fun h21 => ?_) (fun h21 => absurd h21 (by decide))
    refine q_iconst hA dX10_whyNot_65 ?_
    refine q_istore (j := 4) (lo2 := [vR 283, vI o, vI n, vI (D 284 0), vI 0, vN]) hA dX10_whyNot_66 (by decide) rfl rfl ?_
    refine q_iconst hA dX10_whyNot_68 ?_
    refine q_istore (j := 5) (lo2 := [vR 283, vI o, vI n, vI (D 284 0), vI 0, vI 1]) hA dX10_whyNot_69 (by decide) rfl rfl ?_
    refine zX10_whyNot_L71 (D := D) (o := o) (n := n) hN1 hn8 ho2 hit  hA hR 1000 _ _ (by omega) (by first | exact whB_s1 h18 h37 (by omega) | exact whB_s0 (by first | exact Or.inl h18 | exact Or.inr (Or.inl h37) | exact Or.inr (Or.inr (by omega)))) (by omega)
set_option maxHeartbeats 4000000 in
set_option maxRecDepth 100000 in
theorem zX10_goesSo_L45 {g : Gm} {l : Launch} {D : Dat} {c w : Nat} (hcw : Sx[c]? = some (100, w) ∧ w < 20000) {q : Int} (hq : 0 ≤ q ∧ q + 8 ≤ w) (hlk : lkOk D c q) (hN1 : 1 ≤ D 284 0 ∧ D 284 0 ≤ 8) {o : Int} {n : Int} (hn8 : 0 ≤ n ∧ n ≤ 8) (ho2 : 0 ≤ o ∧ o + 2 * n + 1 < 96) (hit : ∀ i : Int, 0 ≤ i → i < 96 → -9223372036854775808 ≤ D 297 i ∧ D 297 i ≤ 9223372036854775807) (hwh : whB (D 297) (D 284 0) o n.toNat = true)   {J : JT} (hA : AX g l RX10 cX10_goesSo 11 4 J) (hR : ReI cX10_goesSo (fun v D1 => v = (gsM (fun p => D c (q + p)) (D 284 0) (D 297) o n) ∧ D1 = D) J) : ∀ (fuel : Nat) (fr : Int) (bk : Int) (so : Int) (k : Int), (1 ≤ k ∧ k ≤ n + 1) → (0 ≤ fr ∧ fr < (D 284 0)) → (0 ≤ bk ∧ bk < (D 284 0)) → ((so = 1 ∧ gsM (fun p => D c (q + p)) (D 284 0) (D 297) o n = gsGo (fun p => D c (q + p)) (D 284 0) (D 297) o (n + 1 - k).toNat k fr bk) ∨ (so = 0 ∧ gsM (fun p => D c (q + p)) (D 284 0) (D 297) o n = -4)) → n + 1 - k < (fuel : Int) → J 45 [vR 283, vR c, vI q, vI o, vI n, vI fr, vI bk, vI so, vI k, vN, vN] [] D := by
  intro fuel
  induction fuel with
  | zero => intro fr bk so k hk hfr hbk hso hMs; exact absurd hMs (by omega)
  | succ fuel ih =>
    intro fr bk so k hk hfr hbk hso hMs
    have hw := hcw.2
    refine q_iload (j := 8) hA rfl dX10_goesSo_45 ?_
    refine q_iload (j := 4) hA rfl dX10_goesSo_47 ?_
    refine q_icmp_gt (tgt := 152) hA (by omega) (by omega) dX10_goesSo_49 (by decide) (fun h49 => ?_) (fun h49 => ?_)
    · refine q_iload (j := 7) hA rfl dX10_goesSo_152 ?_
      refine q_if_eq (tgt := 168) hA (by omega) dX10_goesSo_154 (by decide) (fun h154 => ?_) (fun h154 => ?_)
      · refine q_bipush hA (by decide) dX10_goesSo_168 ?_
        exact hR 170 _ _ _ dX10_goesSo_170 ⟨(by rcases hso with z | z; (first | (exfalso; omega) | (rw [z.2, show (n + 1 - k).toNat = 0 by omega, gsGo])); (first | (exfalso; omega) | (rw [z.2]))), rfl⟩
      · refine q_bipush hA (by decide) dX10_goesSo_157 ?_
        refine q_iload (j := 5) hA rfl dX10_goesSo_159 ?_
        refine q_imul hA dX10_goesSo_161 ?_
        refine q_iload (j := 6) hA rfl dX10_goesSo_162 ?_
        refine q_iadd hA dX10_goesSo_164 ?_
        refine q_goto (tgt := 170) hA dX10_goesSo_165 (by decide) ?_
        exact hR 170 _ _ _ dX10_goesSo_170 ⟨(by rcases hso with z | z; (first | (exfalso; omega) | (rw [z.2, show (n + 1 - k).toNat = 0 by omega, gsGo])); (first | (exfalso; omega) | (rw [z.2]))), rfl⟩
    · refine q_iload (j := 7) hA rfl dX10_goesSo_52 ?_
      refine q_if_eq (tgt := 152) hA (by omega) dX10_goesSo_54 (by decide) (fun h54 => ?_) (fun h54 => ?_)
      · refine q_iload (j := 7) hA rfl dX10_goesSo_152 ?_
        refine q_if_eq (tgt := 168) hA (by omega) dX10_goesSo_154 (by decide) (fun h154 => ?_) (fun h154 => ?_)
        · refine q_bipush hA (by decide) dX10_goesSo_168 ?_
          exact hR 170 _ _ _ dX10_goesSo_170 ⟨(by rcases hso with z | z; (first | (exfalso; omega) | (rw [z.2, show (n + 1 - k).toNat = 0 by omega, gsGo])); (first | (exfalso; omega) | (rw [z.2]))), rfl⟩
        · refine q_bipush hA (by decide) dX10_goesSo_157 ?_
          refine q_iload (j := 5) hA rfl dX10_goesSo_159 ?_
          refine q_imul hA dX10_goesSo_161 ?_
          refine q_iload (j := 6) hA rfl dX10_goesSo_162 ?_
          refine q_iadd hA dX10_goesSo_164 ?_
          refine q_goto (tgt := 170) hA dX10_goesSo_165 (by decide) ?_
          exact hR 170 _ _ _ dX10_goesSo_170 ⟨(by rcases hso with z | z; (first | (exfalso; omega) | (rw [z.2, show (n + 1 - k).toNat = 0 by omega, gsGo])); (first | (exfalso; omega) | (rw [z.2]))), rfl⟩
      · have wk := whB_at hwh k (by omega) (by omega)
        have j0 := hit (o + 2 * k) (by omega) (by omega)
        have j1 := hit (o + 2 * k + 1) (by omega) (by omega)
        refine q_aload_n (j := 0) hA rfl dX10_goesSo_57 ?_
        refine q_getR hA f_X10_50 dX10_goesSo_58 sx_283 (by decide) fx_283_17 ?_
        refine q_iload_n (j := 3) hA rfl dX10_goesSo_61 ?_
        refine q_iconst hA dX10_goesSo_62 ?_
        refine q_iload (j := 8) hA rfl dX10_goesSo_63 ?_
        refine q_imul hA dX10_goesSo_65 ?_
        refine q_iadd hA dX10_goesSo_66 ?_
        refine q_lald (x := D 297 (o + (2 * k))) hA dX10_goesSo_67 sx_297 (by omega) (by decide) rfl ?_
        refine q_l2i hA dX10_goesSo_68 ?_
        refine q_istore (j := 9) (lo2 := [vR 283, vR c, vI q, vI o, vI n, vI fr, vI bk, vI so, vI k, vI (D 297 (o + (2 * k))), vN]) hA dX10_goesSo_69 (by decide) rfl rfl ?_
        refine q_iload (j := 9) hA rfl dX10_goesSo_71 ?_
        refine q_iconst hA dX10_goesSo_73 ?_
        refine q_icmp_ne (tgt := 82) hA (by omega) (by omega) dX10_goesSo_74 (by decide) (fun h74 => ?_) (fun h74 => ?_)
        · refine q_aload_n (j := 1) hA rfl dX10_goesSo_82 ?_
          refine q_iload_n (j := 2) hA rfl dX10_goesSo_83 ?_
          refine q_aload_n (j := 0) hA rfl dX10_goesSo_84 ?_
          refine q_getR hA f_X10_7 dX10_goesSo_85 sx_283 (by decide) fx_283_0 ?_
          refine q_iconst hA dX10_goesSo_88 ?_
          refine q_iald (x := D 284 0) hA dX10_goesSo_89 sx_284 (by omega) (by decide) rfl ?_
          refine q_iload (j := 5) hA rfl dX10_goesSo_90 ?_
          refine q_iload (j := 6) hA rfl dX10_goesSo_92 ?_
          refine q_iload (j := 9) hA rfl dX10_goesSo_94 ?_
          refine q_callSP (As := [vR c, vI q, vI (D 284 0), vI fr, vI bk, vI (D 297 (o + (2 * k)))]) (st := []) hA l_X10_155 kX10_brought (zX10_brought (c := c) (w := w) hcw hq (by omega) hlk (by omega) (by omega) (by omega)) dX10_goesSo_96 rfl rfl (Nat.le_of_ble_eq_true rfl) (by omega) ?_
          refine q_nmI (fun br ebr => ?_)
          refine q_nmI (fun pp epp => ?_)
          refine q_istore (j := 10) (lo2 := [vR 283, vR c, vI q, vI o, vI n, vI fr, vI bk, vI so, vI k, vI (D 297 (o + (2 * k))), vI pp]) hA dX10_goesSo_99 (by decide) rfl rfl ?_
          have hpp : pp = gsP (fun p => D c (q + p)) (D 284 0) (D 297) o k fr bk := by unfold gsP; first | (rw [if_pos (by omega)]; exact epp) | (rw [if_neg (by omega)]; exact epp.trans ebr)
          have hpi := gsP_in (L := fun p => D c (q + p)) (N := (D 284 0)) (f := D 297) (o := o) (j := k) (fr := fr) (bk := bk) (by omega) (by omega)
          rw [← hpp] at hpi
          refine q_iload (j := 10) hA rfl dX10_goesSo_101 ?_
          refine q_i2l hA (by omega) dX10_goesSo_103 ?_
          refine q_aload_n (j := 0) hA rfl dX10_goesSo_104 ?_
          refine q_getR hA f_X10_50 dX10_goesSo_105 sx_283 (by decide) fx_283_17 ?_
          refine q_iload_n (j := 3) hA rfl dX10_goesSo_108 ?_
          refine q_iconst hA dX10_goesSo_109 ?_
          refine q_iload (j := 8) hA rfl dX10_goesSo_110 ?_
          refine q_imul hA dX10_goesSo_112 ?_
          refine q_iadd hA dX10_goesSo_113 ?_
          refine q_iconst hA dX10_goesSo_114 ?_
          refine q_iadd hA dX10_goesSo_115 ?_
          refine q_lald (x := D 297 ((o + (2 * k)) + 1)) hA dX10_goesSo_116 sx_297 (by omega) (by decide) rfl ?_
          refine q_lcmp hA (by omega) (by omega) dX10_goesSo_117 ?_
          have hc117 := cmpL_spec pp (D 297 ((o + (2 * k)) + 1))
          refine q_if_ne (tgt := 125) hA (by omega) dX10_goesSo_118 (by decide) (fun h118 => ?_) (fun h118 => ?_)
          · refine q_iconst hA dX10_goesSo_125 ?_
            refine q_istore (j := 7) (lo2 := [vR 283, vR c, vI q, vI o, vI n, vI fr, vI bk, vI 0, vI k, vI (D 297 (o + (2 * k))), vI pp]) hA dX10_goesSo_126 (by decide) rfl rfl ?_
            refine q_iload (j := 5) hA rfl dX10_goesSo_128 ?_
            refine q_istore (j := 6) (lo2 := [vR 283, vR c, vI q, vI o, vI n, vI fr, vI fr, vI 0, vI k, vI (D 297 (o + (2 * k))), vI pp]) hA dX10_goesSo_130 (by decide) rfl rfl ?_
            refine q_iload (j := 7) hA rfl dX10_goesSo_132 ?_
            refine q_if_eq (tgt := 142) hA (by decide) dX10_goesSo_134 (by decide) (fun h134 => ?_) (fun h134 => absurd h134 (by decide))
            refine q_iload (j := 5) hA rfl dX10_goesSo_142 ?_
            refine q_istore (j := 5) (lo2 := [vR 283, vR c, vI q, vI o, vI n, vI fr, vI fr, vI 0, vI k, vI (D 297 (o + (2 * k))), vI pp]) hA dX10_goesSo_144 (by decide) rfl rfl ?_
            refine q_iinc (j := 8) (lo2 := [vR 283, vR c, vI q, vI o, vI n, vI fr, vI fr, vI 0, vI (k + 1), vI (D 297 (o + (2 * k))), vI pp]) hA dX10_goesSo_146 rfl (by decide) rfl rfl ?_
            refine q_goto (tgt := 45) hA dX10_goesSo_149 (by decide) ?_
            refine q_fgt (lo2 := [vR 283, vR c, vI q, vI o, vI n, vI fr, vI fr, vI 0, vI (k + 1), vN, vN]) hA ⟨Or.inr rfl, Or.inr rfl, Or.inr rfl, Or.inr rfl, Or.inr rfl, Or.inr rfl, Or.inr rfl, Or.inr rfl, Or.inr rfl, Or.inl rfl, Or.inl rfl, trivial⟩ ?_
            exact ih _ _ _ _ (by omega) (by omega) (by omega) (by first | (left; exact ⟨rfl, by rcases hso with z | z; (rw [z.2, show (n + 1 - k).toNat = (n + 1 - (k + 1)).toNat + 1 by omega, gsGo, ← hpp, if_pos (by omega)]); (exfalso; omega)⟩) | (right; exact ⟨rfl, by rcases hso with z | z; (rw [z.2, show (n + 1 - k).toNat = (n + 1 - (k + 1)).toNat + 1 by omega, gsGo, ← hpp, if_neg (by omega)]); (exfalso; omega)⟩)) (by omega)
          · refine q_iconst hA dX10_goesSo_121 ?_
            refine q_goto (tgt := 126) hA dX10_goesSo_122 (by decide) ?_
            refine q_istore (j := 7) (lo2 := [vR 283, vR c, vI q, vI o, vI n, vI fr, vI bk, vI 1, vI k, vI (D 297 (o + (2 * k))), vI pp]) hA dX10_goesSo_126 (by decide) rfl rfl ?_
            refine q_iload (j := 5) hA rfl dX10_goesSo_128 ?_
            refine q_istore (j := 6) (lo2 := [vR 283, vR c, vI q, vI o, vI n, vI fr, vI fr, vI 1, vI k, vI (D 297 (o + (2 * k))), vI pp]) hA dX10_goesSo_130 (by decide) rfl rfl ?_
            refine q_iload (j := 7) hA rfl dX10_goesSo_132 ?_
            refine q_if_eq (tgt := 142) hA (by decide) dX10_goesSo_134 (by decide) (fun h134 => absurd h134 (by decide)) (fun h134 => ?_)
            refine q_iload (j := 10) hA rfl dX10_goesSo_137 ?_
            refine q_goto (tgt := 144) hA dX10_goesSo_139 (by decide) ?_
            refine q_istore (j := 5) (lo2 := [vR 283, vR c, vI q, vI o, vI n, vI pp, vI fr, vI 1, vI k, vI (D 297 (o + (2 * k))), vI pp]) hA dX10_goesSo_144 (by decide) rfl rfl ?_
            refine q_iinc (j := 8) (lo2 := [vR 283, vR c, vI q, vI o, vI n, vI pp, vI fr, vI 1, vI (k + 1), vI (D 297 (o + (2 * k))), vI pp]) hA dX10_goesSo_146 rfl (by decide) rfl rfl ?_
            refine q_goto (tgt := 45) hA dX10_goesSo_149 (by decide) ?_
            refine q_fgt (lo2 := [vR 283, vR c, vI q, vI o, vI n, vI pp, vI fr, vI 1, vI (k + 1), vN, vN]) hA ⟨Or.inr rfl, Or.inr rfl, Or.inr rfl, Or.inr rfl, Or.inr rfl, Or.inr rfl, Or.inr rfl, Or.inr rfl, Or.inr rfl, Or.inl rfl, Or.inl rfl, trivial⟩ ?_
            exact ih _ _ _ _ (by omega) (by omega) (by omega) (by first | (left; exact ⟨rfl, by rcases hso with z | z; (rw [z.2, show (n + 1 - k).toNat = (n + 1 - (k + 1)).toNat + 1 by omega, gsGo, ← hpp, if_pos (by omega)]); (exfalso; omega)⟩) | (right; exact ⟨rfl, by rcases hso with z | z; (rw [z.2, show (n + 1 - k).toNat = (n + 1 - (k + 1)).toNat + 1 by omega, gsGo, ← hpp, if_neg (by omega)]); (exfalso; omega)⟩)) (by omega)
        · refine q_iload (j := 6) hA rfl dX10_goesSo_77 ?_
          refine q_goto (tgt := 99) hA dX10_goesSo_79 (by decide) ?_
          refine q_nmI (fun pp epp => ?_)
          refine q_istore (j := 10) (lo2 := [vR 283, vR c, vI q, vI o, vI n, vI fr, vI bk, vI so, vI k, vI (D 297 (o + (2 * k))), vI pp]) hA dX10_goesSo_99 (by decide) rfl rfl ?_
          have hpp : pp = gsP (fun p => D c (q + p)) (D 284 0) (D 297) o k fr bk := by unfold gsP; first | (rw [if_pos (by omega)]; exact epp) | (rw [if_neg (by omega)]; exact epp.trans ebr)
          have hpi := gsP_in (L := fun p => D c (q + p)) (N := (D 284 0)) (f := D 297) (o := o) (j := k) (fr := fr) (bk := bk) (by omega) (by omega)
          rw [← hpp] at hpi
          refine q_iload (j := 10) hA rfl dX10_goesSo_101 ?_
          refine q_i2l hA (by omega) dX10_goesSo_103 ?_
          refine q_aload_n (j := 0) hA rfl dX10_goesSo_104 ?_
          refine q_getR hA f_X10_50 dX10_goesSo_105 sx_283 (by decide) fx_283_17 ?_
          refine q_iload_n (j := 3) hA rfl dX10_goesSo_108 ?_
          refine q_iconst hA dX10_goesSo_109 ?_
          refine q_iload (j := 8) hA rfl dX10_goesSo_110 ?_
          refine q_imul hA dX10_goesSo_112 ?_
          refine q_iadd hA dX10_goesSo_113 ?_
          refine q_iconst hA dX10_goesSo_114 ?_
          refine q_iadd hA dX10_goesSo_115 ?_
          refine q_lald (x := D 297 ((o + (2 * k)) + 1)) hA dX10_goesSo_116 sx_297 (by omega) (by decide) rfl ?_
          refine q_lcmp hA (by omega) (by omega) dX10_goesSo_117 ?_
          have hc117 := cmpL_spec pp (D 297 ((o + (2 * k)) + 1))
          refine q_if_ne (tgt := 125) hA (by omega) dX10_goesSo_118 (by decide) (fun h118 => ?_) (fun h118 => ?_)
          · refine q_iconst hA dX10_goesSo_125 ?_
            refine q_istore (j := 7) (lo2 := [vR 283, vR c, vI q, vI o, vI n, vI fr, vI bk, vI 0, vI k, vI (D 297 (o + (2 * k))), vI pp]) hA dX10_goesSo_126 (by decide) rfl rfl ?_
            refine q_iload (j := 5) hA rfl dX10_goesSo_128 ?_
            refine q_istore (j := 6) (lo2 := [vR 283, vR c, vI q, vI o, vI n, vI fr, vI fr, vI 0, vI k, vI (D 297 (o + (2 * k))), vI pp]) hA dX10_goesSo_130 (by decide) rfl rfl ?_
            refine q_iload (j := 7) hA rfl dX10_goesSo_132 ?_
            refine q_if_eq (tgt := 142) hA (by decide) dX10_goesSo_134 (by decide) (fun h134 => ?_) (fun h134 => absurd h134 (by decide))
            refine q_iload (j := 5) hA rfl dX10_goesSo_142 ?_
            refine q_istore (j := 5) (lo2 := [vR 283, vR c, vI q, vI o, vI n, vI fr, vI fr, vI 0, vI k, vI (D 297 (o + (2 * k))), vI pp]) hA dX10_goesSo_144 (by decide) rfl rfl ?_
            refine q_iinc (j := 8) (lo2 := [vR 283, vR c, vI q, vI o, vI n, vI fr, vI fr, vI 0, vI (k + 1), vI (D 297 (o + (2 * k))), vI pp]) hA dX10_goesSo_146 rfl (by decide) rfl rfl ?_
            refine q_goto (tgt := 45) hA dX10_goesSo_149 (by decide) ?_
            refine q_fgt (lo2 := [vR 283, vR c, vI q, vI o, vI n, vI fr, vI fr, vI 0, vI (k + 1), vN, vN]) hA ⟨Or.inr rfl, Or.inr rfl, Or.inr rfl, Or.inr rfl, Or.inr rfl, Or.inr rfl, Or.inr rfl, Or.inr rfl, Or.inr rfl, Or.inl rfl, Or.inl rfl, trivial⟩ ?_
            exact ih _ _ _ _ (by omega) (by omega) (by omega) (by first | (left; exact ⟨rfl, by rcases hso with z | z; (rw [z.2, show (n + 1 - k).toNat = (n + 1 - (k + 1)).toNat + 1 by omega, gsGo, ← hpp, if_pos (by omega)]); (exfalso; omega)⟩) | (right; exact ⟨rfl, by rcases hso with z | z; (rw [z.2, show (n + 1 - k).toNat = (n + 1 - (k + 1)).toNat + 1 by omega, gsGo, ← hpp, if_neg (by omega)]); (exfalso; omega)⟩)) (by omega)
          · refine q_iconst hA dX10_goesSo_121 ?_
            refine q_goto (tgt := 126) hA dX10_goesSo_122 (by decide) ?_
            refine q_istore (j := 7) (lo2 := [vR 283, vR c, vI q, vI o, vI n, vI fr, vI bk, vI 1, vI k, vI (D 297 (o + (2 * k))), vI pp]) hA dX10_goesSo_126 (by decide) rfl rfl ?_
            refine q_iload (j := 5) hA rfl dX10_goesSo_128 ?_
            refine q_istore (j := 6) (lo2 := [vR 283, vR c, vI q, vI o, vI n, vI fr, vI fr, vI 1, vI k, vI (D 297 (o + (2 * k))), vI pp]) hA dX10_goesSo_130 (by decide) rfl rfl ?_
            refine q_iload (j := 7) hA rfl dX10_goesSo_132 ?_
            refine q_if_eq (tgt := 142) hA (by decide) dX10_goesSo_134 (by decide) (fun h134 => absurd h134 (by decide)) (fun h134 => ?_)
            refine q_iload (j := 10) hA rfl dX10_goesSo_137 ?_
            refine q_goto (tgt := 144) hA dX10_goesSo_139 (by decide) ?_
            refine q_istore (j := 5) (lo2 := [vR 283, vR c, vI q, vI o, vI n, vI pp, vI fr, vI 1, vI k, vI (D 297 (o + (2 * k))), vI pp]) hA dX10_goesSo_144 (by decide) rfl rfl ?_
            refine q_iinc (j := 8) (lo2 := [vR 283, vR c, vI q, vI o, vI n, vI pp, vI fr, vI 1, vI (k + 1), vI (D 297 (o + (2 * k))), vI pp]) hA dX10_goesSo_146 rfl (by decide) rfl rfl ?_
            refine q_goto (tgt := 45) hA dX10_goesSo_149 (by decide) ?_
            refine q_fgt (lo2 := [vR 283, vR c, vI q, vI o, vI n, vI pp, vI fr, vI 1, vI (k + 1), vN, vN]) hA ⟨Or.inr rfl, Or.inr rfl, Or.inr rfl, Or.inr rfl, Or.inr rfl, Or.inr rfl, Or.inr rfl, Or.inr rfl, Or.inr rfl, Or.inl rfl, Or.inl rfl, trivial⟩ ?_
            exact ih _ _ _ _ (by omega) (by omega) (by omega) (by first | (left; exact ⟨rfl, by rcases hso with z | z; (rw [z.2, show (n + 1 - k).toNat = (n + 1 - (k + 1)).toNat + 1 by omega, gsGo, ← hpp, if_pos (by omega)]); (exfalso; omega)⟩) | (right; exact ⟨rfl, by rcases hso with z | z; (rw [z.2, show (n + 1 - k).toNat = (n + 1 - (k + 1)).toNat + 1 by omega, gsGo, ← hpp, if_neg (by omega)]); (exfalso; omega)⟩)) (by omega)
set_option maxHeartbeats 4000000 in
set_option maxRecDepth 100000 in
theorem zX10_goesSo {g : Gm} {l : Launch} {D : Dat} {c w : Nat} (hcw : Sx[c]? = some (100, w) ∧ w < 20000) {q : Int} (hq : 0 ≤ q ∧ q + 8 ≤ w) (hlk : lkOk D c q) (hN1 : 1 ≤ D 284 0 ∧ D 284 0 ≤ 8) {o : Int} {n : Int} (hn8 : 0 ≤ n ∧ n ≤ 8) (ho2 : 0 ≤ o ∧ o + 2 * n + 1 < 96) (hit : ∀ i : Int, 0 ≤ i → i < 96 → -9223372036854775808 ≤ D 297 i ∧ D 297 i ≤ 9223372036854775807) (hwh : whB (D 297) (D 284 0) o n.toNat = true) : CrP g l 4 mX10_goesSo [vR 283, vR c, vI q, vI o, vI n] D (gsM (fun p => D c (q + p)) (D 284 0) (D 297) o n) := by
  unfold CrP
  refine Cr.ofI (lo0 := [vR 283, vR c, vI q, vI o, vI n, vN, vN, vN, vN, vN, vN]) (by decide) (Nat.le_of_ble_eq_true rfl) rfl (fun J hA hR => ?_)
  have hw := hcw.2
  have w0 := whB_0 hwh
  have i0 := hit o (by omega) (by omega)
  have i1 := hit (o + 1) (by omega) (by omega)
  have l0 := hlk (D 297 o) (by omega) (by omega)
  refine q_aload_n (j := 0) hA rfl dX10_goesSo_0 ?_
  refine q_getR hA f_X10_50 dX10_goesSo_1 sx_283 (by decide) fx_283_17 ?_
  refine q_iload_n (j := 3) hA rfl dX10_goesSo_4 ?_
  refine q_lald (x := D 297 o) hA dX10_goesSo_5 sx_297 (by omega) (by decide) rfl ?_
  refine q_l2i hA dX10_goesSo_6 ?_
  refine q_istore (j := 5) (lo2 := [vR 283, vR c, vI q, vI o, vI n, vI (D 297 o), vN, vN, vN, vN, vN]) hA dX10_goesSo_7 (by decide) rfl rfl ?_
  refine q_aload_n (j := 0) hA rfl dX10_goesSo_9 ?_
  refine q_getR hA f_X10_50 dX10_goesSo_10 sx_283 (by decide) fx_283_17 ?_
  refine q_iload_n (j := 3) hA rfl dX10_goesSo_13 ?_
  refine q_iconst hA dX10_goesSo_14 ?_
  refine q_iadd hA dX10_goesSo_15 ?_
  refine q_lald (x := D 297 (o + 1)) hA dX10_goesSo_16 sx_297 (by omega) (by decide) rfl ?_
  refine q_l2i hA dX10_goesSo_17 ?_
  refine q_istore (j := 6) (lo2 := [vR 283, vR c, vI q, vI o, vI n, vI (D 297 o), vI (D 297 (o + 1)), vN, vN, vN, vN]) hA dX10_goesSo_18 (by decide) rfl rfl ?_
  refine q_aload_n (j := 1) hA rfl dX10_goesSo_20 ?_
  refine q_iload_n (j := 2) hA rfl dX10_goesSo_21 ?_
  refine q_iload (j := 5) hA rfl dX10_goesSo_22 ?_
  refine q_iadd hA dX10_goesSo_24 ?_
  refine q_iald (x := D c (q + (D 297 o))) hA dX10_goesSo_25 hcw.1 (by omega) (by omega) rfl ?_
  refine q_iload (j := 6) hA rfl dX10_goesSo_26 ?_
  refine q_ishr hA dX10_goesSo_28 ?_
  refine q_iconst hA dX10_goesSo_29 ?_
  refine q_iand hA dX10_goesSo_30 ?_
  rw [show iAnd (iShr (D c (q + (D 297 o))) (D 297 (o + 1))) 1 = b01 (tb (D c (q + D 297 o)) (D 297 (o + 1))) from bitT (by omega) (by omega)]
  refine q_iconst hA dX10_goesSo_31 ?_
  refine q_icmp_ne (tgt := 39) hA (by have := b01_in (tb (D c (q + D 297 o)) (D 297 (o + 1))); omega) (by omega) dX10_goesSo_32 (by decide) (fun h32 => ?_) (fun h32 => ?_)
  · refine q_iconst hA dX10_goesSo_39 ?_
    refine q_istore (j := 7) (lo2 := [vR 283, vR c, vI q, vI o, vI n, vI (D 297 o), vI (D 297 (o + 1)), vI 0, vN, vN, vN]) hA dX10_goesSo_40 (by decide) rfl rfl ?_
    refine q_iconst hA dX10_goesSo_42 ?_
    refine q_istore (j := 8) (lo2 := [vR 283, vR c, vI q, vI o, vI n, vI (D 297 o), vI (D 297 (o + 1)), vI 0, vI 1, vN, vN]) hA dX10_goesSo_43 (by decide) rfl rfl ?_
    refine zX10_goesSo_L45 (D := D) (c := c) (w := w) (q := q) (o := o) (n := n) hcw hq hlk hN1 hn8 ho2 hit hwh  hA hR 1000 _ _ _ _ (by omega) (by omega) (by omega) (by first | (left; exact ⟨rfl, by unfold gsM; rw [if_pos (b01_t.1 (by omega)), show n + 1 - 1 = n by omega]⟩) | (right; exact ⟨rfl, by unfold gsM; dsimp only; rw [if_neg (fun z => by have := b01_t.2 z; omega)]⟩)) (by omega)
  · refine q_iconst hA dX10_goesSo_35 ?_
    refine q_goto (tgt := 40) hA dX10_goesSo_36 (by decide) ?_
    refine q_istore (j := 7) (lo2 := [vR 283, vR c, vI q, vI o, vI n, vI (D 297 o), vI (D 297 (o + 1)), vI 1, vN, vN, vN]) hA dX10_goesSo_40 (by decide) rfl rfl ?_
    refine q_iconst hA dX10_goesSo_42 ?_
    refine q_istore (j := 8) (lo2 := [vR 283, vR c, vI q, vI o, vI n, vI (D 297 o), vI (D 297 (o + 1)), vI 1, vI 1, vN, vN]) hA dX10_goesSo_43 (by decide) rfl rfl ?_
    refine zX10_goesSo_L45 (D := D) (c := c) (w := w) (q := q) (o := o) (n := n) hcw hq hlk hN1 hn8 ho2 hit hwh  hA hR 1000 _ _ _ _ (by omega) (by omega) (by omega) (by first | (left; exact ⟨rfl, by unfold gsM; rw [if_pos (b01_t.1 (by omega)), show n + 1 - 1 = n by omega]⟩) | (right; exact ⟨rfl, by unfold gsM; dsimp only; rw [if_neg (fun z => by have := b01_t.2 z; omega)]⟩)) (by omega)
set_option maxHeartbeats 4000000 in
set_option maxRecDepth 100000 in
theorem zX10_greatest_L3 {g : Gm} {l : Launch} {D : Dat} (hN1 : 1 ≤ D 284 0 ∧ D 284 0 ≤ 8) {s : Int} {o : Int} {n : Int} (hs : 0 ≤ s ∧ s ≤ 1) (hn8 : 0 ≤ n ∧ n ≤ 8) (ho2 : 0 ≤ o ∧ o + 2 * n + 1 < 96) (hit : ∀ i : Int, 0 ≤ i → i < 96 → -9223372036854775808 ≤ D 297 i ∧ D 297 i ≤ 9223372036854775807) (hwh : whB (D 297) (D 284 0) o n.toNat = true) (hF : 0 ≤ D 283 20 ∧ D 283 20 ≤ 132) (hLF : ∀ f : Int, 0 ≤ f → f < D 283 20 → lkOk D 299 (8 * f))   {J : JT} (hA : AX g l RX10 cX10_greatest 7 5 J) (hR : ReI cX10_greatest (fun v D1 => v = mx9 (fun k => (cntB (fun i => decide (ouF s (fun p => D 299 (8 * (i : Int) + p)) (D 284 0) (D 297) o n = k)) (D 283 20).toNat : Nat)) 9 ∧ ∀ c, c ≠ 304 → D1 c = D c) J) (hx : ∀ (k : Int) (E : Dat), (0 ≤ k ∧ k ≤ 9) → (∀ i : Int, 0 ≤ i → i < k → E 304 i = 0) → (∀ c, c ≠ 304 → E c = D c) → (k = 9) → J 24 [vR 283, vI s, vI o, vI n, vI k, vN, vN] [] E) : ∀ (fuel : Nat) (k : Int) (E : Dat), (0 ≤ k ∧ k ≤ 9) → (∀ i : Int, 0 ≤ i → i < k → E 304 i = 0) → (∀ c, c ≠ 304 → E c = D c) → 9 - k < (fuel : Int) → J 3 [vR 283, vI s, vI o, vI n, vI k, vN, vN] [] E := by
  intro fuel
  induction fuel with
  | zero => intro k E hk he hf hMs; exact absurd hMs (by omega)
  | succ fuel ih =>
    intro k E hk he hf hMs
    refine q_iload (j := 4) hA rfl dX10_greatest_3 ?_
    refine q_bipush hA (by decide) dX10_greatest_5 ?_
    refine q_icmp_ge (tgt := 24) hA (by omega) (by omega) dX10_greatest_7 (by decide) (fun h7 => ?_) (fun h7 => ?_)
    · exact hx _ _ hk he hf (by omega)
    · refine q_aload_n (j := 0) hA rfl dX10_greatest_10 ?_
      refine q_getR hA f_X10_72 dX10_greatest_11 sx_283 (by decide) fx_283_25 ?_
      refine q_iload (j := 4) hA rfl dX10_greatest_14 ?_
      refine q_iconst hA dX10_greatest_16 ?_
      refine q_iast hA dX10_greatest_17 sx_304 (by omega) (by decide) ?_
      refine q_iinc (j := 4) (lo2 := [vR 283, vI s, vI o, vI n, vI (k + 1), vN, vN]) hA dX10_greatest_18 rfl (by decide) rfl rfl ?_
      refine q_goto (tgt := 3) hA dX10_greatest_21 (by decide) ?_
      exact ih _ _ (by omega) (by intro i i1 i2; by_cases h : i = k; (subst h; exact upD_s); (rw [upD_n (Or.inr h)]; exact he i i1 (by omega))) (by exact fun c hc => (upD_other hc).trans (hf c hc)) (by omega)
set_option maxHeartbeats 4000000 in
set_option maxRecDepth 100000 in
theorem zX10_greatest_L27 {g : Gm} {l : Launch} {D : Dat} (hN1 : 1 ≤ D 284 0 ∧ D 284 0 ≤ 8) {s : Int} {o : Int} {n : Int} (hs : 0 ≤ s ∧ s ≤ 1) (hn8 : 0 ≤ n ∧ n ≤ 8) (ho2 : 0 ≤ o ∧ o + 2 * n + 1 < 96) (hit : ∀ i : Int, 0 ≤ i → i < 96 → -9223372036854775808 ≤ D 297 i ∧ D 297 i ≤ 9223372036854775807) (hwh : whB (D 297) (D 284 0) o n.toNat = true) (hF : 0 ≤ D 283 20 ∧ D 283 20 ≤ 132) (hLF : ∀ f : Int, 0 ≤ f → f < D 283 20 → lkOk D 299 (8 * f))   {J : JT} (hA : AX g l RX10 cX10_greatest 7 5 J) (hR : ReI cX10_greatest (fun v D1 => v = mx9 (fun k => (cntB (fun i => decide (ouF s (fun p => D 299 (8 * (i : Int) + p)) (D 284 0) (D 297) o n = k)) (D 283 20).toNat : Nat)) 9 ∧ ∀ c, c ≠ 304 → D1 c = D c) J) (hx : ∀ (f : Int) (E : Dat), (0 ≤ f ∧ f ≤ D 283 20) → (∀ k : Int, 0 ≤ k → k < 9 → E 304 k = (cntB (fun i => decide (ouF s (fun p => D 299 (8 * (i : Int) + p)) (D 284 0) (D 297) o n = k)) f.toNat : Nat)) → (∀ c, c ≠ 304 → E c = D c) → (f = D 283 20) → J 120 [vR 283, vI s, vI o, vI n, vI f, vN, vN] [] E) : ∀ (fuel : Nat) (f : Int) (E : Dat), (0 ≤ f ∧ f ≤ D 283 20) → (∀ k : Int, 0 ≤ k → k < 9 → E 304 k = (cntB (fun i => decide (ouF s (fun p => D 299 (8 * (i : Int) + p)) (D 284 0) (D 297) o n = k)) f.toNat : Nat)) → (∀ c, c ≠ 304 → E c = D c) → D 283 20 - f < (fuel : Int) → J 27 [vR 283, vI s, vI o, vI n, vI f, vN, vN] [] E := by
  intro fuel
  induction fuel with
  | zero => intro f E hfF he hf hMs; exact absurd hMs (by omega)
  | succ fuel ih =>
    intro f E hfF he hf hMs
    have e20 : E 283 20 = D 283 20 := by rw [hf 283 (by omega)]
    have e299 : E 299 = D 299 := hf 299 (by omega)
    have e284 : E 284 = D 284 := hf 284 (by omega)
    have e00 : E 284 0 = D 284 0 := by rw [e284]
    have e297 : E 297 = D 297 := hf 297 (by omega)
    have hN1E : 1 ≤ E 284 0 ∧ E 284 0 ≤ 8 := by rw [e284]; exact hN1
    have hitE : ∀ i : Int, 0 ≤ i → i < 96 → -9223372036854775808 ≤ E 297 i ∧ E 297 i ≤ 9223372036854775807 := by rw [e297]; exact hit
    have hwhE : whB (E 297) (E 284 0) o n.toNat = true := by rw [e297, e284]; exact hwh
    refine q_iload (j := 4) hA rfl dX10_greatest_27 ?_
    refine q_aload_n (j := 0) hA rfl dX10_greatest_29 ?_
    refine q_getI (x := D 283 20) hA f_X10_253 dX10_greatest_30 sx_283 (by decide) e20 ?_
    refine q_icmp_ge (tgt := 120) hA (by omega) (by omega) dX10_greatest_33 (by decide) (fun h33 => ?_) (fun h33 => ?_)
    · exact hx _ _ hfF he hf (by omega)
    · have hlE : lkOk E 299 (8 * f) := by unfold lkOk; rw [e299]; exact hLF f (by omega) (by omega)
      refine q_aload_n (j := 0) hA rfl dX10_greatest_36 ?_
      refine q_aload_n (j := 0) hA rfl dX10_greatest_37 ?_
      refine q_getR hA f_X10_57 dX10_greatest_38 sx_283 (by decide) fx_283_19 ?_
      refine q_bipush hA (by decide) dX10_greatest_41 ?_
      refine q_iload (j := 4) hA rfl dX10_greatest_43 ?_
      refine q_imul hA dX10_greatest_45 ?_
      refine q_iload_n (j := 2) hA rfl dX10_greatest_46 ?_
      refine q_iload_n (j := 3) hA rfl dX10_greatest_47 ?_
      refine q_callVP (b := 283) (As := [vR 299, vI (8 * f), vI o, vI n]) (st := []) hA l_X10_262 kX10_goesSo (zX10_goesSo (c := 299) (w := 1056) ⟨sx_299, by omega⟩ (by omega) hlE hN1E (by omega) (by omega) hitE hwhE) dX10_greatest_48 rfl rfl sx_283 (by decide) rfl (Nat.le_of_ble_eq_true rfl) (by omega) ?_
      refine q_nmI (fun gs egs => ?_)
      rw [e299, e284, e297] at egs
      have hgi := gsM_in (L := fun p => D 299 (8 * f + p)) (N := (D 284 0)) (f := D 297) (o := o) (n := n) (by omega) (by omega) hwh
      rw [← egs] at hgi
      refine q_istore (j := 5) (lo2 := [vR 283, vI s, vI o, vI n, vI f, vI gs, vN]) hA dX10_greatest_51 (by decide) rfl rfl ?_
      refine q_iload (j := 5) hA rfl dX10_greatest_53 ?_
      refine q_bipush hA (by decide) dX10_greatest_55 ?_
      refine q_icmp_eq (tgt := 114) hA (by omega) (by omega) dX10_greatest_57 (by decide) (fun h57 => ?_) (fun h57 => ?_)
      · refine q_iinc (j := 4) (lo2 := [vR 283, vI s, vI o, vI n, vI (f + 1), vI gs, vN]) hA dX10_greatest_114 rfl (by decide) rfl rfl ?_
        refine q_goto (tgt := 27) hA dX10_greatest_117 (by decide) ?_
        refine q_fgt (lo2 := [vR 283, vI s, vI o, vI n, vI (f + 1), vN, vN]) hA ⟨Or.inr rfl, Or.inr rfl, Or.inr rfl, Or.inr rfl, Or.inr rfl, Or.inl rfl, Or.inr rfl, trivial⟩ ?_
        exact ih _ _ (by omega) (by first | (intro k k0 k1; rw [cntB_step (by omega), upD2 (E := E) (c := 304)]; rw [he k k0 k1, show ((f.toNat : Nat) : Int) = f by omega, hou]; by_cases q : k = ix; (subst q; rw [if_pos rfl, decide_eq_true (show k = k from rfl), he k k0 k1]; simp); (rw [if_neg q, decide_eq_false (fun z => q z.symm)]; simp)) | (intro k k0 k1; rw [cntB_step (by omega), he k k0 k1, show ((f.toNat : Nat) : Int) = f by omega]; have hn1 : ouF s (fun p => D 299 (8 * f + p)) (D 284 0) (D 297) o n = -1 := (by unfold ouF; rw [← egs, if_pos (by omega)]); rw [hn1, decide_eq_false (by omega)]; simp)) (by first | exact hf | exact fun c hc => (upD_other hc).trans (hf c hc)) (by omega)
      · refine q_aload_n (j := 0) hA rfl dX10_greatest_60 ?_
        refine q_getR hA f_X10_57 dX10_greatest_61 sx_283 (by decide) fx_283_19 ?_
        refine q_bipush hA (by decide) dX10_greatest_64 ?_
        refine q_iload (j := 4) hA rfl dX10_greatest_66 ?_
        refine q_imul hA dX10_greatest_68 ?_
        refine q_aload_n (j := 0) hA rfl dX10_greatest_69 ?_
        refine q_getR hA f_X10_7 dX10_greatest_70 sx_283 (by decide) fx_283_0 ?_
        refine q_iconst hA dX10_greatest_73 ?_
        refine q_iald (x := E 284 0) hA dX10_greatest_74 sx_284 (by omega) (by decide) rfl ?_
        refine q_iload (j := 5) hA rfl dX10_greatest_75 ?_
        refine q_bipush hA (by decide) dX10_greatest_77 ?_
        refine q_idiv hA (by omega) (by omega) dX10_greatest_79 ?_
        refine q_iload (j := 5) hA rfl dX10_greatest_80 ?_
        refine q_bipush hA (by decide) dX10_greatest_82 ?_
        refine q_irem hA (by omega) (by omega) dX10_greatest_84 ?_
        refine q_iload_n (j := 1) hA rfl dX10_greatest_85 ?_
        refine q_callSP (As := [vR 299, vI (8 * f), vI (E 284 0), vI (gs / 8), vI (gs % 8), vI s]) (st := []) hA l_X10_155 kX10_brought (zX10_brought (c := 299) (w := 1056) ⟨sx_299, by omega⟩ (by omega) (by omega) hlE (by omega) (by omega) (by omega)) dX10_greatest_86 rfl rfl (Nat.le_of_ble_eq_true rfl) (by omega) ?_
        refine q_nmI (fun br ebr => ?_)
        rw [e299, e284] at ebr
        have hbi := brM_in (L := fun p => D 299 (8 * f + p)) (n := (D 284 0)) (f := gs / 8) (b := gs % 8) (s := s) (by omega)
        rw [← ebr] at hbi
        refine q_istore (j := 6) (lo2 := [vR 283, vI s, vI o, vI n, vI f, vI gs, vI br]) hA dX10_greatest_89 (by decide) rfl rfl ?_
        refine q_aload_n (j := 0) hA rfl dX10_greatest_91 ?_
        refine q_getR hA f_X10_72 dX10_greatest_92 sx_283 (by decide) fx_283_25 ?_
        refine q_iload (j := 6) hA rfl dX10_greatest_95 ?_
        refine q_bipush hA (by decide) dX10_greatest_97 ?_
        refine q_icmp_ne (tgt := 107) hA (by omega) (by omega) dX10_greatest_99 (by decide) (fun h99 => ?_) (fun h99 => ?_)
        · refine q_iload (j := 6) hA rfl dX10_greatest_107 ?_
          refine q_nmI (fun ix eix => ?_)
          have hou : ouF s (fun p => D 299 (8 * f + p)) (D 284 0) (D 297) o n = ix := by unfold ouF; rw [← egs, if_neg (by omega), ← ebr]; first | (rw [if_pos (by omega)]; exact eix.symm) | (rw [if_neg (by omega)]; exact eix.symm)
          have hix : 0 ≤ ix ∧ ix < 9 := by omega
          refine q_dup2IR hA dX10_greatest_109 ?_
          refine q_iald (x := E 304 ix) hA dX10_greatest_110 sx_304 (by omega) (by decide) rfl ?_
          refine q_iconst hA dX10_greatest_111 ?_
          refine q_iadd hA dX10_greatest_112 ?_
          refine q_iast hA dX10_greatest_113 sx_304 (by omega) (by decide) ?_
          refine q_iinc (j := 4) (lo2 := [vR 283, vI s, vI o, vI n, vI (f + 1), vI gs, vI br]) hA dX10_greatest_114 rfl (by decide) rfl rfl ?_
          refine q_goto (tgt := 27) hA dX10_greatest_117 (by decide) ?_
          refine q_fgt (lo2 := [vR 283, vI s, vI o, vI n, vI (f + 1), vN, vN]) hA ⟨Or.inr rfl, Or.inr rfl, Or.inr rfl, Or.inr rfl, Or.inr rfl, Or.inl rfl, Or.inl rfl, trivial⟩ ?_
          exact ih _ _ (by omega) (by first | (intro k k0 k1; rw [cntB_step (by omega), upD2 (E := E) (c := 304)]; rw [he k k0 k1, show ((f.toNat : Nat) : Int) = f by omega, hou]; by_cases q : k = ix; (subst q; rw [if_pos rfl, decide_eq_true (show k = k from rfl), he k k0 k1]; simp); (rw [if_neg q, decide_eq_false (fun z => q z.symm)]; simp)) | (intro k k0 k1; rw [cntB_step (by omega), he k k0 k1, show ((f.toNat : Nat) : Int) = f by omega]; have hn1 : ouF s (fun p => D 299 (8 * f + p)) (D 284 0) (D 297) o n = -1 := (by unfold ouF; rw [← egs, if_pos (by omega)]); rw [hn1, decide_eq_false (by omega)]; simp)) (by first | exact hf | exact fun c hc => (upD_other hc).trans (hf c hc)) (by omega)
        · refine q_bipush hA (by decide) dX10_greatest_102 ?_
          refine q_goto (tgt := 109) hA dX10_greatest_104 (by decide) ?_
          refine q_nmI (fun ix eix => ?_)
          have hou : ouF s (fun p => D 299 (8 * f + p)) (D 284 0) (D 297) o n = ix := by unfold ouF; rw [← egs, if_neg (by omega), ← ebr]; first | (rw [if_pos (by omega)]; exact eix.symm) | (rw [if_neg (by omega)]; exact eix.symm)
          have hix : 0 ≤ ix ∧ ix < 9 := by omega
          refine q_dup2IR hA dX10_greatest_109 ?_
          refine q_iald (x := E 304 ix) hA dX10_greatest_110 sx_304 (by omega) (by decide) rfl ?_
          refine q_iconst hA dX10_greatest_111 ?_
          refine q_iadd hA dX10_greatest_112 ?_
          refine q_iast hA dX10_greatest_113 sx_304 (by omega) (by decide) ?_
          refine q_iinc (j := 4) (lo2 := [vR 283, vI s, vI o, vI n, vI (f + 1), vI gs, vI br]) hA dX10_greatest_114 rfl (by decide) rfl rfl ?_
          refine q_goto (tgt := 27) hA dX10_greatest_117 (by decide) ?_
          refine q_fgt (lo2 := [vR 283, vI s, vI o, vI n, vI (f + 1), vN, vN]) hA ⟨Or.inr rfl, Or.inr rfl, Or.inr rfl, Or.inr rfl, Or.inr rfl, Or.inl rfl, Or.inl rfl, trivial⟩ ?_
          exact ih _ _ (by omega) (by first | (intro k k0 k1; rw [cntB_step (by omega), upD2 (E := E) (c := 304)]; rw [he k k0 k1, show ((f.toNat : Nat) : Int) = f by omega, hou]; by_cases q : k = ix; (subst q; rw [if_pos rfl, decide_eq_true (show k = k from rfl), he k k0 k1]; simp); (rw [if_neg q, decide_eq_false (fun z => q z.symm)]; simp)) | (intro k k0 k1; rw [cntB_step (by omega), he k k0 k1, show ((f.toNat : Nat) : Int) = f by omega]; have hn1 : ouF s (fun p => D 299 (8 * f + p)) (D 284 0) (D 297) o n = -1 := (by unfold ouF; rw [← egs, if_pos (by omega)]); rw [hn1, decide_eq_false (by omega)]; simp)) (by first | exact hf | exact fun c hc => (upD_other hc).trans (hf c hc)) (by omega)
set_option maxHeartbeats 4000000 in
set_option maxRecDepth 100000 in
theorem zX10_greatest_L126 {g : Gm} {l : Launch} {D : Dat} (hN1 : 1 ≤ D 284 0 ∧ D 284 0 ≤ 8) {s : Int} {o : Int} {n : Int} (hs : 0 ≤ s ∧ s ≤ 1) (hn8 : 0 ≤ n ∧ n ≤ 8) (ho2 : 0 ≤ o ∧ o + 2 * n + 1 < 96) (hit : ∀ i : Int, 0 ≤ i → i < 96 → -9223372036854775808 ≤ D 297 i ∧ D 297 i ≤ 9223372036854775807) (hwh : whB (D 297) (D 284 0) o n.toNat = true) (hF : 0 ≤ D 283 20 ∧ D 283 20 ≤ 132) (hLF : ∀ f : Int, 0 ≤ f → f < D 283 20 → lkOk D 299 (8 * f)) {E : Dat} (he : ∀ k : Int, 0 ≤ k → k < 9 → E 304 k = (cntB (fun i => decide (ouF s (fun p => D 299 (8 * (i : Int) + p)) (D 284 0) (D 297) o n = k)) (D 283 20).toNat : Nat)) (hf : ∀ c, c ≠ 304 → E c = D c) {J : JT} (hA : AX g l RX10 cX10_greatest 7 5 J) (hR : ReI cX10_greatest (fun v D1 => v = mx9 (fun k => (cntB (fun i => decide (ouF s (fun p => D 299 (8 * (i : Int) + p)) (D 284 0) (D 297) o n = k)) (D 283 20).toNat : Nat)) 9 ∧ ∀ c, c ≠ 304 → D1 c = D c) J) : ∀ (fuel : Nat) (mo : Int) (k : Int), (0 ≤ k ∧ k ≤ 9) → (mo = mx9 (fun k => (cntB (fun i => decide (ouF s (fun p => D 299 (8 * (i : Int) + p)) (D 284 0) (D 297) o n = k)) (D 283 20).toNat : Nat)) k.toNat) → 9 - k < (fuel : Int) → J 126 [vR 283, vI s, vI o, vI n, vI mo, vI k, vN] [] E := by
  intro fuel
  induction fuel with
  | zero => intro mo k hk hm hMs; exact absurd hMs (by omega)
  | succ fuel ih =>
    intro mo k hk hm hMs
    have hrng : ∀ k : Int, 0 ≤ k → k < 9 → 0 ≤ E 304 k ∧ E 304 k ≤ 132 := fun k k0 k1 => by rw [he k k0 k1]; have := cntB_le (fun i => decide (ouF s (fun p => D 299 (8 * (i : Int) + p)) (D 284 0) (D 297) o n = k)) (D 283 20).toNat; omega
    have hmi := mx9_in (g := fun k => (cntB (fun i => decide (ouF s (fun p => D 299 (8 * (i : Int) + p)) (D 284 0) (D 297) o n = k)) (D 283 20).toNat : Nat)) (B := 132) (by omega) (fun k k0 k1 => by have := hrng k k0 k1; rw [he k k0 k1] at this; exact this) k.toNat (by omega)
    rw [← hm] at hmi
    refine q_iload (j := 5) hA rfl dX10_greatest_126 ?_
    refine q_bipush hA (by decide) dX10_greatest_128 ?_
    refine q_icmp_ge (tgt := 165) hA (by omega) (by omega) dX10_greatest_130 (by decide) (fun h130 => ?_) (fun h130 => ?_)
    · refine q_iload (j := 4) hA rfl dX10_greatest_165 ?_
      exact hR 167 _ _ _ dX10_greatest_167 ⟨by rw [hm, show k = 9 by omega]; rfl, hf⟩
    · have hrk := hrng k (by omega) (by omega)
      refine q_aload_n (j := 0) hA rfl dX10_greatest_133 ?_
      refine q_getR hA f_X10_72 dX10_greatest_134 sx_283 (by decide) fx_283_25 ?_
      refine q_iload (j := 5) hA rfl dX10_greatest_137 ?_
      refine q_iald (x := E 304 k) hA dX10_greatest_139 sx_304 (by omega) (by decide) rfl ?_
      refine q_iload (j := 4) hA rfl dX10_greatest_140 ?_
      refine q_icmp_le (tgt := 155) hA (by omega) (by omega) dX10_greatest_142 (by decide) (fun h142 => ?_) (fun h142 => ?_)
      · refine q_iload (j := 4) hA rfl dX10_greatest_155 ?_
        refine q_istore (j := 4) (lo2 := [vR 283, vI s, vI o, vI n, vI mo, vI k, vN]) hA dX10_greatest_157 (by decide) rfl rfl ?_
        refine q_iinc (j := 5) (lo2 := [vR 283, vI s, vI o, vI n, vI mo, vI (k + 1), vN]) hA dX10_greatest_159 rfl (by decide) rfl rfl ?_
        refine q_goto (tgt := 126) hA dX10_greatest_162 (by decide) ?_
        exact ih _ _ (by omega) (by rw [mx9_step (by omega), ← hm, ← he k (by omega) (by omega)]; first | rw [if_pos (by omega)] | rw [if_neg (by omega)]) (by omega)
      · refine q_aload_n (j := 0) hA rfl dX10_greatest_145 ?_
        refine q_getR hA f_X10_72 dX10_greatest_146 sx_283 (by decide) fx_283_25 ?_
        refine q_iload (j := 5) hA rfl dX10_greatest_149 ?_
        refine q_iald (x := E 304 k) hA dX10_greatest_151 sx_304 (by omega) (by decide) rfl ?_
        refine q_goto (tgt := 157) hA dX10_greatest_152 (by decide) ?_
        refine q_istore (j := 4) (lo2 := [vR 283, vI s, vI o, vI n, vI (E 304 k), vI k, vN]) hA dX10_greatest_157 (by decide) rfl rfl ?_
        refine q_iinc (j := 5) (lo2 := [vR 283, vI s, vI o, vI n, vI (E 304 k), vI (k + 1), vN]) hA dX10_greatest_159 rfl (by decide) rfl rfl ?_
        refine q_goto (tgt := 126) hA dX10_greatest_162 (by decide) ?_
        exact ih _ _ (by omega) (by rw [mx9_step (by omega), ← hm, ← he k (by omega) (by omega)]; first | rw [if_pos (by omega)] | rw [if_neg (by omega)]) (by omega)
set_option maxHeartbeats 4000000 in
set_option maxRecDepth 100000 in
theorem zX10_greatest {g : Gm} {l : Launch} {D : Dat} (hN1 : 1 ≤ D 284 0 ∧ D 284 0 ≤ 8) {s : Int} {o : Int} {n : Int} (hs : 0 ≤ s ∧ s ≤ 1) (hn8 : 0 ≤ n ∧ n ≤ 8) (ho2 : 0 ≤ o ∧ o + 2 * n + 1 < 96) (hit : ∀ i : Int, 0 ≤ i → i < 96 → -9223372036854775808 ≤ D 297 i ∧ D 297 i ≤ 9223372036854775807) (hwh : whB (D 297) (D 284 0) o n.toNat = true) (hF : 0 ≤ D 283 20 ∧ D 283 20 ≤ 132) (hLF : ∀ f : Int, 0 ≤ f → f < D 283 20 → lkOk D 299 (8 * f)) : CrI g l 5 mX10_greatest [vR 283, vI s, vI o, vI n] D (fun v D1 => v = mx9 (fun k => (cntB (fun i => decide (ouF s (fun p => D 299 (8 * (i : Int) + p)) (D 284 0) (D 297) o n = k)) (D 283 20).toNat : Nat)) 9 ∧ ∀ c, c ≠ 304 → D1 c = D c) := by
  refine Cr.ofI (lo0 := [vR 283, vI s, vI o, vI n, vN, vN, vN]) (by decide) (Nat.le_of_ble_eq_true rfl) rfl (fun J hA hR => ?_)
  refine q_iconst hA dX10_greatest_0 ?_
  refine q_istore (j := 4) (lo2 := [vR 283, vI s, vI o, vI n, vI 0, vN, vN]) hA dX10_greatest_1 (by decide) rfl rfl ?_
  refine zX10_greatest_L3 (D := D) (s := s) (o := o) (n := n) hN1 hs hn8 ho2 hit hwh hF hLF  hA hR (fun k E hk he hf hk9 => ?_) 1000 _ _ (by omega) (by intro i i1 i2; omega) (by exact fun _ _ => rfl) (by omega)
  refine q_iconst hA dX10_greatest_24 ?_
  refine q_istore (j := 4) (lo2 := [vR 283, vI s, vI o, vI n, vI 0, vN, vN]) hA dX10_greatest_25 (by decide) rfl rfl ?_
  refine zX10_greatest_L27 (D := D) (s := s) (o := o) (n := n) hN1 hs hn8 ho2 hit hwh hF hLF  hA hR (fun f E hfF he hf hfx => ?_) 1000 _ _ (by omega) (by intro k k0 k1; rw [he k k0 (by omega)]; rfl) (by exact hf) (by omega)
  refine q_iconst hA dX10_greatest_120 ?_
  refine q_istore (j := 4) (lo2 := [vR 283, vI s, vI o, vI n, vI 0, vN, vN]) hA dX10_greatest_121 (by decide) rfl rfl ?_
  refine q_iconst hA dX10_greatest_123 ?_
  refine q_istore (j := 5) (lo2 := [vR 283, vI s, vI o, vI n, vI 0, vI 0, vN]) hA dX10_greatest_124 (by decide) rfl rfl ?_
  refine zX10_greatest_L126 (D := D) (s := s) (o := o) (n := n) hN1 hs hn8 ho2 hit hwh hF hLF (hfx ▸ he) hf hA hR 1000 _ _ (by omega) (by rfl) (by omega)
set_option maxHeartbeats 4000000 in
set_option maxRecDepth 100000 in
theorem zX10_foldings_L146 {g : Gm} {l : Launch} {D : Dat} (ho : mOk D 284) (h3 : 0 < D 284 0 → 3 ≤ D 284 0) {s : Int} {l_ : Int} {i : Int} {n : Int} {w : Int} (rs : -2147483648 ≤ s ∧ s ≤ 2147483647) (rl_ : -2147483648 ≤ l_ ∧ l_ ≤ 2147483647) (ri : -2147483648 ≤ i ∧ i ≤ 2147483647) (rn : -2147483648 ≤ n ∧ n ≤ 2147483647) (rw : -2147483648 ≤ w ∧ w ≤ 2147483647) (hla : ∀ j : Int, 0 ≤ j → j ≤ 3 → (-1 ≤ D 295 j ∧ D 295 j ≤ 3) ∧ (0 ≤ D 296 j ∧ D 296 j ≤ 24)) (hit : ∀ i : Int, 0 ≤ i → i < 96 → -9223372036854775808 ≤ D 297 i ∧ D 297 i ≤ 9223372036854775807) {E : Dat} {wy : Int} (hKB : (((((0 < D 284 0 ∧ (0 ≤ s ∧ s ≤ 3)) ∧ (0 ≤ l_ ∧ l_ ≤ 3)) ∧ (0 ≤ n ∧ n ≤ 8)) ∧ (0 ≤ w ∧ w ≤ 2)) ∧ refS (D 295 s) (D 296 s) l_ i (2 * n + 2) = 0)) (hwh : whB (D 297) (D 284 0) (24 * s + i) n.toNat = true) (hw1 : w ≠ 1) (e20 : E 283 20 = ((triN (D 284 0).toNat).length : Int)) (hout : outF E (triN (D 284 0).toNat)) (hfr : (∀ c, c ≠ 283 → c ≠ 299 → c ≠ 300 → c ≠ 301 → c ≠ 302 → c ≠ 303 → E c = D c) ∧ ∀ i : Int, i ≠ 20 → E 283 i = D 283 i) {J : JT} (hA : AX g l RX10 cX10_foldings 10 6 J) (hR : ReI cX10_foldings (fun v D1 => (¬ ((((0 < D 284 0 ∧ (0 ≤ s ∧ s ≤ 3)) ∧ (0 ≤ l_ ∧ l_ ≤ 3)) ∧ (0 ≤ n ∧ n ≤ 8)) ∧ (0 ≤ w ∧ w ≤ 2)) ∧ v = -1 ∧ D1 = D) ∨ (((((0 < D 284 0 ∧ (0 ≤ s ∧ s ≤ 3)) ∧ (0 ≤ l_ ∧ l_ ≤ 3)) ∧ (0 ≤ n ∧ n ≤ 8)) ∧ (0 ≤ w ∧ w ≤ 2)) ∧ refS (D 295 s) (D 296 s) l_ i (2 * n + 2) < 0 ∧ v = refS (D 295 s) (D 296 s) l_ i (2 * n + 2) ∧ D1 = D) ∨ ((((((0 < D 284 0 ∧ (0 ≤ s ∧ s ≤ 3)) ∧ (0 ≤ l_ ∧ l_ ≤ 3)) ∧ (0 ≤ n ∧ n ≤ 8)) ∧ (0 ≤ w ∧ w ≤ 2)) ∧ refS (D 295 s) (D 296 s) l_ i (2 * n + 2) = 0) ∧ whB (D 297) (D 284 0) (24 * s + i) n.toNat = false ∧ v = -2 ∧ D1 = D) ∨ ((((((0 < D 284 0 ∧ (0 ≤ s ∧ s ≤ 3)) ∧ (0 ≤ l_ ∧ l_ ≤ 3)) ∧ (0 ≤ n ∧ n ≤ 8)) ∧ (0 ≤ w ∧ w ≤ 2)) ∧ refS (D 295 s) (D 296 s) l_ i (2 * n + 2) = 0) ∧ whB (D 297) (D 284 0) (24 * s + i) n.toNat = true ∧ w = 1 ∧ (v = if gsM (fun p => D 284 (44 + p)) (D 284 0) (D 297) (24 * s + i) n = -4 then 0 else 1) ∧ D1 = D) ∨ ((((((0 < D 284 0 ∧ (0 ≤ s ∧ s ≤ 3)) ∧ (0 ≤ l_ ∧ l_ ≤ 3)) ∧ (0 ≤ n ∧ n ≤ 8)) ∧ (0 ≤ w ∧ w ≤ 2)) ∧ refS (D 295 s) (D 296 s) l_ i (2 * n + 2) = 0) ∧ whB (D 297) (D 284 0) (24 * s + i) n.toNat = true ∧ w ≠ 1 ∧ v = fdA (triN (D 284 0).toNat) (D 284 0) (D 297) (24 * s + i) n w ∧ (∀ c, c ≠ 283 → c ≠ 299 → c ≠ 300 → c ≠ 301 → c ≠ 302 → c ≠ 303 → c ≠ 304 → D1 c = D c) ∧ ∀ i : Int, i ≠ 20 → D1 283 i = D 283 i)) J) : ∀ (fuel : Nat) (th : Int) (f : Int), (0 ≤ f ∧ f ≤ ((triN (D 284 0).toNat).length : Int)) → (th = (cntB (fun y_ => decide (gsM (LI ((triN (D 284 0).toNat).getD y_ [])) (D 284 0) (D 297) (24 * s + i) n ≠ -4)) f.toNat : Nat)) → 200 - f < (fuel : Int) → J 146 [vR 283, vI s, vI l_, vI i, vI n, vI w, vI wy, vI (24 * s + i), vI th, vI f] [] E := by
  intro fuel
  induction fuel with
  | zero => intro th f hf2 hth hMs; exact absurd hMs (by have := ho.n; have := tri_le (n := (D 284 0).toNat) (by omega); omega)
  | succ fuel ih =>
    intro th f hf2 hth hMs
    have hb1 := hKB.1
    have hr0 := refS_0 hKB.2
    have hq := hla s (by omega) (by omega)
    have hn8b := ho.n
    have htl := tri_le (n := (D 284 0).toNat) (by omega)
    have e284 : E 284 = D 284 := hfr.1 284 (by omega) (by omega) (by omega) (by omega) (by omega) (by omega)
    have e297 : E 297 = D 297 := hfr.1 297 (by omega) (by omega) (by omega) (by omega) (by omega) (by omega)
    have hN1E : 1 ≤ E 284 0 ∧ E 284 0 ≤ 8 := by rw [e284]; omega
    have hitE : ∀ i : Int, 0 ≤ i → i < 96 → -9223372036854775808 ≤ E 297 i ∧ E 297 i ≤ 9223372036854775807 := by rw [e297]; exact hit
    have hwhE : whB (E 297) (E 284 0) (24 * s + i) n.toNat = true := by rw [e297, e284]; exact hwh
    have hcl := cntB_le (fun y_ => decide (gsM (LI ((triN (D 284 0).toNat).getD y_ [])) (D 284 0) (D 297) (24 * s + i) n ≠ -4)) f.toNat
    refine q_iload (j := 9) hA rfl dX10_foldings_146 ?_
    refine q_aload_n (j := 0) hA rfl dX10_foldings_148 ?_
    refine q_getI (x := E 283 20) hA f_X10_253 dX10_foldings_149 sx_283 (by decide) rfl ?_
    refine q_icmp_ge (tgt := 193) hA (by omega) (by omega) dX10_foldings_152 (by decide) (fun h152 => ?_) (fun h152 => ?_)
    · refine q_iload (j := 5) hA rfl dX10_foldings_193 ?_
      refine q_if_eq (tgt := 203) hA (by omega) dX10_foldings_195 (by decide) (fun h195 => ?_) (fun h195 => ?_)
      · refine q_iload (j := 5) hA rfl dX10_foldings_203 ?_
        refine q_if_ne (tgt := 213) hA (by omega) dX10_foldings_205 (by decide) (fun h205 => ?_) (fun h205 => ?_)
        · refine q_bipush hA (by decide) dX10_foldings_213 ?_
          exact hR 215 _ _ _ dX10_foldings_215 (by exact Or.inr (Or.inr (Or.inr (Or.inr ⟨hKB, hwh, hw1, by have eT : thF (triN (D 284 0).toNat) (D 284 0) (D 297) (24 * s + i) n = th := (by rw [hth, show f = ((triN (D 284 0).toNat).length : Int) by omega]; rfl); unfold fdA; rw [eT]; first | (exfalso; omega) | rw [if_pos (by omega)] | rw [if_neg (by omega), if_pos (by omega)], fun c c1 c2 c3 c4 c5 c6 _ => hfr.1 c c1 c2 c3 c4 c5 c6, hfr.2⟩))))
        · refine q_iload (j := 8) hA rfl dX10_foldings_208 ?_
          refine q_goto (tgt := 215) hA dX10_foldings_210 (by decide) ?_
          exact hR 215 _ _ _ dX10_foldings_215 (by exact Or.inr (Or.inr (Or.inr (Or.inr ⟨hKB, hwh, hw1, by have eT : thF (triN (D 284 0).toNat) (D 284 0) (D 297) (24 * s + i) n = th := (by rw [hth, show f = ((triN (D 284 0).toNat).length : Int) by omega]; rfl); unfold fdA; rw [eT]; first | (exfalso; omega) | rw [if_pos (by omega)] | rw [if_neg (by omega), if_pos (by omega)], fun c c1 c2 c3 c4 c5 c6 _ => hfr.1 c c1 c2 c3 c4 c5 c6, hfr.2⟩))))
      · refine q_iload (j := 8) hA rfl dX10_foldings_198 ?_
        refine q_if_ne (tgt := 216) hA (by omega) dX10_foldings_200 (by decide) (fun h200 => ?_) (fun h200 => ?_)
        · have hFE : 0 ≤ E 283 20 ∧ E 283 20 ≤ 132 := by omega
          have hLE : ∀ f : Int, 0 ≤ f → f < E 283 20 → lkOk E 299 (8 * f) := fun f f0 f1 => by have hm8 := hout f.toNat (by omega); rw [show ((f.toNat : Nat) : Int) = f by omega] at hm8; exact mem8_lk hm8 (tri_l8 (n := (D 284 0).toNat) (by omega) f.toNat)
          refine q_aload_n (j := 0) hA rfl dX10_foldings_216 ?_
          refine q_iconst hA dX10_foldings_217 ?_
          refine q_iload (j := 7) hA rfl dX10_foldings_218 ?_
          refine q_iload (j := 4) hA rfl dX10_foldings_220 ?_
          refine q_callVI (b := 283) (As := [vI 1, vI (24 * s + i), vI n]) (st := []) hA l_X10_272 kX10_greatest (zX10_greatest hN1E (by omega) (by omega) (by omega) hitE hwhE hFE hLE) dX10_foldings_222 rfl rfl sx_283 (by decide) rfl (Nat.le_of_ble_eq_true rfl) (by omega) (fun v222 D222 q222 => ?_)
          have hN1F : 1 ≤ D222 284 0 ∧ D222 284 0 ≤ 8 := by rw [q222.2 284 (by omega)]; exact hN1E
          have hitF : ∀ i : Int, 0 ≤ i → i < 96 → -9223372036854775808 ≤ D222 297 i ∧ D222 297 i ≤ 9223372036854775807 := by rw [q222.2 297 (by omega)]; exact hitE
          have hwhF : whB (D222 297) (D222 284 0) (24 * s + i) n.toNat = true := by rw [q222.2 297 (by omega), q222.2 284 (by omega)]; exact hwhE
          have hFF : 0 ≤ D222 283 20 ∧ D222 283 20 ≤ 132 := by rw [q222.2 283 (by omega)]; exact hFE
          have hLFF : ∀ f : Int, 0 ≤ f → f < D222 283 20 → lkOk D222 299 (8 * f) := by unfold lkOk; rw [q222.2 283 (by omega), q222.2 299 (by omega)]; exact hLE
          have g1 : v222 = grF 1 (triN (D 284 0).toNat) (D 284 0) (D 297) (24 * s + i) n := q222.1.trans (gr_eq hwh (by omega) (by omega) e284 e297 e20 hout)
          have g1i := gr_in (s := 1) (N := D 284 0) (f := D 297) (o := 24 * s + i) (n := n) (Ls := (triN (D 284 0).toNat))
          refine q_aload_n (j := 0) hA rfl dX10_foldings_225 ?_
          refine q_iconst hA dX10_foldings_226 ?_
          refine q_iload (j := 7) hA rfl dX10_foldings_227 ?_
          refine q_iload (j := 4) hA rfl dX10_foldings_229 ?_
          refine q_callVI (b := 283) (As := [vI 0, vI (24 * s + i), vI n]) (st := [vI v222]) hA l_X10_272 kX10_greatest (zX10_greatest hN1F (by omega) (by omega) (by omega) hitF hwhF hFF hLFF) dX10_foldings_231 rfl rfl sx_283 (by decide) rfl (Nat.le_of_ble_eq_true rfl) (by omega) (fun v231 D231 q231 => ?_)
          have g0 : v231 = grF 0 (triN (D 284 0).toNat) (D 284 0) (D 297) (24 * s + i) n := by have e := q231.1; rw [q222.2 299 (by omega), q222.2 284 (by omega), q222.2 297 (by omega), q222.2 283 (by omega)] at e; exact e.trans (gr_eq hwh (by omega) (by omega) e284 e297 e20 hout)
          have g0i := gr_in (s := 0) (N := D 284 0) (f := D 297) (o := 24 * s + i) (n := n) (Ls := (triN (D 284 0).toNat))
          refine q_icmp_ge (tgt := 241) hA (by omega) (by omega) dX10_foldings_234 (by decide) (fun h234 => ?_) (fun h234 => ?_)
          · refine q_iconst hA dX10_foldings_241 ?_
            exact hR 242 _ _ _ dX10_foldings_242 (by exact Or.inr (Or.inr (Or.inr (Or.inr ⟨hKB, hwh, hw1, by have eT : thF (triN (D 284 0).toNat) (D 284 0) (D 297) (24 * s + i) n = th := (by rw [hth, show f = ((triN (D 284 0).toNat).length : Int) by omega]; rfl); unfold fdA; rw [eT, if_neg (by omega), if_neg (by omega), ← g1, ← g0]; first | rw [if_pos (by omega)] | rw [if_neg (by omega)], fun c c1 c2 c3 c4 c5 c6 c7 => (q231.2 c c7).trans ((q222.2 c c7).trans (hfr.1 c c1 c2 c3 c4 c5 c6)), fun i hi => (by rw [q231.2 283 (by omega), q222.2 283 (by omega)]; exact hfr.2 i hi)⟩))))
          · refine q_iconst hA dX10_foldings_237 ?_
            refine q_goto (tgt := 242) hA dX10_foldings_238 (by decide) ?_
            exact hR 242 _ _ _ dX10_foldings_242 (by exact Or.inr (Or.inr (Or.inr (Or.inr ⟨hKB, hwh, hw1, by have eT : thF (triN (D 284 0).toNat) (D 284 0) (D 297) (24 * s + i) n = th := (by rw [hth, show f = ((triN (D 284 0).toNat).length : Int) by omega]; rfl); unfold fdA; rw [eT, if_neg (by omega), if_neg (by omega), ← g1, ← g0]; first | rw [if_pos (by omega)] | rw [if_neg (by omega)], fun c c1 c2 c3 c4 c5 c6 c7 => (q231.2 c c7).trans ((q222.2 c c7).trans (hfr.1 c c1 c2 c3 c4 c5 c6)), fun i hi => (by rw [q231.2 283 (by omega), q222.2 283 (by omega)]; exact hfr.2 i hi)⟩))))
        · refine q_iload (j := 5) hA rfl dX10_foldings_203 ?_
          refine q_if_ne (tgt := 213) hA (by omega) dX10_foldings_205 (by decide) (fun h205 => ?_) (fun h205 => ?_)
          · refine q_bipush hA (by decide) dX10_foldings_213 ?_
            exact hR 215 _ _ _ dX10_foldings_215 (by exact Or.inr (Or.inr (Or.inr (Or.inr ⟨hKB, hwh, hw1, by have eT : thF (triN (D 284 0).toNat) (D 284 0) (D 297) (24 * s + i) n = th := (by rw [hth, show f = ((triN (D 284 0).toNat).length : Int) by omega]; rfl); unfold fdA; rw [eT]; first | (exfalso; omega) | rw [if_pos (by omega)] | rw [if_neg (by omega), if_pos (by omega)], fun c c1 c2 c3 c4 c5 c6 _ => hfr.1 c c1 c2 c3 c4 c5 c6, hfr.2⟩))))
          · refine q_iload (j := 8) hA rfl dX10_foldings_208 ?_
            refine q_goto (tgt := 215) hA dX10_foldings_210 (by decide) ?_
            exact hR 215 _ _ _ dX10_foldings_215 (by exact Or.inr (Or.inr (Or.inr (Or.inr ⟨hKB, hwh, hw1, by have eT : thF (triN (D 284 0).toNat) (D 284 0) (D 297) (24 * s + i) n = th := (by rw [hth, show f = ((triN (D 284 0).toNat).length : Int) by omega]; rfl); unfold fdA; rw [eT]; first | (exfalso; omega) | rw [if_pos (by omega)] | rw [if_neg (by omega), if_pos (by omega)], fun c c1 c2 c3 c4 c5 c6 _ => hfr.1 c c1 c2 c3 c4 c5 c6, hfr.2⟩))))
    · have hm8 := hout f.toNat (by omega)
      rw [show ((f.toNat : Nat) : Int) = f by omega] at hm8
      have hl8 := tri_l8 (n := (D 284 0).toNat) (by omega) f.toNat
      have hlE : lkOk E 299 (8 * f) := mem8_lk hm8 hl8
      refine q_iload (j := 8) hA rfl dX10_foldings_155 ?_
      refine q_aload_n (j := 0) hA rfl dX10_foldings_157 ?_
      refine q_aload_n (j := 0) hA rfl dX10_foldings_158 ?_
      refine q_getR hA f_X10_57 dX10_foldings_159 sx_283 (by decide) fx_283_19 ?_
      refine q_bipush hA (by decide) dX10_foldings_162 ?_
      refine q_iload (j := 9) hA rfl dX10_foldings_164 ?_
      refine q_imul hA dX10_foldings_166 ?_
      refine q_iload (j := 7) hA rfl dX10_foldings_167 ?_
      refine q_iload (j := 4) hA rfl dX10_foldings_169 ?_
      refine q_callVP (b := 283) (As := [vR 299, vI (8 * f), vI (24 * s + i), vI n]) (st := [vI th]) hA l_X10_262 kX10_goesSo (zX10_goesSo (c := 299) (w := 1056) ⟨sx_299, by omega⟩ (by omega) hlE hN1E (by omega) (by omega) hitE hwhE) dX10_foldings_171 rfl rfl sx_283 (by decide) rfl (Nat.le_of_ble_eq_true rfl) (by omega) ?_
      refine q_nmI (fun gs egs => ?_)
      rw [e284, e297] at egs
      have hge : gs = gsM (LI ((triN (D 284 0).toNat).getD f.toNat [])) (D 284 0) (D 297) (24 * s + i) n := egs.trans (gsM_c (by omega) (by omega) hwh (mem8_LI hm8))
      have hgi := gsM_in (L := LI ((triN (D 284 0).toNat).getD f.toNat [])) (N := (D 284 0)) (f := D 297) (o := (24 * s + i)) (n := n) (by omega) (by omega) hwh
      rw [← hge] at hgi
      refine q_bipush hA (by decide) dX10_foldings_174 ?_
      refine q_icmp_ne (tgt := 183) hA (by omega) (by omega) dX10_foldings_176 (by decide) (fun h176 => ?_) (fun h176 => ?_)
      · refine q_iconst hA dX10_foldings_183 ?_
        refine q_iadd hA dX10_foldings_184 ?_
        refine q_istore (j := 8) (lo2 := [vR 283, vI s, vI l_, vI i, vI n, vI w, vI wy, vI (24 * s + i), vI (th + 1), vI f]) hA dX10_foldings_185 (by decide) rfl rfl ?_
        refine q_iinc (j := 9) (lo2 := [vR 283, vI s, vI l_, vI i, vI n, vI w, vI wy, vI (24 * s + i), vI (th + 1), vI (f + 1)]) hA dX10_foldings_187 rfl (by decide) rfl rfl ?_
        refine q_goto (tgt := 146) hA dX10_foldings_190 (by decide) ?_
        exact ih _ _ (by omega) (by rw [cntB_step (by omega), ← hge, hth]; first | (rw [decide_eq_true (by omega)]; simp) | (rw [decide_eq_false (by omega)]; simp)) (by omega)
      · refine q_iconst hA dX10_foldings_179 ?_
        refine q_goto (tgt := 184) hA dX10_foldings_180 (by decide) ?_
        refine q_iadd hA dX10_foldings_184 ?_
        refine q_istore (j := 8) (lo2 := [vR 283, vI s, vI l_, vI i, vI n, vI w, vI wy, vI (24 * s + i), vI (th + 0), vI f]) hA dX10_foldings_185 (by decide) rfl rfl ?_
        refine q_iinc (j := 9) (lo2 := [vR 283, vI s, vI l_, vI i, vI n, vI w, vI wy, vI (24 * s + i), vI (th + 0), vI (f + 1)]) hA dX10_foldings_187 rfl (by decide) rfl rfl ?_
        refine q_goto (tgt := 146) hA dX10_foldings_190 (by decide) ?_
        exact ih _ _ (by omega) (by rw [cntB_step (by omega), ← hge, hth]; first | (rw [decide_eq_true (by omega)]; simp) | (rw [decide_eq_false (by omega)]; simp)) (by omega)
set_option maxHeartbeats 4000000 in
set_option maxRecDepth 100000 in
theorem zX10_foldings {g : Gm} {l : Launch} {D : Dat} (ho : mOk D 284) (h3 : 0 < D 284 0 → 3 ≤ D 284 0) {s : Int} {l_ : Int} {i : Int} {n : Int} {w : Int} (rs : -2147483648 ≤ s ∧ s ≤ 2147483647) (rl_ : -2147483648 ≤ l_ ∧ l_ ≤ 2147483647) (ri : -2147483648 ≤ i ∧ i ≤ 2147483647) (rn : -2147483648 ≤ n ∧ n ≤ 2147483647) (rw : -2147483648 ≤ w ∧ w ≤ 2147483647) (hla : ∀ j : Int, 0 ≤ j → j ≤ 3 → (-1 ≤ D 295 j ∧ D 295 j ≤ 3) ∧ (0 ≤ D 296 j ∧ D 296 j ≤ 24)) (hit : ∀ i : Int, 0 ≤ i → i < 96 → -9223372036854775808 ≤ D 297 i ∧ D 297 i ≤ 9223372036854775807) : CrI g l 6 mX10_foldings [vR 283, vI s, vI l_, vI i, vI n, vI w] D (fun v D1 => (¬ ((((0 < D 284 0 ∧ (0 ≤ s ∧ s ≤ 3)) ∧ (0 ≤ l_ ∧ l_ ≤ 3)) ∧ (0 ≤ n ∧ n ≤ 8)) ∧ (0 ≤ w ∧ w ≤ 2)) ∧ v = -1 ∧ D1 = D) ∨ (((((0 < D 284 0 ∧ (0 ≤ s ∧ s ≤ 3)) ∧ (0 ≤ l_ ∧ l_ ≤ 3)) ∧ (0 ≤ n ∧ n ≤ 8)) ∧ (0 ≤ w ∧ w ≤ 2)) ∧ refS (D 295 s) (D 296 s) l_ i (2 * n + 2) < 0 ∧ v = refS (D 295 s) (D 296 s) l_ i (2 * n + 2) ∧ D1 = D) ∨ ((((((0 < D 284 0 ∧ (0 ≤ s ∧ s ≤ 3)) ∧ (0 ≤ l_ ∧ l_ ≤ 3)) ∧ (0 ≤ n ∧ n ≤ 8)) ∧ (0 ≤ w ∧ w ≤ 2)) ∧ refS (D 295 s) (D 296 s) l_ i (2 * n + 2) = 0) ∧ whB (D 297) (D 284 0) (24 * s + i) n.toNat = false ∧ v = -2 ∧ D1 = D) ∨ ((((((0 < D 284 0 ∧ (0 ≤ s ∧ s ≤ 3)) ∧ (0 ≤ l_ ∧ l_ ≤ 3)) ∧ (0 ≤ n ∧ n ≤ 8)) ∧ (0 ≤ w ∧ w ≤ 2)) ∧ refS (D 295 s) (D 296 s) l_ i (2 * n + 2) = 0) ∧ whB (D 297) (D 284 0) (24 * s + i) n.toNat = true ∧ w = 1 ∧ (v = if gsM (fun p => D 284 (44 + p)) (D 284 0) (D 297) (24 * s + i) n = -4 then 0 else 1) ∧ D1 = D) ∨ ((((((0 < D 284 0 ∧ (0 ≤ s ∧ s ≤ 3)) ∧ (0 ≤ l_ ∧ l_ ≤ 3)) ∧ (0 ≤ n ∧ n ≤ 8)) ∧ (0 ≤ w ∧ w ≤ 2)) ∧ refS (D 295 s) (D 296 s) l_ i (2 * n + 2) = 0) ∧ whB (D 297) (D 284 0) (24 * s + i) n.toNat = true ∧ w ≠ 1 ∧ v = fdA (triN (D 284 0).toNat) (D 284 0) (D 297) (24 * s + i) n w ∧ (∀ c, c ≠ 283 → c ≠ 299 → c ≠ 300 → c ≠ 301 → c ≠ 302 → c ≠ 303 → c ≠ 304 → D1 c = D c) ∧ ∀ i : Int, i ≠ 20 → D1 283 i = D 283 i)) := by
  refine Cr.ofI (lo0 := [vR 283, vI s, vI l_, vI i, vI n, vI w, vN, vN, vN, vN]) (by decide) (Nat.le_of_ble_eq_true rfl) rfl (fun J hA hR => ?_)
  have hn := ho.n
  have hf := ho.f
  have hb := ho.b
  refine q_aload_n (j := 0) hA rfl dX10_foldings_0 ?_
  refine q_callVB (b := 283) (As := []) (st := []) hA l_X10_159 kX10_isThere (zX10_isThere (by first | assumption | omega | rfl)) dX10_foldings_1 rfl rfl sx_283 (by decide) rfl (Nat.le_of_ble_eq_true rfl) (by omega) (fun h1 => ?_) (fun h1 => ?_)
  · refine q_if_eq (tgt := 52) hA (by decide) dX10_foldings_4 (by decide) (fun h4 => absurd h4 (by decide)) (fun h4 => ?_)
    refine q_iload_n (j := 1) hA rfl dX10_foldings_7 ?_
    refine q_callSB (As := [vI s]) (st := []) hA l_X10_235 kX10_isSheet (zX10_isSheet (by first | assumption | omega | rfl)) dX10_foldings_8 rfl rfl (Nat.le_of_ble_eq_true rfl) (by omega) (fun h8 => ?_) (fun h8 => ?_)
    · refine q_if_eq (tgt := 52) hA (by decide) dX10_foldings_11 (by decide) (fun h11 => absurd h11 (by decide)) (fun h11 => ?_)
      refine q_iload_n (j := 2) hA rfl dX10_foldings_14 ?_
      refine q_i2l hA (by omega) dX10_foldings_15 ?_
      refine q_lconst hA dX10_foldings_16 ?_
      show J _ _ (vL 0 :: _) _
      refine q_ldc2 hA c_X10_233 dX10_foldings_17 ?_
      refine q_callSB (As := [vL l_, vL 0, vL 3]) (st := []) hA l_X10_77 kX10_in (zX10_in (by first | assumption | omega | rfl) (by first | assumption | omega | rfl) (by first | assumption | omega | rfl)) dX10_foldings_20 rfl rfl (Nat.le_of_ble_eq_true rfl) (by omega) (fun h20 => ?_) (fun h20 => ?_)
      · refine q_if_eq (tgt := 52) hA (by decide) dX10_foldings_23 (by decide) (fun h23 => absurd h23 (by decide)) (fun h23 => ?_)
        refine q_iload (j := 4) hA rfl dX10_foldings_26 ?_
        refine q_i2l hA (by omega) dX10_foldings_28 ?_
        refine q_lconst hA dX10_foldings_29 ?_
        show J _ _ (vL 0 :: _) _
        refine q_ldc2 hA c_X10_231 dX10_foldings_30 ?_
        refine q_callSB (As := [vL n, vL 0, vL 8]) (st := []) hA l_X10_77 kX10_in (zX10_in (by first | assumption | omega | rfl) (by first | assumption | omega | rfl) (by first | assumption | omega | rfl)) dX10_foldings_33 rfl rfl (Nat.le_of_ble_eq_true rfl) (by omega) (fun h33 => ?_) (fun h33 => ?_)
        · refine q_if_eq (tgt := 52) hA (by decide) dX10_foldings_36 (by decide) (fun h36 => absurd h36 (by decide)) (fun h36 => ?_)
          refine q_iload (j := 5) hA rfl dX10_foldings_39 ?_
          refine q_i2l hA (by omega) dX10_foldings_41 ?_
          refine q_lconst hA dX10_foldings_42 ?_
          show J _ _ (vL 0 :: _) _
          refine q_ldc2 hA c_X10_260 dX10_foldings_43 ?_
          refine q_callSB (As := [vL w, vL 0, vL 2]) (st := []) hA l_X10_77 kX10_in (zX10_in (by first | assumption | omega | rfl) (by first | assumption | omega | rfl) (by first | assumption | omega | rfl)) dX10_foldings_46 rfl rfl (Nat.le_of_ble_eq_true rfl) (by omega) (fun h46 => ?_) (fun h46 => ?_)
          · refine q_if_ne (tgt := 54) hA (by decide) dX10_foldings_49 (by decide) (fun h49 => ?_) (fun h49 => absurd h49 (by decide))
            refine q_aload_n (j := 0) hA rfl dX10_foldings_54 ?_
            refine q_iload_n (j := 1) hA rfl dX10_foldings_55 ?_
            refine q_iload_n (j := 2) hA rfl dX10_foldings_56 ?_
            refine q_iload_n (j := 3) hA rfl dX10_foldings_57 ?_
            refine q_iconst hA dX10_foldings_58 ?_
            refine q_iload (j := 4) hA rfl dX10_foldings_59 ?_
            refine q_imul hA dX10_foldings_61 ?_
            refine q_iconst hA dX10_foldings_62 ?_
            refine q_iadd hA dX10_foldings_63 ?_
            refine q_callVP (b := 283) (As := [vI s, vI l_, vI i, vI ((2 * n) + 2)]) (st := []) hA l_X10_240 kX10_why (zX10_why (by first | assumption | omega | rfl) (by first | assumption | omega | rfl) (by first | assumption | omega | rfl) (by first | assumption | omega | rfl) (by first | assumption | omega | rfl)) dX10_foldings_64 rfl rfl sx_283 (by decide) rfl (Nat.le_of_ble_eq_true rfl) (by omega) ?_
            refine q_nmI (fun y ey => ?_)
            refine q_nmI (fun wy ewy => ?_)
            refine q_istore (j := 6) (lo2 := [vR 283, vI s, vI l_, vI i, vI n, vI w, vI wy, vN, vN, vN]) hA dX10_foldings_67 (by decide) rfl rfl ?_
            have hw := refS_in (D 295 s) (D 296 s) l_ i (2 * n + 2)
            rw [← ey, ← ewy] at hw
            refine q_iload (j := 6) hA rfl dX10_foldings_69 ?_
            refine q_if_ge (tgt := 77) hA (by omega) dX10_foldings_71 (by decide) (fun h71 => ?_) (fun h71 => ?_)
            · refine q_bipush hA (by decide) dX10_foldings_77 ?_
              refine q_iload_n (j := 1) hA rfl dX10_foldings_79 ?_
              refine q_imul hA dX10_foldings_80 ?_
              refine q_iload_n (j := 3) hA rfl dX10_foldings_81 ?_
              refine q_iadd hA dX10_foldings_82 ?_
              refine q_istore (j := 7) (lo2 := [vR 283, vI s, vI l_, vI i, vI n, vI w, vI wy, vI ((24 * s) + i), vN, vN]) hA dX10_foldings_83 (by decide) rfl rfl ?_
              have hKB : (((((0 < D 284 0 ∧ (0 ≤ s ∧ s ≤ 3)) ∧ (0 ≤ l_ ∧ l_ ≤ 3)) ∧ (0 ≤ n ∧ n ≤ 8)) ∧ (0 ≤ w ∧ w ≤ 2)) ∧ refS (D 295 s) (D 296 s) l_ i (2 * n + 2) = 0) := ⟨by omega, by rw [← ey, ← ewy]; omega⟩
              have hr0 := refS_0 hKB.2
              have hq := hla s (by omega) (by omega)
              refine q_aload_n (j := 0) hA rfl dX10_foldings_85 ?_
              refine q_iload (j := 7) hA rfl dX10_foldings_86 ?_
              refine q_iload (j := 4) hA rfl dX10_foldings_88 ?_
              refine q_callVP (b := 283) (As := [vI ((24 * s) + i), vI n]) (st := []) hA l_X10_266 kX10_whyNot (zX10_whyNot (by omega) (by omega) (by omega) hit) dX10_foldings_90 rfl rfl sx_283 (by decide) rfl (Nat.le_of_ble_eq_true rfl) (by omega) ?_
              refine q_nmI (fun wn ewn => ?_)
              refine q_if_ge (tgt := 99) hA (by omega) dX10_foldings_93 (by decide) (fun h93 => ?_) (fun h93 => ?_)
              · have hwt : whB (D 297) (D 284 0) (24 * s + i) n.toNat = true := by by_cases q : whB (D 297) (D 284 0) (24 * s + i) n.toNat = true; exact q; (rw [if_neg q] at ewn; omega)
                refine q_iload (j := 5) hA rfl dX10_foldings_99 ?_
                refine q_iconst hA dX10_foldings_101 ?_
                refine q_icmp_ne (tgt := 130) hA (by omega) (by omega) dX10_foldings_102 (by decide) (fun h102 => ?_) (fun h102 => ?_)
                · refine q_aload_n (j := 0) hA rfl dX10_foldings_130 ?_
                  refine q_aload_n (j := 0) hA rfl dX10_foldings_131 ?_
                  refine q_getR hA f_X10_7 dX10_foldings_132 sx_283 (by decide) fx_283_0 ?_
                  refine q_iconst hA dX10_foldings_135 ?_
                  refine q_iald (x := D 284 0) hA dX10_foldings_136 sx_284 (by omega) (by decide) rfl ?_
                  refine q_callVV (b := 283) (As := [vI (D 284 0)]) (st := []) hA l_X10_269 kX10_all (zX10_all (by omega)) dX10_foldings_137 rfl rfl sx_283 (by decide) rfl (Nat.le_of_ble_eq_true rfl) (by omega) (fun D137 q137 => ?_)
                  obtain ⟨a1, a2, a3, a4⟩ := q137
                  refine q_iconst hA dX10_foldings_140 ?_
                  refine q_istore (j := 8) (lo2 := [vR 283, vI s, vI l_, vI i, vI n, vI w, vI wy, vI ((24 * s) + i), vI 0, vN]) hA dX10_foldings_141 (by decide) rfl rfl ?_
                  refine q_iconst hA dX10_foldings_143 ?_
                  refine q_istore (j := 9) (lo2 := [vR 283, vI s, vI l_, vI i, vI n, vI w, vI wy, vI ((24 * s) + i), vI 0, vI 0]) hA dX10_foldings_144 (by decide) rfl rfl ?_
                  refine zX10_foldings_L146 (D := D) (s := s) (l_ := l_) (i := i) (n := n) (w := w) ho h3 rs rl_ ri rn rw hla hit hKB hwt h102 a1 a2 (⟨a3, a4⟩) hA hR 1000 _ _ (by exact ⟨Int.le_refl _, Int.natCast_nonneg _⟩) (by rfl) (by omega)
                · refine q_aload_n (j := 0) hA rfl dX10_foldings_105 ?_
                  refine q_aload_n (j := 0) hA rfl dX10_foldings_106 ?_
                  refine q_getR hA f_X10_7 dX10_foldings_107 sx_283 (by decide) fx_283_0 ?_
                  refine q_bipush hA (by decide) dX10_foldings_110 ?_
                  refine q_iload (j := 7) hA rfl dX10_foldings_112 ?_
                  refine q_iload (j := 4) hA rfl dX10_foldings_114 ?_
                  refine q_callVP (b := 283) (As := [vR 284, vI 44, vI ((24 * s) + i), vI n]) (st := []) hA l_X10_262 kX10_goesSo (zX10_goesSo (c := 284) (w := 52) ⟨sx_284, by omega⟩ (by omega) ho.lk (by omega) (by omega) (by omega) hit hwt) dX10_foldings_116 rfl rfl sx_283 (by decide) rfl (Nat.le_of_ble_eq_true rfl) (by omega) ?_
                  refine q_nmI (fun gs egs => ?_)
                  have hgi := gsM_in (L := fun p => D 284 (44 + p)) (N := D 284 0) (f := D 297) (o := 24 * s + i) (n := n) (by omega) (by omega) hwt
                  rw [← egs] at hgi
                  refine q_bipush hA (by decide) dX10_foldings_119 ?_
                  refine q_icmp_ne (tgt := 128) hA (by omega) (by omega) dX10_foldings_121 (by decide) (fun h121 => ?_) (fun h121 => ?_)
                  · refine q_iconst hA dX10_foldings_128 ?_
                    exact hR 129 _ _ _ dX10_foldings_129 (by exact Or.inr (Or.inr (Or.inr (Or.inl ⟨hKB, hwt, by omega, by rw [← egs]; first | rw [if_pos (by omega)] | rw [if_neg (by omega)], rfl⟩))))
                  · refine q_iconst hA dX10_foldings_124 ?_
                    refine q_goto (tgt := 129) hA dX10_foldings_125 (by decide) ?_
                    exact hR 129 _ _ _ dX10_foldings_129 (by exact Or.inr (Or.inr (Or.inr (Or.inl ⟨hKB, hwt, by omega, by rw [← egs]; first | rw [if_pos (by omega)] | rw [if_neg (by omega)], rfl⟩))))
              · refine q_bipush hA (by decide) dX10_foldings_96 ?_
                exact hR 98 _ _ _ dX10_foldings_98 (by exact Or.inr (Or.inr (Or.inl ⟨hKB, by cases q : whB (D 297) (D 284 0) (24 * s + i) n.toNat with | false => rfl | true => rw [if_pos q] at ewn; omega, rfl, rfl⟩)))
            · refine q_iload (j := 6) hA rfl dX10_foldings_74 ?_
              exact hR 76 _ _ _ dX10_foldings_76 (by exact Or.inr (Or.inl ⟨by omega, by rw [← ey, ← ewy]; omega, by rw [ewy]; exact ey, rfl⟩))
          · refine q_if_ne (tgt := 54) hA (by decide) dX10_foldings_49 (by decide) (fun h49 => absurd h49 (by decide)) (fun h49 => ?_)
            refine q_iconst hA dX10_foldings_52 ?_
            exact hR 53 _ _ _ dX10_foldings_53 (by exact Or.inl ⟨by omega, rfl, rfl⟩)
        · refine q_if_eq (tgt := 52) hA (by decide) dX10_foldings_36 (by decide) (fun h36 => ?_) (fun h36 => absurd h36 (by decide))
          refine q_iconst hA dX10_foldings_52 ?_
          exact hR 53 _ _ _ dX10_foldings_53 (by exact Or.inl ⟨by omega, rfl, rfl⟩)
      · refine q_if_eq (tgt := 52) hA (by decide) dX10_foldings_23 (by decide) (fun h23 => ?_) (fun h23 => absurd h23 (by decide))
        refine q_iconst hA dX10_foldings_52 ?_
        exact hR 53 _ _ _ dX10_foldings_53 (by exact Or.inl ⟨by omega, rfl, rfl⟩)
    · refine q_if_eq (tgt := 52) hA (by decide) dX10_foldings_11 (by decide) (fun h11 => ?_) (fun h11 => absurd h11 (by decide))
      refine q_iconst hA dX10_foldings_52 ?_
      exact hR 53 _ _ _ dX10_foldings_53 (by exact Or.inl ⟨by omega, rfl, rfl⟩)
  · refine q_if_eq (tgt := 52) hA (by decide) dX10_foldings_4 (by decide) (fun h4 => ?_) (fun h4 => absurd h4 (by decide))
    refine q_iconst hA dX10_foldings_52 ?_
    exact hR 53 _ _ _ dX10_foldings_53 (by exact Or.inl ⟨by omega, rfl, rfl⟩)
