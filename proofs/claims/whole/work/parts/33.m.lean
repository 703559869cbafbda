set_option maxHeartbeats 4000000 in
set_option maxRecDepth 100000 in
theorem zX10_strip_L24 {g : Gm} {l : Launch} {D : Dat} (ht : 0 ≤ D 283 2 ∧ D 283 2 ≤ 80) (htp : ∀ i : Int, 0 ≤ i → i < 80 → 0 ≤ D 285 i ∧ D 285 i ≤ 255) {F : Dat} {w : Int} (m1 : MB D F w (pWhole (mAt D) (D 283 2) zR)) (hw1 : w ≠ 0) {J : JT} (hA : AX g l RX10 cX10_strip 3 5 J) (hR : ReI cX10_strip (fun v D1 => stripQ D D1 v (pWhole (mAt D) (D 283 2) zR)) J) : ∀ (fuel : Nat) (k : Int) (E : Dat), (0 ≤ k ∧ k ≤ 52) → (cpF (upD F 283 2 0) E 284 0 286 0 k) → 52 - k < (fuel : Int) → J 24 [vR 283, vI w, vI k] [] E := by
  intro fuel
  induction fuel with
  | zero => intro k E hk hc hMs; exact absurd hMs (by omega)
  | succ fuel ih =>
    intro k E hk hc hMs
    refine q_iload_n (j := 2) hA rfl dX10_strip_24 ?_
    refine q_bipush hA (by decide) dX10_strip_25 ?_
    refine q_icmp_ge (tgt := 48) hA (by omega) (by omega) dX10_strip_27 (by decide) (fun h27 => ?_) (fun h27 => ?_)
    · refine q_aload_n (j := 0) hA rfl dX10_strip_48 ?_
      refine q_iconst hA dX10_strip_49 ?_
      refine q_putI hA f_X10_130 dX10_strip_50 sx_283 (by decide) ?_
      refine q_nmD (fun H eH => ?_)
      refine q_aload_n (j := 0) hA rfl dX10_strip_53 ?_
      refine q_getR hA f_X10_7 dX10_strip_54 sx_283 (by decide) fx_283_0 ?_
      refine q_iconst hA dX10_strip_57 ?_
      refine q_iald (x := H 284 0) hA dX10_strip_58 sx_284 (by omega) (by decide) rfl ?_
      exact hR 59 _ _ _ dX10_strip_59 (by exact strip_t m1 hw1 hc (by omega) eH rfl)
    · refine q_aload_n (j := 0) hA rfl dX10_strip_30 ?_
      refine q_getR hA f_X10_7 dX10_strip_31 sx_283 (by decide) fx_283_0 ?_
      refine q_iload_n (j := 2) hA rfl dX10_strip_34 ?_
      refine q_aload_n (j := 0) hA rfl dX10_strip_35 ?_
      refine q_getR hA f_X10_16 dX10_strip_36 sx_283 (by decide) fx_283_4 ?_
      refine q_iload_n (j := 2) hA rfl dX10_strip_39 ?_
      refine q_iald (x := E 286 k) hA dX10_strip_40 sx_286 (by omega) (by decide) rfl ?_
      refine q_iast hA dX10_strip_41 sx_284 (by omega) (by decide) ?_
      refine q_iinc (j := 2) (lo2 := [vR 283, vI w, vI (k + 1)]) hA dX10_strip_42 rfl (by decide) rfl rfl ?_
      refine q_goto (tgt := 24) hA dX10_strip_45 (by decide) ?_
      exact ih _ _ (by omega) (by exact hc.s (by omega) (by omega) (by rw [hc.2.2 286 (by omega)]; congr 1; omega)) (by omega)
set_option maxHeartbeats 4000000 in
set_option maxRecDepth 100000 in
theorem zX10_strip {g : Gm} {l : Launch} {D : Dat} (ht : 0 ≤ D 283 2 ∧ D 283 2 ≤ 80) (htp : ∀ i : Int, 0 ≤ i → i < 80 → 0 ≤ D 285 i ∧ D 285 i ≤ 255) : CrI g l 5 mX10_strip [vR 283] D (fun v D1 => stripQ D D1 v (pWhole (mAt D) (D 283 2) zR)) := by
  refine Cr.ofI (lo0 := [vR 283, vN, vN]) (by decide) (Nat.le_of_ble_eq_true rfl) rfl (fun J hA hR => ?_)
  refine q_aload_n (j := 0) hA rfl dX10_strip_0 ?_
  refine q_callVI (b := 283) (As := []) (st := []) hA l_X10_127 kX10_reads (zX10_reads (by first | assumption | omega | rfl) (by first | assumption | omega | rfl)) dX10_strip_1 rfl rfl sx_283 (by decide) rfl (Nat.le_of_ble_eq_true rfl) (by omega) (fun v1 D1 q1 => ?_)
  refine q_istore_n (j := 1) (lo2 := [vR 283, vI v1, vN]) hA dX10_strip_4 (by decide) rfl rfl ?_
  refine q_aload_n (j := 0) hA rfl dX10_strip_5 ?_
  refine q_iconst hA dX10_strip_6 ?_
  refine q_putI hA f_X10_81 dX10_strip_7 sx_283 (by decide) ?_
  refine q_nmD (fun G eG => ?_)
  replace eG : G = upD D1 283 2 0 := eG
  have b1 := MB.b q1
  refine q_iload_n (j := 1) hA rfl dX10_strip_10 ?_
  refine q_if_ne (tgt := 22) hA (by omega) dX10_strip_11 (by decide) (fun h11 => ?_) (fun h11 => ?_)
  · refine q_iconst hA dX10_strip_22 ?_
    refine q_istore_n (j := 2) (lo2 := [vR 283, vI v1, vI 0]) hA dX10_strip_23 (by decide) rfl rfl ?_
    refine zX10_strip_L24 (D := D) ht htp q1 h11 hA hR 1000 _ _ (by omega) (by rw [eG]; exact cpF.z) (by omega)
  · refine q_bipush hA (by decide) dX10_strip_14 ?_
    refine q_aload_n (j := 0) hA rfl dX10_strip_16 ?_
    refine q_getI (x := G 283 3) hA f_X10_85 dX10_strip_17 sx_283 (by decide) rfl ?_
    refine q_isub hA dX10_strip_20 ?_
    exact hR 21 _ _ _ dX10_strip_21 (by exact strip_f q1 (by omega) eG rfl)
set_option maxHeartbeats 4000000 in
set_option maxRecDepth 100000 in
theorem zX10_bringsNow {g : Gm} {l : Launch} {D : Dat} (ho : mOk D 284) (hg : 0 < D 284 0 ∧ D 284 1 < D 284 0 ∧ D 284 2 < D 284 0) {s : Int} (rs : -2147483648 ≤ s ∧ s ≤ 2147483647) : CrP g l 4 mX10_bringsNow [vR 283, vI s] D (bnM D s) := by
  unfold CrP
  refine Cr.ofI (lo0 := [vR 283, vI s]) (by decide) (Nat.le_of_ble_eq_true rfl) rfl (fun J hA hR => ?_)
  have hn := ho.n
  have hf := ho.f
  have hb := ho.b
  refine q_aload_n (j := 0) hA rfl dX10_bringsNow_0 ?_
  refine q_getR hA f_X10_7 dX10_bringsNow_1 sx_283 (by decide) fx_283_0 ?_
  refine q_bipush hA (by decide) dX10_bringsNow_4 ?_
  refine q_aload_n (j := 0) hA rfl dX10_bringsNow_6 ?_
  refine q_getR hA f_X10_7 dX10_bringsNow_7 sx_283 (by decide) fx_283_0 ?_
  refine q_iconst hA dX10_bringsNow_10 ?_
  refine q_iald (x := D 284 0) hA dX10_bringsNow_11 sx_284 (by omega) (by decide) rfl ?_
  refine q_aload_n (j := 0) hA rfl dX10_bringsNow_12 ?_
  refine q_getR hA f_X10_7 dX10_bringsNow_13 sx_283 (by decide) fx_283_0 ?_
  refine q_iconst hA dX10_bringsNow_16 ?_
  refine q_iald (x := D 284 1) hA dX10_bringsNow_17 sx_284 (by omega) (by decide) rfl ?_
  refine q_aload_n (j := 0) hA rfl dX10_bringsNow_18 ?_
  refine q_getR hA f_X10_7 dX10_bringsNow_19 sx_283 (by decide) fx_283_0 ?_
  refine q_iconst hA dX10_bringsNow_22 ?_
  refine q_iald (x := D 284 2) hA dX10_bringsNow_23 sx_284 (by omega) (by decide) rfl ?_
  refine q_iload_n (j := 1) hA rfl dX10_bringsNow_24 ?_
  refine q_callSP (As := [vR 284, vI 44, vI (D 284 0), vI (D 284 1), vI (D 284 2), vI s]) (st := []) hA l_X10_155 kX10_brought (zX10_brought (c := 284) (w := 52) ⟨sx_284, by omega⟩ (by omega) (by omega) ho.lk (by omega) (by omega) (by omega)) dX10_bringsNow_25 rfl rfl (Nat.le_of_ble_eq_true rfl) (by omega) ?_
  refine q_nmI (fun v25 ev25 => ?_)
  exact hR 28 _ _ _ dX10_bringsNow_28 ⟨(by first | rfl | omega), rfl⟩
set_option maxHeartbeats 4000000 in
set_option maxRecDepth 100000 in
theorem zX10_may {g : Gm} {l : Launch} {D : Dat} (ho : mOk D 284) (hg : 0 < D 284 0 ∧ D 284 1 < D 284 0 ∧ D 284 2 < D 284 0) {m : Int} (hm : 0 ≤ m ∧ m ≤ 2) : CrB g l 5 mX10_may [vR 283, vI m] D (m = 2 ∨ (bnM D m ≠ -4 ∧ ¬ D 284 (20 + bnM D m) ≤ D 284 (28 + bnM D m))) := by
  unfold CrB
  refine Cr.ofZ (lo0 := [vR 283, vI m, vN]) (by decide) (Nat.le_of_ble_eq_true rfl) rfl (fun J hA hR => ?_)
  have hn := ho.n
  have hf := ho.f
  have hb := ho.b
  refine q_iload_n (j := 1) hA rfl dX10_may_0 ?_
  refine q_iconst hA dX10_may_1 ?_
  refine q_icmp_ne (tgt := 7) hA (by omega) (by omega) dX10_may_2 (by decide) (fun h2 => ?_) (fun h2 => ?_)
  · refine q_aload_n (j := 0) hA rfl dX10_may_7 ?_
    refine q_iload_n (j := 1) hA rfl dX10_may_8 ?_
    refine q_callVP (b := 283) (As := [vI m]) (st := []) hA l_X10_162 kX10_bringsNow (zX10_bringsNow (by first | assumption | omega | rfl) (by first | assumption | omega | rfl) (by first | assumption | omega | rfl)) dX10_may_9 rfl rfl sx_283 (by decide) rfl (Nat.le_of_ble_eq_true rfl) (by omega) ?_
    refine q_nmI (fun v9 ev9 => ?_)
    have hin := bnM_in (D := D) (s := m) (by omega)
    rw [← ev9] at hin
    refine q_istore_n (j := 2) (lo2 := [vR 283, vI m, vI v9]) hA dX10_may_12 (by decide) rfl rfl ?_
    refine q_iload_n (j := 2) hA rfl dX10_may_13 ?_
    refine q_bipush hA (by decide) dX10_may_14 ?_
    refine q_icmp_eq (tgt := 31) hA (by omega) (by omega) dX10_may_16 (by decide) (fun h16 => ?_) (fun h16 => ?_)
    · refine q_iconst hA dX10_may_31 ?_
      exact hR 32 _ _ _ dX10_may_32 (Or.inl rfl) ⟨rfl, Or.inr ⟨(by first | exact Or.inl (by omega) | (rw [show bnM D m = v9 from ev9.symm]; omega)), rfl⟩⟩
    · refine q_aload_n (j := 0) hA rfl dX10_may_19 ?_
      refine q_iload_n (j := 2) hA rfl dX10_may_20 ?_
      refine q_callVB (b := 283) (As := [vI v9]) (st := []) hA l_X10_142 kX10_isTorn (zX10_isTorn (by first | assumption | omega | rfl) (by first | assumption | omega | rfl)) dX10_may_21 rfl rfl sx_283 (by decide) rfl (Nat.le_of_ble_eq_true rfl) (by omega) (fun h21 => ?_) (fun h21 => ?_)
      · refine q_if_ne (tgt := 31) hA (by decide) dX10_may_24 (by decide) (fun h24 => ?_) (fun h24 => absurd h24 (by decide))
        refine q_iconst hA dX10_may_31 ?_
        exact hR 32 _ _ _ dX10_may_32 (Or.inl rfl) ⟨rfl, Or.inr ⟨(by first | exact Or.inl (by omega) | (rw [show bnM D m = v9 from ev9.symm]; omega)), rfl⟩⟩
      · refine q_if_ne (tgt := 31) hA (by decide) dX10_may_24 (by decide) (fun h24 => absurd h24 (by decide)) (fun h24 => ?_)
        refine q_iconst hA dX10_may_27 ?_
        refine q_goto (tgt := 32) hA dX10_may_28 (by decide) ?_
        exact hR 32 _ _ _ dX10_may_32 (Or.inr rfl) ⟨rfl, Or.inl ⟨(by first | exact Or.inl (by omega) | (rw [show bnM D m = v9 from ev9.symm]; omega)), rfl⟩⟩
  · refine q_iconst hA dX10_may_5 ?_
    exact hR 6 _ _ _ dX10_may_6 (Or.inr rfl) ⟨rfl, Or.inl ⟨(by first | exact Or.inl (by omega) | (rw [show bnM D m = v9 from ev9.symm]; omega)), rfl⟩⟩
set_option maxHeartbeats 4000000 in
set_option maxRecDepth 100000 in
theorem zX10_brings {g : Gm} {l : Launch} {D : Dat} (ho : mOk D 284) (hg : 0 < D 284 0 → D 284 1 < D 284 0 ∧ D 284 2 < D 284 0) {s : Int} (rs : -2147483648 ≤ s ∧ s ≤ 2147483647) : CrP g l 5 mX10_brings [vR 283, vI s] D (if 0 ≤ s ∧ s ≤ 1 then (if 0 < D 284 0 then bnM D s else -2) else -1) := by
  unfold CrP
  refine Cr.ofI (lo0 := [vR 283, vI s]) (by decide) (Nat.le_of_ble_eq_true rfl) rfl (fun J hA hR => ?_)
  have hn := ho.n
  have hf := ho.f
  have hb := ho.b
  refine q_iload_n (j := 1) hA rfl dX10_brings_0 ?_
  refine q_i2l hA (by omega) dX10_brings_1 ?_
  refine q_lconst hA dX10_brings_2 ?_
  show J _ _ (vL 0 :: _) _
  refine q_lconst hA dX10_brings_3 ?_
  show J _ _ (vL 1 :: _) _
  refine q_callSB (As := [vL s, vL 0, vL 1]) (st := []) hA l_X10_77 kX10_in (zX10_in (by first | assumption | omega | rfl) (by first | assumption | omega | rfl) (by first | assumption | omega | rfl)) dX10_brings_4 rfl rfl (Nat.le_of_ble_eq_true rfl) (by omega) (fun h4 => ?_) (fun h4 => ?_)
  · refine q_if_ne (tgt := 12) hA (by decide) dX10_brings_7 (by decide) (fun h7 => ?_) (fun h7 => absurd h7 (by decide))
    refine q_aload_n (j := 0) hA rfl dX10_brings_12 ?_
    refine q_callVB (b := 283) (As := []) (st := []) hA l_X10_159 kX10_isThere (zX10_isThere (by first | assumption | omega | rfl)) dX10_brings_13 rfl rfl sx_283 (by decide) rfl (Nat.le_of_ble_eq_true rfl) (by omega) (fun h13 => ?_) (fun h13 => ?_)
    · refine q_if_eq (tgt := 27) hA (by decide) dX10_brings_16 (by decide) (fun h16 => absurd h16 (by decide)) (fun h16 => ?_)
      refine q_aload_n (j := 0) hA rfl dX10_brings_19 ?_
      refine q_iload_n (j := 1) hA rfl dX10_brings_20 ?_
      refine q_callVP (b := 283) (As := [vI s]) (st := []) hA l_X10_162 kX10_bringsNow (zX10_bringsNow ho (by omega) (by omega)) dX10_brings_21 rfl rfl sx_283 (by decide) rfl (Nat.le_of_ble_eq_true rfl) (by omega) ?_
      refine q_nmI (fun v21 ev21 => ?_)
      refine q_goto (tgt := 29) hA dX10_brings_24 (by decide) ?_
      exact hR 29 _ _ _ dX10_brings_29 ⟨(by first | (rw [if_pos (by omega), if_pos (by omega)]; exact ev21) | (rw [if_pos (by omega), if_neg (by omega)]; done)), rfl⟩
    · refine q_if_eq (tgt := 27) hA (by decide) dX10_brings_16 (by decide) (fun h16 => ?_) (fun h16 => absurd h16 (by decide))
      refine q_bipush hA (by decide) dX10_brings_27 ?_
      exact hR 29 _ _ _ dX10_brings_29 ⟨(by first | (rw [if_pos (by omega), if_pos (by omega)]; exact ev21) | (rw [if_pos (by omega), if_neg (by omega)]; done)), rfl⟩
  · refine q_if_ne (tgt := 12) hA (by decide) dX10_brings_7 (by decide) (fun h7 => absurd h7 (by decide)) (fun h7 => ?_)
    refine q_iconst hA dX10_brings_10 ?_
    exact hR 11 _ _ _ dX10_brings_11 ⟨(by rw [if_neg (by omega)]), rfl⟩
set_option maxHeartbeats 4000000 in
set_option maxRecDepth 100000 in
theorem zX10_moves_t {g : Gm} {l : Launch} {D : Dat} (ho : mOk D 284) (hg : 0 < D 284 0 ∧ D 284 1 < D 284 0 ∧ D 284 2 < D 284 0) {m : Int} (hm2 : m = 2) : CrI g l 5 mX10_moves [vR 283, vI m] D (fun v D1 => movQ D D1 v m) := by
  refine Cr.ofI (lo0 := [vR 283, vI m, vN, vN]) (by decide) (Nat.le_of_ble_eq_true rfl) rfl (fun J hA hR => ?_)
  have hn := ho.n
  have hf := ho.f
  have hb := ho.b
  refine q_aload_n (j := 0) hA rfl dX10_moves_0 ?_
  refine q_getR hA f_X10_7 dX10_moves_1 sx_283 (by decide) fx_283_0 ?_
  refine q_iconst hA dX10_moves_4 ?_
  refine q_iald (x := D 284 1) hA dX10_moves_5 sx_284 (by omega) (by decide) rfl ?_
  refine q_istore_n (j := 2) (lo2 := [vR 283, vI m, vI (D 284 1), vN]) hA dX10_moves_6 (by decide) rfl rfl ?_
  refine q_iload_n (j := 1) hA rfl dX10_moves_7 ?_
  refine q_iconst hA dX10_moves_8 ?_
  refine q_icmp_ne (tgt := 21) hA (by omega) (by omega) dX10_moves_9 (by decide) (fun h9 => absurd h9 (by omega)) (fun h9 => ?_)
  refine q_aload_n (j := 0) hA rfl dX10_moves_12 ?_
  refine q_getR hA f_X10_7 dX10_moves_13 sx_283 (by decide) fx_283_0 ?_
  refine q_iconst hA dX10_moves_16 ?_
  refine q_iald (x := D 284 2) hA dX10_moves_17 sx_284 (by omega) (by decide) rfl ?_
  refine q_goto (tgt := 26) hA dX10_moves_18 (by decide) ?_
  refine q_istore_n (j := 3) (lo2 := [vR 283, vI m, vI (D 284 1), vI (D 284 2)]) hA dX10_moves_26 (by decide) rfl rfl ?_
  refine q_aload_n (j := 0) hA rfl dX10_moves_27 ?_
  refine q_getR hA f_X10_7 dX10_moves_28 sx_283 (by decide) fx_283_0 ?_
  refine q_iconst hA dX10_moves_31 ?_
  refine q_dup2IR hA dX10_moves_32 ?_
  refine q_iald (x := D 284 3) hA dX10_moves_33 sx_284 (by omega) (by decide) rfl ?_
  refine q_iload_n (j := 1) hA rfl dX10_moves_34 ?_
  refine q_iconst hA dX10_moves_35 ?_
  refine q_icmp_ne (tgt := 43) hA (by omega) (by omega) dX10_moves_36 (by decide) (fun h36 => absurd h36 (by omega)) (fun h36 => ?_)
  refine q_iconst hA dX10_moves_39 ?_
  refine q_goto (tgt := 48) hA dX10_moves_40 (by decide) ?_
  refine q_iadd hA dX10_moves_48 ?_
  refine q_iast hA dX10_moves_49 sx_284 (by omega) (by decide) ?_
  refine q_aload_n (j := 0) hA rfl dX10_moves_50 ?_
  refine q_getR hA f_X10_7 dX10_moves_51 sx_283 (by decide) fx_283_0 ?_
  refine q_iconst hA dX10_moves_54 ?_
  refine q_iload_n (j := 3) hA rfl dX10_moves_55 ?_
  refine q_iast hA dX10_moves_56 sx_284 (by omega) (by decide) ?_
  refine q_aload_n (j := 0) hA rfl dX10_moves_57 ?_
  refine q_getR hA f_X10_7 dX10_moves_58 sx_283 (by decide) fx_283_0 ?_
  refine q_iconst hA dX10_moves_61 ?_
  refine q_iload_n (j := 2) hA rfl dX10_moves_62 ?_
  refine q_iast hA dX10_moves_63 sx_284 (by omega) (by decide) ?_
  refine q_iload_n (j := 1) hA rfl dX10_moves_64 ?_
  refine q_iconst hA dX10_moves_65 ?_
  refine q_icmp_ne (tgt := 72) hA (by omega) (by omega) dX10_moves_66 (by decide) (fun h66 => absurd h66 (by omega)) (fun h66 => ?_)
  refine q_bipush hA (by decide) dX10_moves_69 ?_
  exact hR 71 _ _ _ dX10_moves_71 (by exact mov_t hm2 rfl)
set_option maxHeartbeats 4000000 in
set_option maxRecDepth 100000 in
theorem zX10_moves_f {g : Gm} {l : Launch} {D : Dat} (ho : mOk D 284) (hg : 0 < D 284 0 ∧ D 284 1 < D 284 0 ∧ D 284 2 < D 284 0) {m : Int} (hm2 : 0 ≤ m ∧ m < 2) (hy : bnM D m ≠ -4) : CrI g l 5 mX10_moves [vR 283, vI m] D (fun v D1 => movQ D D1 v m) := by
  refine Cr.ofI (lo0 := [vR 283, vI m, vN, vN]) (by decide) (Nat.le_of_ble_eq_true rfl) rfl (fun J hA hR => ?_)
  have hn := ho.n
  have hf := ho.f
  have hb := ho.b
  refine q_aload_n (j := 0) hA rfl dX10_moves_0 ?_
  refine q_getR hA f_X10_7 dX10_moves_1 sx_283 (by decide) fx_283_0 ?_
  refine q_iconst hA dX10_moves_4 ?_
  refine q_iald (x := D 284 1) hA dX10_moves_5 sx_284 (by omega) (by decide) rfl ?_
  refine q_istore_n (j := 2) (lo2 := [vR 283, vI m, vI (D 284 1), vN]) hA dX10_moves_6 (by decide) rfl rfl ?_
  refine q_iload_n (j := 1) hA rfl dX10_moves_7 ?_
  refine q_iconst hA dX10_moves_8 ?_
  refine q_icmp_ne (tgt := 21) hA (by omega) (by omega) dX10_moves_9 (by decide) (fun h9 => ?_) (fun h9 => absurd h9 (by omega))
  refine q_aload_n (j := 0) hA rfl dX10_moves_21 ?_
  refine q_iload_n (j := 1) hA rfl dX10_moves_22 ?_
  refine q_callVP (b := 283) (As := [vI m]) (st := []) hA l_X10_162 kX10_bringsNow (zX10_bringsNow (by first | assumption | omega | rfl) (by first | assumption | omega | rfl) (by first | assumption | omega | rfl)) dX10_moves_23 rfl rfl sx_283 (by decide) rfl (Nat.le_of_ble_eq_true rfl) (by omega) ?_
  refine q_nmI (fun v23 ev23 => ?_)
  have hin := bnM_in (D := D) (s := m) (by omega)
  rw [← ev23] at hin hy
  have hat := ho.at (p := v23) (by omega)
  refine q_istore_n (j := 3) (lo2 := [vR 283, vI m, vI (D 284 1), vI v23]) hA dX10_moves_26 (by decide) rfl rfl ?_
  refine q_aload_n (j := 0) hA rfl dX10_moves_27 ?_
  refine q_getR hA f_X10_7 dX10_moves_28 sx_283 (by decide) fx_283_0 ?_
  refine q_iconst hA dX10_moves_31 ?_
  refine q_dup2IR hA dX10_moves_32 ?_
  refine q_iald (x := D 284 3) hA dX10_moves_33 sx_284 (by omega) (by decide) rfl ?_
  refine q_iload_n (j := 1) hA rfl dX10_moves_34 ?_
  refine q_iconst hA dX10_moves_35 ?_
  refine q_icmp_ne (tgt := 43) hA (by omega) (by omega) dX10_moves_36 (by decide) (fun h36 => ?_) (fun h36 => absurd h36 (by omega))
  refine q_aload_n (j := 0) hA rfl dX10_moves_43 ?_
  refine q_iload_n (j := 3) hA rfl dX10_moves_44 ?_
  refine q_callVP (b := 283) (As := [vI v23]) (st := [vI (D 284 3), vI 3, vR 284]) hA l_X10_139 kX10_effortNow (zX10_effortNow (by first | assumption | omega | rfl) (by first | assumption | omega | rfl)) dX10_moves_45 rfl rfl sx_283 (by decide) rfl (Nat.le_of_ble_eq_true rfl) (by omega) ?_
  refine q_nmI (fun v45 ev45 => ?_)
  refine q_iadd hA dX10_moves_48 ?_
  refine q_iast hA dX10_moves_49 sx_284 (by omega) (by decide) ?_
  refine q_aload_n (j := 0) hA rfl dX10_moves_50 ?_
  refine q_getR hA f_X10_7 dX10_moves_51 sx_283 (by decide) fx_283_0 ?_
  refine q_iconst hA dX10_moves_54 ?_
  refine q_iload_n (j := 3) hA rfl dX10_moves_55 ?_
  refine q_iast hA dX10_moves_56 sx_284 (by omega) (by decide) ?_
  refine q_aload_n (j := 0) hA rfl dX10_moves_57 ?_
  refine q_getR hA f_X10_7 dX10_moves_58 sx_283 (by decide) fx_283_0 ?_
  refine q_iconst hA dX10_moves_61 ?_
  refine q_iload_n (j := 2) hA rfl dX10_moves_62 ?_
  refine q_iast hA dX10_moves_63 sx_284 (by omega) (by decide) ?_
  refine q_iload_n (j := 1) hA rfl dX10_moves_64 ?_
  refine q_iconst hA dX10_moves_65 ?_
  refine q_icmp_ne (tgt := 72) hA (by omega) (by omega) dX10_moves_66 (by decide) (fun h66 => ?_) (fun h66 => absurd h66 (by omega))
  refine q_aload_n (j := 0) hA rfl dX10_moves_72 ?_
  refine q_getR hA f_X10_7 dX10_moves_73 sx_283 (by decide) fx_283_0 ?_
  refine q_bipush hA (by decide) dX10_moves_76 ?_
  refine q_iload_n (j := 3) hA rfl dX10_moves_78 ?_
  refine q_iadd hA dX10_moves_79 ?_
  refine q_dup2IR hA dX10_moves_80 ?_
  refine q_iald (x := D 284 (28 + v23)) hA dX10_moves_81 sx_284 (by omega) (by decide) ((upD_n (Or.inr (by omega))).trans ((upD_n (Or.inr (by omega))).trans (upD_n (Or.inr (by omega))))) ?_
  refine q_aload_n (j := 0) hA rfl dX10_moves_82 ?_
  refine q_getR hA f_X10_7 dX10_moves_83 sx_283 (by decide) fx_283_0 ?_
  refine q_iconst hA dX10_moves_86 ?_
  refine q_iload_n (j := 3) hA rfl dX10_moves_87 ?_
  refine q_iadd hA dX10_moves_88 ?_
  refine q_iald (x := D 284 (4 + v23)) hA dX10_moves_89 sx_284 (by omega) (by decide) ((upD_n (Or.inr (by omega))).trans ((upD_n (Or.inr (by omega))).trans (upD_n (Or.inr (by omega))))) ?_
  refine q_callSP (As := [vI (D 284 (4 + v23))]) (st := [vI (D 284 (28 + v23)), vI (28 + v23), vR 284]) hA l_X10_165 kX10_wears (zX10_wears (by first | assumption | omega | rfl)) dX10_moves_90 rfl rfl (Nat.le_of_ble_eq_true rfl) (by omega) ?_
  refine q_nmI (fun v90 ev90 => ?_)
  refine q_iadd hA dX10_moves_93 ?_
  refine q_iast hA dX10_moves_94 sx_284 (by omega) (by decide) ?_
  refine q_aload_n (j := 0) hA rfl dX10_moves_95 ?_
  refine q_getR hA f_X10_7 dX10_moves_96 sx_283 (by decide) fx_283_0 ?_
  refine q_bipush hA (by decide) dX10_moves_99 ?_
  refine q_iload_n (j := 3) hA rfl dX10_moves_101 ?_
  refine q_iadd hA dX10_moves_102 ?_
  refine q_dup2IR hA dX10_moves_103 ?_
  refine q_iald (x := D 284 (36 + v23)) hA dX10_moves_104 sx_284 (by omega) (by decide) ((upD_n (Or.inr (by omega))).trans ((upD_n (Or.inr (by omega))).trans ((upD_n (Or.inr (by omega))).trans (upD_n (Or.inr (by omega)))))) ?_
  refine q_aload_n (j := 0) hA rfl dX10_moves_105 ?_
  refine q_getR hA f_X10_7 dX10_moves_106 sx_283 (by decide) fx_283_0 ?_
  refine q_bipush hA (by decide) dX10_moves_109 ?_
  refine q_iload_n (j := 3) hA rfl dX10_moves_111 ?_
  refine q_iadd hA dX10_moves_112 ?_
  refine q_iald (x := D 284 (36 + v23)) hA dX10_moves_113 sx_284 (by omega) (by decide) ((upD_n (Or.inr (by omega))).trans ((upD_n (Or.inr (by omega))).trans ((upD_n (Or.inr (by omega))).trans (upD_n (Or.inr (by omega)))))) ?_
  refine q_bipush hA (by decide) dX10_moves_114 ?_
  refine q_icmp_ge (tgt := 123) hA (by omega) (by omega) dX10_moves_116 (by decide) (fun h116 => ?_) (fun h116 => ?_)
  · refine q_iconst hA dX10_moves_123 ?_
    refine q_iadd hA dX10_moves_124 ?_
    refine q_iast hA dX10_moves_125 sx_284 (by omega) (by decide) ?_
    refine q_iload_n (j := 3) hA rfl dX10_moves_126 ?_
    exact hR 127 _ _ _ dX10_moves_127 (by exact mov_f (by omega) ev23 (by omega) ev45 ev90 (by first | rw [if_pos (by omega)] | rw [if_neg (by omega)]) rfl)
  · refine q_iconst hA dX10_moves_119 ?_
    refine q_goto (tgt := 124) hA dX10_moves_120 (by decide) ?_
    refine q_iadd hA dX10_moves_124 ?_
    refine q_iast hA dX10_moves_125 sx_284 (by omega) (by decide) ?_
    refine q_iload_n (j := 3) hA rfl dX10_moves_126 ?_
    exact hR 127 _ _ _ dX10_moves_127 (by exact mov_f (by omega) ev23 (by omega) ev45 ev90 (by first | rw [if_pos (by omega)] | rw [if_neg (by omega)]) rfl)
