set_option maxHeartbeats 4000000 in
set_option maxRecDepth 100000 in
theorem zX10_strip_L24 {g : Gm} {l : Launch} {D : Dat} (ht : 0 ≤ D 283 2 ∧ D 283 2 ≤ 80) (htp : ∀ i : Int, 0 ≤ i → i < 80 → 0 ≤ D 285 i ∧ D 285 i ≤ 255) {F : Dat} {w : Int} (m1 : MB D F w (pWhole (mAt D) (D 283 2) zR)) (hw1 : w ≠ 0) {J : JT} (hA : AX g l RX10 cX10_strip 3 5 J) (hR : ReI cX10_strip (fun v D1 => stripQ D D1 v (pWhole (mAt D) (D 283 2) zR)) J) : ∀ (fuel : Nat) (k : Int) (E : Dat), (0 ≤ k ∧ k ≤ 52) → (cpF (upD F 283 2 0) E 284 0 286 0 k) → 52 - k < (fuel : Int) → J 24 [vR 283, vI w, vI k] [] E := by
  intro fuel
  induction fuel with
  | zero => intro k E hk hc hMs; exact absurd hMs (by omega)
  | succ fuel ih =>
    intro k E hk hc hMs
    refine q_iload_n (j := 2) hA rfl dX10_strip_24 ?_
    refine q_bipush hA (by decide) dX10_strip_25 ?_
    refine q_icmp_ge (tgt := 48) hA (by omega) (by omega) dX10_strip_27 (by decide) (fun h27 => ?_) (fun h27 => ?_)
    · refine q_aload_n (j := 0) hA rfl dX10_strip_48 ?_
      refine q_iconst hA dX10_strip_49 ?_
      refine q_putI hA f_X10_130 dX10_strip_50 sx_283 (by decide) ?_
      refine q_nmD (fun H eH => ?_)
      refine q_aload_n (j := 0) hA rfl dX10_strip_53 ?_
      refine q_getR hA f_X10_7 dX10_strip_54 sx_283 (by decide) fx_283_0 ?_
      refine q_iconst hA dX10_strip_57 ?_
      refine q_iald (x := H 284 0) hA dX10_strip_58 sx_284 (by omega) (by decide) rfl ?_
      exact hR 59 _ _ _ dX10_strip_59 (by exact strip_t m1 hw1 hc (by omega) eH rfl)
    · refine q_aload_n (j := 0) hA rfl dX10_strip_30 ?_
      refine q_getR hA f_X10_7 dX10_strip_31 sx_283 (by decide) fx_283_0 ?_
      refine q_iload_n (j := 2) hA rfl dX10_strip_34 ?_
      refine q_aload_n (j := 0) hA rfl dX10_strip_35 ?_
      refine q_getR hA f_X10_16 dX10_strip_36 sx_283 (by decide) fx_283_4 ?_
      refine q_iload_n (j := 2) hA rfl dX10_strip_39 ?_
      refine q_iald (x := E 286 k) hA dX10_strip_40 sx_286 (by omega) (by decide) rfl ?_
      refine q_iast hA dX10_strip_41 sx_284 (by omega) (by decide) ?_
      refine q_iinc (j := 2) (lo2 := [vR 283, vI w, vI (k + 1)]) hA dX10_strip_42 rfl (by decide) rfl rfl ?_
      refine q_goto (tgt := 24) hA dX10_strip_45 (by decide) ?_
      exact ih _ _ (by omega) (by exact hc.s (by omega) (by omega) (by rw [hc.2.2 286 (by omega)]; congr 1; omega)) (by omega)
set_option maxHeartbeats 4000000 in
set_option maxRecDepth 100000 in
theorem zX10_strip {g : Gm} {l : Launch} {D : Dat} (ht : 0 ≤ D 283 2 ∧ D 283 2 ≤ 80) (htp : ∀ i : Int, 0 ≤ i → i < 80 → 0 ≤ D 285 i ∧ D 285 i ≤ 255) : CrI g l 5 mX10_strip [vR 283] D (fun v D1 => stripQ D D1 v (pWhole (mAt D) (D 283 2) zR)) := by
  refine Cr.ofI (lo0 := [vR 283, vN, vN]) (by decide) (Nat.le_of_ble_eq_true rfl) rfl (fun J hA hR => ?_)
  refine q_aload_n (j := 0) hA rfl dX10_strip_0 ?_
  refine q_callVI (b := 283) (As := []) (st := []) hA l_X10_127 kX10_reads (zX10_reads (by first | assumption | omega | rfl) (by first | assumption | omega | rfl)) dX10_strip_1 rfl rfl sx_283 (by decide) rfl (Nat.le_of_ble_eq_true rfl) (by omega) (fun v1 D1 q1 => ?_)
  refine q_istore_n (j := 1) (lo2 := [vR 283, vI v1, vN]) hA dX10_strip_4 (by decide) rfl rfl ?_
  refine q_aload_n (j := 0) hA rfl dX10_strip_5 ?_
  refine q_iconst hA dX10_strip_6 ?_
  refine q_putI hA f_X10_81 dX10_strip_7 sx_283 (by decide) ?_
  refine q_nmD (fun G eG => ?_)
  replace eG : G = upD D1 283 2 0 := eG
  have b1 := MB.b q1
  refine q_iload_n (j := 1) hA rfl dX10_strip_10 ?_
  refine q_if_ne (tgt := 22) hA (by omega) dX10_strip_11 (by decide) (fun h11 => ?_) (fun h11 => ?_)
  · refine q_iconst hA dX10_strip_22 ?_
    refine q_istore_n (j := 2) (lo2 := [vR 283, vI v1, vI 0]) hA dX10_strip_23 (by decide) rfl rfl ?_
    refine zX10_strip_L24 (D := D) ht htp q1 h11 hA hR 1000 _ _ (by omega) (by rw [eG]; exact cpF.z) (by omega)
  · refine q_bipush hA (by decide) dX10_strip_14 ?_
    refine q_aload_n (j := 0) hA rfl dX10_strip_16 ?_
    refine q_getI (x := G 283 3) hA f_X10_85 dX10_strip_17 sx_283 (by decide) rfl ?_
    refine q_isub hA dX10_strip_20 ?_
    exact hR 21 _ _ _ dX10_strip_21 (by exact strip_f q1 (by omega) eG rfl)
