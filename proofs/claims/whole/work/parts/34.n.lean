set_option maxHeartbeats 4000000 in
set_option maxRecDepth 100000 in
theorem zX10_asides_L2 {g : Gm} {l : Launch} {D : Dat}   {J : JT} (hA : AX g l RX10 cX10_asides 2 1 J) (hR : ReV cX10_asides (fun D1 => cpF D D1 289 0 284 0 52) J) : ∀ (fuel : Nat) (k : Int) (E : Dat), (0 ≤ k ∧ k ≤ 52) → (cpF D E 289 0 284 0 k) → 52 - k < (fuel : Int) → J 2 [vR 283, vI k] [] E := by
  intro fuel
  induction fuel with
  | zero => intro k E hk hc hMs; exact absurd hMs (by omega)
  | succ fuel ih =>
    intro k E hk hc hMs
    refine q_iload_n (j := 1) hA rfl dX10_asides_2 ?_
    refine q_bipush hA (by decide) dX10_asides_3 ?_
    refine q_icmp_ge (tgt := 26) hA (by omega) (by omega) dX10_asides_5 (by decide) (fun h5 => ?_) (fun h5 => ?_)
    · exact hR 26 _ _ dX10_asides_26 (by rw [show k = 52 by omega] at hc; exact hc)
    · refine q_aload_n (j := 0) hA rfl dX10_asides_8 ?_
      refine q_getR hA f_X10_25 dX10_asides_9 sx_283 (by decide) fx_283_8 ?_
      refine q_iload_n (j := 1) hA rfl dX10_asides_12 ?_
      refine q_aload_n (j := 0) hA rfl dX10_asides_13 ?_
      refine q_getR hA f_X10_7 dX10_asides_14 sx_283 (by decide) fx_283_0 ?_
      refine q_iload_n (j := 1) hA rfl dX10_asides_17 ?_
      refine q_iald (x := E 284 k) hA dX10_asides_18 sx_284 (by omega) (by decide) rfl ?_
      refine q_iast hA dX10_asides_19 sx_289 (by omega) (by decide) ?_
      refine q_iinc (j := 1) (lo2 := [vR 283, vI (k + 1)]) hA dX10_asides_20 rfl (by decide) rfl rfl ?_
      refine q_goto (tgt := 2) hA dX10_asides_23 (by decide) ?_
      exact ih _ _ (by omega) (by exact hc.s (by omega) (by omega) (by rw [hc.2.2 284 (by omega)]; congr 1; omega)) (by omega)
set_option maxHeartbeats 4000000 in
set_option maxRecDepth 100000 in
theorem zX10_asides {g : Gm} {l : Launch} {D : Dat} : CrV g l 1 mX10_asides [vR 283] D (fun D1 => cpF D D1 289 0 284 0 52) := by
  refine Cr.ofV (lo0 := [vR 283, vN]) (by decide) (Nat.le_of_ble_eq_true rfl) rfl (fun J hA hR => ?_)
  refine q_iconst hA dX10_asides_0 ?_
  refine q_istore_n (j := 1) (lo2 := [vR 283, vI 0]) hA dX10_asides_1 (by decide) rfl rfl ?_
  refine zX10_asides_L2 (D := D)   hA hR 1000 _ _ (by omega) (by exact cpF.z) (by omega)
set_option maxHeartbeats 4000000 in
set_option maxRecDepth 100000 in
theorem zX10_backs_L2 {g : Gm} {l : Launch} {D : Dat}   {J : JT} (hA : AX g l RX10 cX10_backs 2 1 J) (hR : ReV cX10_backs (fun D1 => cpF D D1 284 0 289 0 52) J) : ∀ (fuel : Nat) (k : Int) (E : Dat), (0 ≤ k ∧ k ≤ 52) → (cpF D E 284 0 289 0 k) → 52 - k < (fuel : Int) → J 2 [vR 283, vI k] [] E := by
  intro fuel
  induction fuel with
  | zero => intro k E hk hc hMs; exact absurd hMs (by omega)
  | succ fuel ih =>
    intro k E hk hc hMs
    refine q_iload_n (j := 1) hA rfl dX10_backs_2 ?_
    refine q_bipush hA (by decide) dX10_backs_3 ?_
    refine q_icmp_ge (tgt := 26) hA (by omega) (by omega) dX10_backs_5 (by decide) (fun h5 => ?_) (fun h5 => ?_)
    · exact hR 26 _ _ dX10_backs_26 (by rw [show k = 52 by omega] at hc; exact hc)
    · refine q_aload_n (j := 0) hA rfl dX10_backs_8 ?_
      refine q_getR hA f_X10_7 dX10_backs_9 sx_283 (by decide) fx_283_0 ?_
      refine q_iload_n (j := 1) hA rfl dX10_backs_12 ?_
      refine q_aload_n (j := 0) hA rfl dX10_backs_13 ?_
      refine q_getR hA f_X10_25 dX10_backs_14 sx_283 (by decide) fx_283_8 ?_
      refine q_iload_n (j := 1) hA rfl dX10_backs_17 ?_
      refine q_iald (x := E 289 k) hA dX10_backs_18 sx_289 (by omega) (by decide) rfl ?_
      refine q_iast hA dX10_backs_19 sx_284 (by omega) (by decide) ?_
      refine q_iinc (j := 1) (lo2 := [vR 283, vI (k + 1)]) hA dX10_backs_20 rfl (by decide) rfl rfl ?_
      refine q_goto (tgt := 2) hA dX10_backs_23 (by decide) ?_
      exact ih _ _ (by omega) (by exact hc.s (by omega) (by omega) (by rw [hc.2.2 289 (by omega)]; congr 1; omega)) (by omega)
set_option maxHeartbeats 4000000 in
set_option maxRecDepth 100000 in
theorem zX10_backs {g : Gm} {l : Launch} {D : Dat} : CrV g l 1 mX10_backs [vR 283] D (fun D1 => cpF D D1 284 0 289 0 52) := by
  refine Cr.ofV (lo0 := [vR 283, vN]) (by decide) (Nat.le_of_ble_eq_true rfl) rfl (fun J hA hR => ?_)
  refine q_iconst hA dX10_backs_0 ?_
  refine q_istore_n (j := 1) (lo2 := [vR 283, vI 0]) hA dX10_backs_1 (by decide) rfl rfl ?_
  refine zX10_backs_L2 (D := D)   hA hR 1000 _ _ (by omega) (by exact cpF.z) (by omega)
