set_option maxHeartbeats 4000000 in
set_option maxRecDepth 100000 in
theorem zX10_notes_L48 {g : Gm} {l : Launch} {D : Dat} (ha : 0 ≤ D 283 6 ∧ D 283 6 ≤ 24) {W : Dat} (hW : notW D W) (hw6 : 0 ≤ W 283 6 ∧ W 283 6 ≤ 23) {J : JT} (hA : AX g l RX10 cX10_notes 2 1 J) (hR : ReV cX10_notes (fun D1 => notQ D D1) J) : ∀ (fuel : Nat) (k : Int) (E : Dat), (0 ≤ k ∧ k ≤ 52) → (cpF W E 287 (52 * W 283 6) 284 0 k) → 52 - k < (fuel : Int) → J 48 [vR 283, vI k] [] E := by
  intro fuel
  induction fuel with
  | zero => intro k E hk hc hMs; exact absurd hMs (by omega)
  | succ fuel ih =>
    intro k E hk hc hMs
    have e6 : E 283 6 = W 283 6 := by rw [hc.2.2 283 (by omega)]
    refine q_iload_n (j := 1) hA rfl dX10_notes_48 ?_
    refine q_bipush hA (by decide) dX10_notes_49 ?_
    refine q_icmp_ge (tgt := 80) hA (by omega) (by omega) dX10_notes_51 (by decide) (fun h51 => ?_) (fun h51 => ?_)
    · refine q_aload_n (j := 0) hA rfl dX10_notes_80 ?_
      refine q_dupR hA dX10_notes_81 ?_
      refine q_getI (x := W 283 6) hA f_X10_130 dX10_notes_82 sx_283 (by decide) e6 ?_
      refine q_iconst hA dX10_notes_85 ?_
      refine q_iadd hA dX10_notes_86 ?_
      refine q_putI hA f_X10_130 dX10_notes_87 sx_283 (by decide) ?_
      show J _ _ _ (upD E 283 6 ((W 283 6) + 1))
      exact hR 90 _ _ dX10_notes_90 (by rw [show k = 52 by omega] at hc; exact not_e ha hW hc rfl)
    · refine q_aload_n (j := 0) hA rfl dX10_notes_54 ?_
      refine q_getR hA f_X10_19 dX10_notes_55 sx_283 (by decide) fx_283_5 ?_
      refine q_bipush hA (by decide) dX10_notes_58 ?_
      refine q_aload_n (j := 0) hA rfl dX10_notes_60 ?_
      refine q_getI (x := W 283 6) hA f_X10_130 dX10_notes_61 sx_283 (by decide) e6 ?_
      refine q_imul hA dX10_notes_64 ?_
      refine q_iload_n (j := 1) hA rfl dX10_notes_65 ?_
      refine q_iadd hA dX10_notes_66 ?_
      refine q_aload_n (j := 0) hA rfl dX10_notes_67 ?_
      refine q_getR hA f_X10_7 dX10_notes_68 sx_283 (by decide) fx_283_0 ?_
      refine q_iload_n (j := 1) hA rfl dX10_notes_71 ?_
      refine q_iald (x := E 284 k) hA dX10_notes_72 sx_284 (by omega) (by decide) rfl ?_
      refine q_iast hA dX10_notes_73 sx_287 (by omega) (by decide) ?_
      refine q_iinc (j := 1) (lo2 := [vR 283, vI (k + 1)]) hA dX10_notes_74 rfl (by decide) rfl rfl ?_
      refine q_goto (tgt := 48) hA dX10_notes_77 (by decide) ?_
      exact ih _ _ (by omega) (by exact hc.s (by omega) (by omega) (by first | (rw [hc.2.2 284 (by omega)]; done) | (rw [hc.2.2 284 (by omega)]; congr 1; omega))) (by omega)
set_option maxHeartbeats 4000000 in
set_option maxRecDepth 100000 in
theorem zX10_notes_L12 {g : Gm} {l : Launch} {D : Dat} (ha : 0 ≤ D 283 6 ∧ D 283 6 ≤ 24)   {J : JT} (hA : AX g l RX10 cX10_notes 2 1 J) (hR : ReV cX10_notes (fun D1 => notQ D D1) J) (hx : ∀ (k : Int) (S : Dat), (52 ≤ k ∧ k ≤ 1248) → (shiF D S k) → (1248 ≤ k) → J 40 [vR 283, vI k] [] S) : ∀ (fuel : Nat) (k : Int) (S : Dat), (52 ≤ k ∧ k ≤ 1248) → (shiF D S k) → 1248 - k < (fuel : Int) → J 12 [vR 283, vI k] [] S := by
  intro fuel
  induction fuel with
  | zero => intro k S hk hs hMs; exact absurd hMs (by omega)
  | succ fuel ih =>
    intro k S hk hs hMs
    refine q_iload_n (j := 1) hA rfl dX10_notes_12 ?_
    refine q_sipush hA (by decide) dX10_notes_13 ?_
    refine q_icmp_ge (tgt := 40) hA (by omega) (by omega) dX10_notes_16 (by decide) (fun h16 => ?_) (fun h16 => ?_)
    · exact hx _ _ hk hs h16
    · refine q_aload_n (j := 0) hA rfl dX10_notes_19 ?_
      refine q_getR hA f_X10_19 dX10_notes_20 sx_283 (by decide) fx_283_5 ?_
      refine q_iload_n (j := 1) hA rfl dX10_notes_23 ?_
      refine q_bipush hA (by decide) dX10_notes_24 ?_
      refine q_isub hA dX10_notes_26 ?_
      refine q_aload_n (j := 0) hA rfl dX10_notes_27 ?_
      refine q_getR hA f_X10_19 dX10_notes_28 sx_283 (by decide) fx_283_5 ?_
      refine q_iload_n (j := 1) hA rfl dX10_notes_31 ?_
      refine q_iald (x := S 287 k) hA dX10_notes_32 sx_287 (by omega) (by decide) rfl ?_
      refine q_iast hA dX10_notes_33 sx_287 (by omega) (by decide) ?_
      refine q_iinc (j := 1) (lo2 := [vR 283, vI (k + 1)]) hA dX10_notes_34 rfl (by decide) rfl rfl ?_
      refine q_goto (tgt := 12) hA dX10_notes_37 (by decide) ?_
      exact ih _ _ (by omega) (by exact hs.s (by omega) rfl) (by omega)
set_option maxHeartbeats 4000000 in
set_option maxRecDepth 100000 in
theorem zX10_notes {g : Gm} {l : Launch} {D : Dat} (ha : 0 ≤ D 283 6 ∧ D 283 6 ≤ 24) : CrV g l 1 mX10_notes [vR 283] D (fun D1 => notQ D D1) := by
  refine Cr.ofV (lo0 := [vR 283, vN]) (by decide) (Nat.le_of_ble_eq_true rfl) rfl (fun J hA hR => ?_)
  refine q_aload_n (j := 0) hA rfl dX10_notes_0 ?_
  refine q_getI (x := D 283 6) hA f_X10_130 dX10_notes_1 sx_283 (by decide) rfl ?_
  refine q_bipush hA (by decide) dX10_notes_4 ?_
  refine q_icmp_ne (tgt := 46) hA (by omega) (by omega) dX10_notes_6 (by decide) (fun h6 => ?_) (fun h6 => ?_)
  · refine q_nmD (fun W eW => ?_)
    have hW : notW D W := by first | exact Or.inl ⟨h6, eW⟩ | exact Or.inr ⟨h6, S, (show (1248 : Int) = k by omega) ▸ hs, eW⟩
    have hw6 : 0 ≤ W 283 6 ∧ W 283 6 ≤ 23 := by (rcases hW with ⟨z1, z2⟩ | ⟨z1, z2, z3, z4⟩; (rw [z2]; omega); (rw [z4, upD_s]; omega))
    refine q_iconst hA dX10_notes_46 ?_
    refine q_istore_n (j := 1) (lo2 := [vR 283, vI 0]) hA dX10_notes_47 (by decide) rfl rfl ?_
    refine zX10_notes_L48 (D := D) ha hW hw6 hA hR 1000 _ _ (by omega) (by exact cpF.z) (by omega)
  · refine q_bipush hA (by decide) dX10_notes_9 ?_
    refine q_istore_n (j := 1) (lo2 := [vR 283, vI 52]) hA dX10_notes_11 (by decide) rfl rfl ?_
    refine zX10_notes_L12 (D := D) ha  hA hR (fun k S hk hs hx => ?_) 2000 _ _ (by omega) (by exact shiF.z) (by omega)
    refine q_aload_n (j := 0) hA rfl dX10_notes_40 ?_
    refine q_bipush hA (by decide) dX10_notes_41 ?_
    refine q_putI hA f_X10_130 dX10_notes_43 sx_283 (by decide) ?_
    show J _ _ _ (upD S 283 6 23)
    refine q_nmD (fun W eW => ?_)
    have hW : notW D W := by first | exact Or.inl ⟨h6, eW⟩ | exact Or.inr ⟨h6, S, (show (1248 : Int) = k by omega) ▸ hs, eW⟩
    have hw6 : 0 ≤ W 283 6 ∧ W 283 6 ≤ 23 := by (rcases hW with ⟨z1, z2⟩ | ⟨z1, z2, z3, z4⟩; (rw [z2]; omega); (rw [z4, upD_s]; omega))
    refine q_iconst hA dX10_notes_46 ?_
    refine q_istore_n (j := 1) (lo2 := [vR 283, vI 0]) hA dX10_notes_47 (by decide) rfl rfl ?_
    refine zX10_notes_L48 (D := D) ha hW hw6 hA hR 1000 _ _ (by omega) (by exact cpF.z) (by omega)
