set_option maxHeartbeats 4000000 in
set_option maxRecDepth 100000 in
theorem zX5_figure {g : Gm} {l : Launch} {D : Dat} (hrd : rdOk D) : CrP g l 2 mX5_figure [vR 3, vR 1] D (figT (tAt D) (D 3 1)) := by
  unfold CrP
  refine Cr.ofI (lo0 := [vR 3, vR 1, vN]) (by decide) (Nat.le_of_ble_eq_true rfl) rfl (fun J hA hR => ?_)
  have hrd0 := hrd
  obtain ⟨hto, ho, hp0, hp1⟩ := hrd0
  have hta := tAt_in hto (D 3 1)
  refine q_aload_n (j := 1) hA rfl dX5_figure_0 ?_
  refine q_aload_n (j := 0) hA rfl dX5_figure_1 ?_
  refine q_getI (x := D 3 1) hA f_X5_21 dX5_figure_2 sx_3 (by decide) rfl ?_
  refine q_callVP (b := 1) (As := [vI (D 3 1)]) (st := []) hA l_X5_44 kX8_at (zX8_at (by first | assumption | omega | rfl) (by first | assumption | omega | rfl)) dX5_figure_5 rfl rfl sx_1 (by decide) rfl (Nat.le_of_ble_eq_true rfl) (by omega) ?_
  refine q_nmI (fun t et => ?_)
  refine q_istore_n (j := 2) (lo2 := [vR 3, vR 1, vI t]) hA dX5_figure_8 (by decide) rfl rfl ?_
  refine q_iload_n (j := 2) hA rfl dX5_figure_9 ?_
  refine q_bipush hA (by decide) dX5_figure_10 ?_
  refine q_icmp_lt (tgt := 28) hA (by omega) (by omega) dX5_figure_12 (by decide) (fun h12 => ?_) (fun h12 => ?_)
  · refine q_bipush hA (by decide) dX5_figure_28 ?_
    exact hR 30 _ _ _ dX5_figure_30 ⟨(by unfold figT; rw [← et]; first | rw [if_pos (by omega)] | rw [if_neg (by omega)]), rfl⟩
  · refine q_iload_n (j := 2) hA rfl dX5_figure_15 ?_
    refine q_bipush hA (by decide) dX5_figure_16 ?_
    refine q_icmp_gt (tgt := 28) hA (by omega) (by omega) dX5_figure_18 (by decide) (fun h18 => ?_) (fun h18 => ?_)
    · refine q_bipush hA (by decide) dX5_figure_28 ?_
      exact hR 30 _ _ _ dX5_figure_30 ⟨(by unfold figT; rw [← et]; first | rw [if_pos (by omega)] | rw [if_neg (by omega)]), rfl⟩
    · refine q_iload_n (j := 2) hA rfl dX5_figure_21 ?_
      refine q_bipush hA (by decide) dX5_figure_22 ?_
      refine q_isub hA dX5_figure_24 ?_
      refine q_goto (tgt := 30) hA dX5_figure_25 (by decide) ?_
      exact hR 30 _ _ _ dX5_figure_30 ⟨(by unfold figT; rw [← et]; first | rw [if_pos (by omega)] | rw [if_neg (by omega)]), rfl⟩
set_option maxHeartbeats 4000000 in
set_option maxRecDepth 100000 in
theorem zX5_readSign {g : Gm} {l : Launch} {D : Dat} (hrd : rdOk D) {c : Int} (hc : 0 ≤ c ∧ c ≤ 255) : CrI g l 2 mX5_readSign [vR 3, vR 1, vI c] D (fun v D1 => RB D D1 v (sgn (tAt D) c (rowX D 4) (D 3 1))) := by
  refine Cr.ofZ (lo0 := [vR 3, vR 1, vI c]) (by decide) (Nat.le_of_ble_eq_true rfl) rfl (fun J hA hR => ?_)
  have hrd0 := hrd
  obtain ⟨hto, ho, hp0, hp1⟩ := hrd0
  have hta := tAt_in hto (D 3 1)
  refine q_aload_n (j := 1) hA rfl dX5_readSign_0 ?_
  refine q_aload_n (j := 0) hA rfl dX5_readSign_1 ?_
  refine q_getI (x := D 3 1) hA f_X5_21 dX5_readSign_2 sx_3 (by decide) rfl ?_
  refine q_callVP (b := 1) (As := [vI (D 3 1)]) (st := []) hA l_X5_44 kX8_at (zX8_at (by first | assumption | omega | rfl) (by first | assumption | omega | rfl)) dX5_readSign_5 rfl rfl sx_1 (by decide) rfl (Nat.le_of_ble_eq_true rfl) (by omega) ?_
  refine q_nmI (fun t et => ?_)
  refine q_iload_n (j := 2) hA rfl dX5_readSign_8 ?_
  refine q_icmp_eq (tgt := 14) hA (by omega) (by omega) dX5_readSign_9 (by decide) (fun h9 => ?_) (fun h9 => ?_)
  · have hlt := tAt_lt (D := D) (p := D 3 1) (by omega)
    have hlen := hto.2.1
    refine q_aload_n (j := 0) hA rfl dX5_readSign_14 ?_
    refine q_dupR hA dX5_readSign_15 ?_
    refine q_getI (x := D 3 1) hA f_X5_21 dX5_readSign_16 sx_3 (by decide) rfl ?_
    refine q_iconst hA dX5_readSign_19 ?_
    refine q_iadd hA dX5_readSign_20 ?_
    refine q_putI hA f_X5_21 dX5_readSign_21 sx_3 (by decide) ?_
    show J _ _ _ (upD D 3 1 ((D 3 1) + 1))
    refine q_iconst hA dX5_readSign_24 ?_
    exact hR 25 _ _ _ dX5_readSign_25 (by omega) (by show RB _ _ _ _; rw [show sgn (tAt D) c (rowX D 4) (D 3 1) = (true, rowX D 4, D 3 1 + 1) from by unfold sgn; rw [if_pos (by omega)]]; exact RBmk (Or.inl ⟨rfl, rfl⟩) (frm.row (a := 3) (n := 1) (by repeat (first | exact frm.rf | assumption | refine frm.up ?_ (by omega) | refine frm.cp ?_ (by omega))) (by omega)) upD_s (by repeat (first | exact frm.rf | assumption | refine frm.up ?_ (by omega) | refine frm.cp ?_ (by omega))) hto ho (by omega))
  · refine q_iconst hA dX5_readSign_12 ?_
    exact hR 13 _ _ _ dX5_readSign_13 (by omega) (by show RB _ _ _ _; rw [show sgn (tAt D) c (rowX D 4) (D 3 1) = (false, rowX D 4, D 3 1) from by unfold sgn; rw [if_neg (by omega)]]; exact RBmk (Or.inr ⟨rfl, rfl⟩) rfl rfl frm.rf hto ho (by omega))
set_option maxHeartbeats 4000000 in
set_option maxRecDepth 100000 in
theorem zX5_readPicture {g : Gm} {l : Launch} {D : Dat} (hrd : rdOk D) (hn8 : D 4 6 < 8) : CrI g l 3 mX5_readPicture [vR 3, vR 1] D (fun v D1 => RB D D1 v (pPic (tAt D) (rowX D 4) (D 3 1))) := by
  refine Cr.ofZ (lo0 := [vR 3, vR 1, vN, vN, vN]) (by decide) (Nat.le_of_ble_eq_true rfl) rfl (fun J hA hR => ?_)
  have hrd0 := hrd
  obtain ⟨hto, ho, hp0, hp1⟩ := hrd0
  have hta := tAt_in hto (D 3 1)
  refine q_aload_n (j := 1) hA rfl dX5_readPicture_0 ?_
  refine q_aload_n (j := 0) hA rfl dX5_readPicture_1 ?_
  refine q_getI (x := D 3 1) hA f_X5_21 dX5_readPicture_2 sx_3 (by decide) rfl ?_
  refine q_callVP (b := 1) (As := [vI (D 3 1)]) (st := []) hA l_X5_44 kX8_at (zX8_at (by first | assumption | omega | rfl) (by first | assumption | omega | rfl)) dX5_readPicture_5 rfl rfl sx_1 (by decide) rfl (Nat.le_of_ble_eq_true rfl) (by omega) ?_
  refine q_nmI (fun t et => ?_)
  refine q_callSP (As := [vI t]) (st := []) hA l_X5_54 kX3_byLetter (zX3_byLetter (by first | assumption | omega | rfl)) dX5_readPicture_8 rfl rfl (Nat.le_of_ble_eq_true rfl) (by omega) ?_
  refine q_nmI (fun k ek => ?_)
  refine q_istore_n (j := 2) (lo2 := [vR 3, vR 1, vI k, vN, vN]) hA dX5_readPicture_11 (by decide) rfl rfl ?_
  rw [et] at ek
  have hki := kindL_in (tAt D (D 3 1))
  rw [← ek] at hki
  refine q_iload_n (j := 2) hA rfl dX5_readPicture_12 ?_
  refine q_if_ge (tgt := 18) hA (by omega) dX5_readPicture_13 (by decide) (fun h13 => ?_) (fun h13 => ?_)
  · have hlt := kind_lt (D := D) (p := D 3 1) (by omega)
    have hlen := hto.2.1
    refine q_aload_n (j := 0) hA rfl dX5_readPicture_18 ?_
    refine q_dupR hA dX5_readPicture_19 ?_
    refine q_getI (x := D 3 1) hA f_X5_21 dX5_readPicture_20 sx_3 (by decide) rfl ?_
    refine q_iconst hA dX5_readPicture_23 ?_
    refine q_iadd hA dX5_readPicture_24 ?_
    refine q_putI hA f_X5_21 dX5_readPicture_25 sx_3 (by decide) ?_
    show J _ _ _ (upD D 3 1 ((D 3 1) + 1))
    have hrd28 : rdOk (upD D 3 1 (D 3 1 + 1)) := ⟨tOk_f (by repeat (first | exact frm.rf | assumption | refine frm.up ?_ (by omega) | refine frm.cp ?_ (by omega))) hto, (by unfold sOk; rw [frm.row (a := 3) (n := 1) (D := D) (by repeat (first | exact frm.rf | assumption | refine frm.up ?_ (by omega) | refine frm.cp ?_ (by omega))) (by omega)]; exact ho), (by rw [upD_s]; omega), (by rw [upD_s]; omega)⟩
    refine q_aload_n (j := 0) hA rfl dX5_readPicture_28 ?_
    refine q_aload_n (j := 1) hA rfl dX5_readPicture_29 ?_
    refine q_callVP (b := 3) (As := [vR 1]) (st := []) hA l_X5_59 kX5_figure (zX5_figure (by first | assumption | omega | rfl)) dX5_readPicture_30 rfl rfl sx_3 (by decide) rfl (Nat.le_of_ble_eq_true rfl) (by omega) ?_
    refine q_nmI (fun w ew => ?_)
    refine q_istore_n (j := 3) (lo2 := [vR 3, vR 1, vI k, vI w, vN]) hA dX5_readPicture_33 (by decide) rfl rfl ?_
    rw [upD_s, (tAt_f (D := D) (D1 := upD D 3 1 (D 3 1 + 1)) (by repeat (first | exact frm.rf | assumption | refine frm.up ?_ (by omega) | refine frm.cp ?_ (by omega))))] at ew
    have hwi := figT_in (tAt D) (D 3 1 + 1)
    rw [← ew] at hwi
    refine q_iload_n (j := 3) hA rfl dX5_readPicture_34 ?_
    refine q_if_ge (tgt := 40) hA (by omega) dX5_readPicture_35 (by decide) (fun h35 => ?_) (fun h35 => ?_)
    · have hlt2 := fig_lt (D := D) (p := D 3 1 + 1) (by omega)
      refine q_aload_n (j := 0) hA rfl dX5_readPicture_40 ?_
      refine q_dupR hA dX5_readPicture_41 ?_
      refine q_getI (x := (D 3 1) + 1) hA f_X5_21 dX5_readPicture_42 sx_3 (by decide) ((upD_s).trans (rfl)) ?_
      refine q_iconst hA dX5_readPicture_45 ?_
      refine q_iadd hA dX5_readPicture_46 ?_
      refine q_putI hA f_X5_21 dX5_readPicture_47 sx_3 (by decide) ?_
      show J _ _ _ (upD (upD D 3 1 ((D 3 1) + 1)) 3 1 (((D 3 1) + 1) + 1))
      have hrd50 : rdOk (upD (upD D 3 1 (D 3 1 + 1)) 3 1 (D 3 1 + 1 + 1)) := ⟨tOk_f (by repeat (first | exact frm.rf | assumption | refine frm.up ?_ (by omega) | refine frm.cp ?_ (by omega))) hto, (by unfold sOk; rw [frm.row (a := 3) (n := 1) (D := D) (by repeat (first | exact frm.rf | assumption | refine frm.up ?_ (by omega) | refine frm.cp ?_ (by omega))) (by omega)]; exact ho), (by rw [upD_s]; omega), (by rw [upD_s]; omega)⟩
      refine q_aload_n (j := 0) hA rfl dX5_readPicture_50 ?_
      refine q_aload_n (j := 1) hA rfl dX5_readPicture_51 ?_
      refine q_callVP (b := 3) (As := [vR 1]) (st := []) hA l_X5_59 kX5_figure (zX5_figure (by first | assumption | omega | rfl)) dX5_readPicture_52 rfl rfl sx_3 (by decide) rfl (Nat.le_of_ble_eq_true rfl) (by omega) ?_
      refine q_nmI (fun b eb => ?_)
      refine q_istore (j := 4) (lo2 := [vR 3, vR 1, vI k, vI w, vI b]) hA dX5_readPicture_55 (by decide) rfl rfl ?_
      rw [upD_s, (tAt_f (D := D) (D1 := upD (upD D 3 1 (D 3 1 + 1)) 3 1 (D 3 1 + 1 + 1)) (by repeat (first | exact frm.rf | assumption | refine frm.up ?_ (by omega) | refine frm.cp ?_ (by omega)))), show D 3 1 + 1 + 1 = D 3 1 + 2 by omega] at eb
      have hbi := figT_in (tAt D) (D 3 1 + 2)
      rw [← eb] at hbi
      refine q_iload (j := 4) hA rfl dX5_readPicture_57 ?_
      refine q_iconst hA dX5_readPicture_59 ?_
      refine q_icmp_ge (tgt := 65) hA (by omega) (by omega) dX5_readPicture_60 (by decide) (fun h60 => ?_) (fun h60 => ?_)
      · have hlt3 := fig_lt (D := D) (p := D 3 1 + 2) (by omega)
        refine q_aload_n (j := 0) hA rfl dX5_readPicture_65 ?_
        refine q_dupR hA dX5_readPicture_66 ?_
        refine q_getI (x := ((D 3 1) + 1) + 1) hA f_X5_21 dX5_readPicture_67 sx_3 (by decide) ((upD_s).trans (rfl)) ?_
        refine q_iconst hA dX5_readPicture_70 ?_
        refine q_iadd hA dX5_readPicture_71 ?_
        refine q_putI hA f_X5_21 dX5_readPicture_72 sx_3 (by decide) ?_
        show J _ _ _ (upD (upD (upD D 3 1 ((D 3 1) + 1)) 3 1 (((D 3 1) + 1) + 1)) 3 1 ((((D 3 1) + 1) + 1) + 1))
        refine q_aload_n (j := 0) hA rfl dX5_readPicture_75 ?_
        refine q_getR hA f_X5_12 dX5_readPicture_76 sx_3 (by decide) fx_3_0 ?_
        refine q_iload_n (j := 2) hA rfl dX5_readPicture_79 ?_
        refine q_iload_n (j := 3) hA rfl dX5_readPicture_80 ?_
        refine q_iload (j := 4) hA rfl dX5_readPicture_81 ?_
        refine q_callVV (b := 4) (As := [vI k, vI w, vI b]) (st := []) hA l_X5_63 kX7_addPicture (zX7_addPicture isS4 (by unfold sOk; rw [frm.row (a := 3) (n := 1) (D := D) (by repeat (first | exact frm.rf | assumption | refine frm.up ?_ (by omega) | refine frm.cp ?_ (by omega))) (by omega)]; exact ho) (by rw [upD_n (Or.inl (by omega)), upD_n (Or.inl (by omega)), upD_n (Or.inl (by omega))]; exact hn8)) dX5_readPicture_83 rfl rfl (strS isS4) (by decide) rfl (Nat.le_of_ble_eq_true rfl) (by omega) (fun D83 q83 => ?_)
        have hrow : rowX D83 4 = addR (rowX D 4) k w b := by rw [q83.1, frm.row (a := 3) (n := 1) (D := D) (by repeat (first | exact frm.rf | assumption | refine frm.up ?_ (by omega) | refine frm.cp ?_ (by omega))) (by omega)]
        have hpl : D83 3 1 = D 3 1 + 3 := by rw [q83.2 3 (by omega), upD_s]; omega
        have hfr : frm 3 8 D D83 := fun c c1 => (q83.2 c (by omega)).trans ((show frm 3 8 D (upD (upD (upD D 3 1 (D 3 1 + 1)) 3 1 (D 3 1 + 1 + 1)) 3 1 (D 3 1 + 1 + 1 + 1)) by repeat (first | exact frm.rf | assumption | refine frm.up ?_ (by omega) | refine frm.cp ?_ (by omega))) c c1)
        refine q_iconst hA dX5_readPicture_86 ?_
        exact hR 87 _ _ _ dX5_readPicture_87 (by omega) (by show RB _ _ _ _; rw [show pPic (tAt D) (rowX D 4) (D 3 1) = (true, addR (rowX D 4) k w b, D 3 1 + 3) from by unfold pPic; rw [if_neg (by omega), if_neg (by omega), if_neg (by omega), ← ek, ← ew, ← eb]]; exact RBmk (Or.inl ⟨rfl, rfl⟩) hrow hpl hfr hto (ho.add (rowX_len _ _) (by rw [xN]; exact hn8) (by omega) (by omega) (by omega)) (by omega))
      · refine q_iconst hA dX5_readPicture_63 ?_
        exact hR 64 _ _ _ dX5_readPicture_64 (by omega) (by show RB _ _ _ _; rw [show pPic (tAt D) (rowX D 4) (D 3 1) = (false, rowX D 4, D 3 1 + 2) from by unfold pPic; rw [if_neg (by omega), if_neg (by omega), if_pos (by omega)]]; exact RBmk (Or.inr ⟨rfl, rfl⟩) (frm.row (a := 3) (n := 1) (by repeat (first | exact frm.rf | assumption | refine frm.up ?_ (by omega) | refine frm.cp ?_ (by omega))) (by omega)) (by rw [upD_s]; omega) (by repeat (first | exact frm.rf | assumption | refine frm.up ?_ (by omega) | refine frm.cp ?_ (by omega))) hto ho (by omega))
    · refine q_iconst hA dX5_readPicture_38 ?_
      exact hR 39 _ _ _ dX5_readPicture_39 (by omega) (by show RB _ _ _ _; rw [show pPic (tAt D) (rowX D 4) (D 3 1) = (false, rowX D 4, D 3 1 + 1) from by unfold pPic; rw [if_neg (by omega), if_pos (by omega)]]; exact RBmk (Or.inr ⟨rfl, rfl⟩) (frm.row (a := 3) (n := 1) (by repeat (first | exact frm.rf | assumption | refine frm.up ?_ (by omega) | refine frm.cp ?_ (by omega))) (by omega)) upD_s (by repeat (first | exact frm.rf | assumption | refine frm.up ?_ (by omega) | refine frm.cp ?_ (by omega))) hto ho (by omega))
  · refine q_iconst hA dX5_readPicture_16 ?_
    exact hR 17 _ _ _ dX5_readPicture_17 (by omega) (by show RB _ _ _ _; rw [show pPic (tAt D) (rowX D 4) (D 3 1) = (false, rowX D 4, D 3 1) from by unfold pPic; rw [if_pos (by omega)]]; exact RBmk (Or.inr ⟨rfl, rfl⟩) rfl rfl frm.rf hto ho (by omega))
set_option maxHeartbeats 4000000 in
set_option maxRecDepth 100000 in
theorem zX5_readPictures_L2 {g : Gm} {l : Launch} {D : Dat} (hrd : rdOk D) (hn0 : D 4 6 = 0)   {J : JT} (hA : AX g l RX5 cX5_readPictures 4 4 J) (hR : ReZ cX5_readPictures (fun v D1 => RB D D1 v (pPics (tAt D) 8 (rowX D 4) (D 3 1))) J) : ∀ (fuel : Nat) (k : Int) (E : Dat), (0 ≤ k ∧ k ≤ 8) → (E 4 6 = k) → (rdOk E) → (frm 3 8 D E) → (pPics (tAt D) 8 (rowX D 4) (D 3 1) = pPics (tAt D) (8 - k).toNat (rowX E 4) (E 3 1)) → (k < 8) → 8 - k < (fuel : Int) → J 2 [vR 3, vR 1, vI k, vN] [] E := by
  intro fuel
  induction fuel with
  | zero => intro k E hk hn hE hf hv hk8 hMs; exact absurd hMs (by omega)
  | succ fuel ih =>
    intro k E hk hn hE hf hv hk8 hMs
    refine q_iload_n (j := 2) hA rfl dX5_readPictures_2 ?_
    refine q_bipush hA (by decide) dX5_readPictures_3 ?_
    refine q_icmp_ge (tgt := 73) hA (by omega) (by omega) dX5_readPictures_5 (by decide) (fun h5 => ?_) (fun h5 => ?_)
    · refine q_iconst hA dX5_readPictures_73 ?_
      exact hR 74 _ _ _ dX5_readPictures_74 (by omega) (by omega)
    · refine q_aload_n (j := 0) hA rfl dX5_readPictures_8 ?_
      refine q_aload_n (j := 1) hA rfl dX5_readPictures_9 ?_
      refine q_callVI (b := 3) (As := [vR 1]) (st := []) hA l_X5_48 kX5_readPicture (zX5_readPicture (by first | assumption | omega | rfl) (by first | assumption | omega | rfl)) dX5_readPictures_10 rfl rfl sx_3 (by decide) rfl (Nat.le_of_ble_eq_true rfl) (by omega) (fun v10 D10 q10 => ?_)
      obtain ⟨hv10, hr10, hp10, hf10, ho10⟩ := q10
      rw [tAt_f hf] at hv10 hr10 hp10
      rcases hv10 with ⟨hb10, rfl⟩ | ⟨hb10, rfl⟩
      · skip
        refine q_if_ne (tgt := 18) hA (by decide) dX5_readPictures_13 (by decide) (fun h13 => ?_) (fun h13 => absurd h13 (by decide))
        have hn1 : D10 4 6 = k + 1 := by rw [← xN D10 4, hr10, pPic_n hb10 (rowX_len _ _), xN, hn]
        refine q_aload_n (j := 0) hA rfl dX5_readPictures_18 ?_
        refine q_getR hA f_X5_12 dX5_readPictures_19 sx_3 (by decide) fx_3_0 ?_
        refine q_getI (x := D10 4 6) hA f_X5_51 dX5_readPictures_22 (strS isS4) (by decide) rfl ?_
        refine q_bipush hA (by decide) dX5_readPictures_25 ?_
        refine q_icmp_ne (tgt := 34) hA (by omega) (by omega) dX5_readPictures_27 (by decide) (fun h27 => ?_) (fun h27 => ?_)
        · refine q_iconst hA dX5_readPictures_34 ?_
          refine q_istore_n (j := 3) (lo2 := [vR 3, vR 1, vI k, vI 0]) hA dX5_readPictures_35 (by decide) rfl rfl ?_
          refine q_iload_n (j := 3) hA rfl dX5_readPictures_36 ?_
          refine q_if_ne (tgt := 50) hA (by decide) dX5_readPictures_37 (by decide) (fun h37 => absurd h37 (by decide)) (fun h37 => ?_)
          refine q_aload_n (j := 0) hA rfl dX5_readPictures_40 ?_
          refine q_aload_n (j := 1) hA rfl dX5_readPictures_41 ?_
          refine q_bipush hA (by decide) dX5_readPictures_42 ?_
          refine q_callVI (b := 3) (As := [vR 1, vI 44]) (st := []) hA l_X5_25 kX5_readSign (zX5_readSign (by first | assumption | omega | rfl) (by first | assumption | omega | rfl)) dX5_readPictures_44 rfl rfl sx_3 (by decide) rfl (Nat.le_of_ble_eq_true rfl) (by omega) (fun v44 D44 q44 => ?_)
          obtain ⟨hv44, hr44, hp44, hf44, ho44⟩ := q44
          rw [tAt_f (hf.tr hf10), hr10, hp10] at hv44 hr44 hp44
          rcases hv44 with ⟨hb44, rfl⟩ | ⟨hb44, rfl⟩
          · skip
            refine q_if_ne (tgt := 67) hA (by decide) dX5_readPictures_47 (by decide) (fun h47 => ?_) (fun h47 => absurd h47 (by decide))
            refine q_iinc (j := 2) (lo2 := [vR 3, vR 1, vI (k + 1), vI 0]) hA dX5_readPictures_67 rfl (by decide) rfl rfl ?_
            refine q_goto (tgt := 2) hA dX5_readPictures_70 (by decide) ?_
            refine q_fgt (lo2 := [vR 3, vR 1, vI (k + 1), vN]) hA ⟨Or.inr rfl, Or.inr rfl, Or.inr rfl, Or.inl rfl, trivial⟩ ?_
            exact ih _ _ (by omega) (by rw [← xN D44 4, hr44, sgn_r, ← hr10, xN]; exact hn1) (by exact ho44) (by exact (hf.tr hf10).tr hf44) (by rw [hv, pPics_step (by omega), pb_t hb10, if_neg (by rw [← hr10, xN, hn1]; intro z; rcases z with z | z; omega; exact z (sgn_t hb44)), hr44, hp44, sgn_r, sgn_p hb44]) (by omega) (by omega)
          · have hn4 : D44 4 6 = k + 1 := by rw [← xN D44 4, hr44, sgn_r, ← hr10, xN]; exact hn1
            refine q_if_ne (tgt := 67) hA (by decide) dX5_readPictures_47 (by decide) (fun h47 => absurd h47 (by decide)) (fun h47 => ?_)
            refine q_aload_n (j := 0) hA rfl dX5_readPictures_50 ?_
            refine q_getR hA f_X5_12 dX5_readPictures_51 sx_3 (by decide) fx_3_0 ?_
            refine q_getI (x := D44 4 6) hA f_X5_51 dX5_readPictures_54 (strS isS4) (by decide) rfl ?_
            refine q_iconst hA dX5_readPictures_57 ?_
            refine q_icmp_lt (tgt := 65) hA (by omega) (by omega) dX5_readPictures_58 (by decide) (fun h58 => ?_) (fun h58 => ?_)
            · refine q_iconst hA dX5_readPictures_65 ?_
              exact hR 66 _ _ _ dX5_readPictures_66 (by omega) (by show RB _ _ _ _; rw [hv, pPics_step (by omega), pb_t hb10]; first | (rw [if_pos (Or.inl (by rw [← hr10, xN, hn1]; omega))]; exact ⟨by first | exact Or.inl ⟨decide_eq_true (by rw [← hr10, xN]; omega), rfl⟩ | exact Or.inr ⟨decide_eq_false (by rw [← hr10, xN]; omega), rfl⟩, hr10, hp10, hf.tr hf10, ho10⟩) | (rw [if_pos (Or.inr (sgn_n hb44))]; exact ⟨by first | exact Or.inl ⟨decide_eq_true (by rw [← hr10, xN]; omega), rfl⟩ | exact Or.inr ⟨decide_eq_false (by rw [← hr10, xN]; omega), rfl⟩, by rw [hr44, sgn_r], by rw [hp44, sgn_p0 hb44], (hf.tr hf10).tr hf44, ho44⟩))
            · refine q_iconst hA dX5_readPictures_61 ?_
              refine q_goto (tgt := 66) hA dX5_readPictures_62 (by decide) ?_
              exact hR 66 _ _ _ dX5_readPictures_66 (by omega) (by show RB _ _ _ _; rw [hv, pPics_step (by omega), pb_t hb10]; first | (rw [if_pos (Or.inl (by rw [← hr10, xN, hn1]; omega))]; exact ⟨by first | exact Or.inl ⟨decide_eq_true (by rw [← hr10, xN]; omega), rfl⟩ | exact Or.inr ⟨decide_eq_false (by rw [← hr10, xN]; omega), rfl⟩, hr10, hp10, hf.tr hf10, ho10⟩) | (rw [if_pos (Or.inr (sgn_n hb44))]; exact ⟨by first | exact Or.inl ⟨decide_eq_true (by rw [← hr10, xN]; omega), rfl⟩ | exact Or.inr ⟨decide_eq_false (by rw [← hr10, xN]; omega), rfl⟩, by rw [hr44, sgn_r], by rw [hp44, sgn_p0 hb44], (hf.tr hf10).tr hf44, ho44⟩))
        · refine q_iconst hA dX5_readPictures_30 ?_
          refine q_goto (tgt := 35) hA dX5_readPictures_31 (by decide) ?_
          refine q_istore_n (j := 3) (lo2 := [vR 3, vR 1, vI k, vI 1]) hA dX5_readPictures_35 (by decide) rfl rfl ?_
          refine q_iload_n (j := 3) hA rfl dX5_readPictures_36 ?_
          refine q_if_ne (tgt := 50) hA (by decide) dX5_readPictures_37 (by decide) (fun h37 => ?_) (fun h37 => absurd h37 (by decide))
          refine q_aload_n (j := 0) hA rfl dX5_readPictures_50 ?_
          refine q_getR hA f_X5_12 dX5_readPictures_51 sx_3 (by decide) fx_3_0 ?_
          refine q_getI (x := D10 4 6) hA f_X5_51 dX5_readPictures_54 (strS isS4) (by decide) rfl ?_
          refine q_iconst hA dX5_readPictures_57 ?_
          refine q_icmp_lt (tgt := 65) hA (by omega) (by omega) dX5_readPictures_58 (by decide) (fun h58 => ?_) (fun h58 => ?_)
          · refine q_iconst hA dX5_readPictures_65 ?_
            exact hR 66 _ _ _ dX5_readPictures_66 (by omega) (by show RB _ _ _ _; rw [hv, pPics_step (by omega), pb_t hb10]; first | (rw [if_pos (Or.inl (by rw [← hr10, xN, hn1]; omega))]; exact ⟨by first | exact Or.inl ⟨decide_eq_true (by rw [← hr10, xN]; omega), rfl⟩ | exact Or.inr ⟨decide_eq_false (by rw [← hr10, xN]; omega), rfl⟩, hr10, hp10, hf.tr hf10, ho10⟩) | (rw [if_pos (Or.inr (sgn_n hb44))]; exact ⟨by first | exact Or.inl ⟨decide_eq_true (by rw [← hr10, xN]; omega), rfl⟩ | exact Or.inr ⟨decide_eq_false (by rw [← hr10, xN]; omega), rfl⟩, by rw [hr44, sgn_r], by rw [hp44, sgn_p0 hb44], (hf.tr hf10).tr hf44, ho44⟩))
          · refine q_iconst hA dX5_readPictures_61 ?_
            refine q_goto (tgt := 66) hA dX5_readPictures_62 (by decide) ?_
            exact hR 66 _ _ _ dX5_readPictures_66 (by omega) (by show RB _ _ _ _; rw [hv, pPics_step (by omega), pb_t hb10]; first | (rw [if_pos (Or.inl (by rw [← hr10, xN, hn1]; omega))]; exact ⟨by first | exact Or.inl ⟨decide_eq_true (by rw [← hr10, xN]; omega), rfl⟩ | exact Or.inr ⟨decide_eq_false (by rw [← hr10, xN]; omega), rfl⟩, hr10, hp10, hf.tr hf10, ho10⟩) | (rw [if_pos (Or.inr (sgn_n hb44))]; exact ⟨by first | exact Or.inl ⟨decide_eq_true (by rw [← hr10, xN]; omega), rfl⟩ | exact Or.inr ⟨decide_eq_false (by rw [← hr10, xN]; omega), rfl⟩, by rw [hr44, sgn_r], by rw [hp44, sgn_p0 hb44], (hf.tr hf10).tr hf44, ho44⟩))
      · skip
        refine q_if_ne (tgt := 18) hA (by decide) dX5_readPictures_13 (by decide) (fun h13 => absurd h13 (by decide)) (fun h13 => ?_)
        refine q_iconst hA dX5_readPictures_16 ?_
        exact hR 17 _ _ _ dX5_readPictures_17 (by omega) (by show RB _ _ _ _; rw [hv, pPics_step (by omega), pb_f hb10]; exact ⟨Or.inr ⟨hb10, rfl⟩, hr10, hp10, hf.tr hf10, ho10⟩)
set_option maxHeartbeats 4000000 in
set_option maxRecDepth 100000 in
theorem zX5_readPictures {g : Gm} {l : Launch} {D : Dat} (hrd : rdOk D) (hn0 : D 4 6 = 0) : CrI g l 4 mX5_readPictures [vR 3, vR 1] D (fun v D1 => RB D D1 v (pPics (tAt D) 8 (rowX D 4) (D 3 1))) := by
  refine Cr.ofZ (lo0 := [vR 3, vR 1, vN, vN]) (by decide) (Nat.le_of_ble_eq_true rfl) rfl (fun J hA hR => ?_)
  have hrd0 := hrd
  obtain ⟨hto, ho, hp0, hp1⟩ := hrd0
  refine q_iconst hA dX5_readPictures_0 ?_
  refine q_istore_n (j := 2) (lo2 := [vR 3, vR 1, vI 0, vN]) hA dX5_readPictures_1 (by decide) rfl rfl ?_
  refine zX5_readPictures_L2 (D := D) hrd hn0  hA hR 1000 _ _ (by omega) (by exact hn0) (by exact ⟨hto, ho, hp0, hp1⟩) (by exact frm.rf) (by rfl) (by omega) (by omega)
set_option maxHeartbeats 4000000 in
set_option maxRecDepth 100000 in
theorem zX5_readFold {g : Gm} {l : Launch} {D : Dat} (hrd : rdOk D) : CrI g l 4 mX5_readFold [vR 3, vR 1] D (fun v D1 => RB D D1 v (pFold (tAt D) (rowX D 4) (D 3 1))) := by
  refine Cr.ofZ (lo0 := [vR 3, vR 1, vN, vN]) (by decide) (Nat.le_of_ble_eq_true rfl) rfl (fun J hA hR => ?_)
  have hrd0 := hrd
  obtain ⟨hto, ho, hp0, hp1⟩ := hrd0
  have hn := ho.n
  refine q_aload_n (j := 0) hA rfl dX5_readFold_0 ?_
  refine q_aload_n (j := 1) hA rfl dX5_readFold_1 ?_
  refine q_callVP (b := 3) (As := [vR 1]) (st := []) hA l_X5_59 kX5_figure (zX5_figure (by first | assumption | omega | rfl)) dX5_readFold_2 rfl rfl sx_3 (by decide) rfl (Nat.le_of_ble_eq_true rfl) (by omega) ?_
  refine q_nmI (fun p ep => ?_)
  refine q_istore_n (j := 2) (lo2 := [vR 3, vR 1, vI p, vN]) hA dX5_readFold_5 (by decide) rfl rfl ?_
  have hpi := figT_in (tAt D) (D 3 1)
  rw [← ep] at hpi
  refine q_aload_n (j := 0) hA rfl dX5_readFold_6 ?_
  refine q_getR hA f_X5_12 dX5_readFold_7 sx_3 (by decide) fx_3_0 ?_
  refine q_iload_n (j := 2) hA rfl dX5_readFold_10 ?_
  refine q_callVB (b := 4) (As := [vI p]) (st := []) hA l_X5_73 kX7_has (zX7_has isS4 ho (by omega)) dX5_readFold_11 rfl rfl (strS isS4) (by decide) rfl (Nat.le_of_ble_eq_true rfl) (by omega) (fun h11 => ?_) (fun h11 => ?_)
  · refine q_if_ne (tgt := 19) hA (by decide) dX5_readFold_14 (by decide) (fun h14 => ?_) (fun h14 => absurd h14 (by decide))
    have hlt := fig_lt (D := D) (p := D 3 1) (by omega)
    have hlen := hto.2.1
    have hrd19 : rdOk (upD D 3 1 (D 3 1 + 1)) := ⟨tOk_f (by repeat (first | exact frm.rf | assumption | refine frm.up ?_ (by omega) | refine frm.cp ?_ (by omega))) hto, (by unfold sOk; rw [frm.row (a := 3) (n := 1) (D := D) (by repeat (first | exact frm.rf | assumption | refine frm.up ?_ (by omega) | refine frm.cp ?_ (by omega))) (by omega)]; exact ho), (by rw [upD_s]; omega), (by rw [upD_s]; omega)⟩
    refine q_aload_n (j := 0) hA rfl dX5_readFold_19 ?_
    refine q_dupR hA dX5_readFold_20 ?_
    refine q_getI (x := D 3 1) hA f_X5_21 dX5_readFold_21 sx_3 (by decide) rfl ?_
    refine q_iconst hA dX5_readFold_24 ?_
    refine q_iadd hA dX5_readFold_25 ?_
    refine q_putI hA f_X5_21 dX5_readFold_26 sx_3 (by decide) ?_
    show J _ _ _ (upD D 3 1 ((D 3 1) + 1))
    refine q_aload_n (j := 0) hA rfl dX5_readFold_29 ?_
    refine q_aload_n (j := 1) hA rfl dX5_readFold_30 ?_
    refine q_callVP (b := 3) (As := [vR 1]) (st := []) hA l_X5_59 kX5_figure (zX5_figure (by first | assumption | omega | rfl)) dX5_readFold_31 rfl rfl sx_3 (by decide) rfl (Nat.le_of_ble_eq_true rfl) (by omega) ?_
    refine q_nmI (fun q eq => ?_)
    refine q_istore_n (j := 3) (lo2 := [vR 3, vR 1, vI p, vI q]) hA dX5_readFold_34 (by decide) rfl rfl ?_
    rw [upD_s, (tAt_f (D := D) (D1 := upD D 3 1 (D 3 1 + 1)) (by repeat (first | exact frm.rf | assumption | refine frm.up ?_ (by omega) | refine frm.cp ?_ (by omega))))] at eq
    have hqi := figT_in (tAt D) (D 3 1 + 1)
    rw [← eq] at hqi
    refine q_aload_n (j := 0) hA rfl dX5_readFold_35 ?_
    refine q_getR hA f_X5_12 dX5_readFold_36 sx_3 (by decide) fx_3_0 ?_
    refine q_iload_n (j := 2) hA rfl dX5_readFold_39 ?_
    refine q_iload_n (j := 3) hA rfl dX5_readFold_40 ?_
    refine q_callVB (b := 4) (As := [vI p, vI q]) (st := []) hA l_X5_77 kX7_canJoin (zX7_canJoin isS4 (by unfold sOk; rw [frm.row (a := 3) (n := 1) (D := D) (by repeat (first | exact frm.rf | assumption | refine frm.up ?_ (by omega) | refine frm.cp ?_ (by omega))) (by omega)]; exact ho) (by omega) (by rw [upD_n (Or.inl (by omega))]; omega)) dX5_readFold_41 rfl rfl (strS isS4) (by decide) rfl (Nat.le_of_ble_eq_true rfl) (by omega) (fun h41 => ?_) (fun h41 => ?_)
    · rw [upD_n (Or.inl (by omega)), frm.row (a := 3) (n := 1) (D := D) (by repeat (first | exact frm.rf | assumption | refine frm.up ?_ (by omega) | refine frm.cp ?_ (by omega))) (by omega)] at h41
      refine q_if_ne (tgt := 49) hA (by decide) dX5_readFold_44 (by decide) (fun h44 => ?_) (fun h44 => absurd h44 (by decide))
      have hlt2 := fig_lt (D := D) (p := D 3 1 + 1) (by omega)
      refine q_aload_n (j := 0) hA rfl dX5_readFold_49 ?_
      refine q_dupR hA dX5_readFold_50 ?_
      refine q_getI (x := (D 3 1) + 1) hA f_X5_21 dX5_readFold_51 sx_3 (by decide) ((upD_s).trans (rfl)) ?_
      refine q_iconst hA dX5_readFold_54 ?_
      refine q_iadd hA dX5_readFold_55 ?_
      refine q_putI hA f_X5_21 dX5_readFold_56 sx_3 (by decide) ?_
      show J _ _ _ (upD (upD D 3 1 ((D 3 1) + 1)) 3 1 (((D 3 1) + 1) + 1))
      refine q_aload_n (j := 0) hA rfl dX5_readFold_59 ?_
      refine q_getR hA f_X5_12 dX5_readFold_60 sx_3 (by decide) fx_3_0 ?_
      refine q_iload_n (j := 2) hA rfl dX5_readFold_63 ?_
      refine q_iload_n (j := 3) hA rfl dX5_readFold_64 ?_
      refine q_callVV (b := 4) (As := [vI p, vI q]) (st := []) hA l_X5_81 kX7_join (zX7_join isS4 (by unfold sOk; rw [frm.row (a := 3) (n := 1) (D := D) (by repeat (first | exact frm.rf | assumption | refine frm.up ?_ (by omega) | refine frm.cp ?_ (by omega))) (by omega)]; exact ho) (by rw [upD_n (Or.inl (by omega)), upD_n (Or.inl (by omega))]; omega) (by rw [upD_n (Or.inl (by omega)), upD_n (Or.inl (by omega))]; omega)) dX5_readFold_65 rfl rfl (strS isS4) (by decide) rfl (Nat.le_of_ble_eq_true rfl) (by omega) (fun D65 q65 => ?_)
      have hrow : rowX D65 4 = joinR (rowX D 4) p q := by rw [q65.1, frm.row (a := 3) (n := 1) (D := D) (by repeat (first | exact frm.rf | assumption | refine frm.up ?_ (by omega) | refine frm.cp ?_ (by omega))) (by omega)]
      have hpl : D65 3 1 = D 3 1 + 2 := by rw [q65.2 3 (by omega), upD_s]; omega
      have hfr : frm 3 8 D D65 := fun c c1 => (q65.2 c (by omega)).trans ((show frm 3 8 D (upD (upD D 3 1 (D 3 1 + 1)) 3 1 (D 3 1 + 1 + 1)) by repeat (first | exact frm.rf | assumption | refine frm.up ?_ (by omega) | refine frm.cp ?_ (by omega))) c c1)
      refine q_iconst hA dX5_readFold_68 ?_
      exact hR 69 _ _ _ dX5_readFold_69 (by omega) (by show RB _ _ _ _; rw [show pFold (tAt D) (rowX D 4) (D 3 1) = (true, joinR (rowX D 4) p q, D 3 1 + 2) from by unfold pFold; rw [← ep, ← eq, xN, if_neg (fun z => z h11), cif_t h41]]; exact RBmk (Or.inl ⟨rfl, rfl⟩) hrow hpl hfr hto (ho.join (rowX_len _ _) (by omega) (by omega)) (by omega))
    · rw [upD_n (Or.inl (by omega)), frm.row (a := 3) (n := 1) (D := D) (by repeat (first | exact frm.rf | assumption | refine frm.up ?_ (by omega) | refine frm.cp ?_ (by omega))) (by omega)] at h41
      refine q_if_ne (tgt := 49) hA (by decide) dX5_readFold_44 (by decide) (fun h44 => absurd h44 (by decide)) (fun h44 => ?_)
      refine q_iconst hA dX5_readFold_47 ?_
      exact hR 48 _ _ _ dX5_readFold_48 (by omega) (by show RB _ _ _ _; rw [show pFold (tAt D) (rowX D 4) (D 3 1) = (false, rowX D 4, D 3 1 + 1) from by unfold pFold; rw [← ep, ← eq, xN, if_neg (fun z => z h11), cif_f h41]]; exact RBmk (Or.inr ⟨rfl, rfl⟩) (frm.row (a := 3) (n := 1) (by repeat (first | exact frm.rf | assumption | refine frm.up ?_ (by omega) | refine frm.cp ?_ (by omega))) (by omega)) upD_s (by repeat (first | exact frm.rf | assumption | refine frm.up ?_ (by omega) | refine frm.cp ?_ (by omega))) hto ho (by omega))
  · refine q_if_ne (tgt := 19) hA (by decide) dX5_readFold_14 (by decide) (fun h14 => absurd h14 (by decide)) (fun h14 => ?_)
    refine q_iconst hA dX5_readFold_17 ?_
    exact hR 18 _ _ _ dX5_readFold_18 (by omega) (by show RB _ _ _ _; rw [show pFold (tAt D) (rowX D 4) (D 3 1) = (false, rowX D 4, D 3 1) from by unfold pFold; rw [← ep, xN, if_pos h11]]; exact RBmk (Or.inr ⟨rfl, rfl⟩) rfl rfl frm.rf hto ho (by omega))
set_option maxHeartbeats 4000000 in
set_option maxRecDepth 100000 in
theorem zX5_readShown {g : Gm} {l : Launch} {D : Dat} (hrd : rdOk D) : CrI g l 3 mX5_readShown [vR 3, vR 1] D (fun v D1 => RB D D1 v (pShown (tAt D) (rowX D 4) (D 3 1))) := by
  refine Cr.ofZ (lo0 := [vR 3, vR 1, vN, vN]) (by decide) (Nat.le_of_ble_eq_true rfl) rfl (fun J hA hR => ?_)
  have hrd0 := hrd
  obtain ⟨hto, ho, hp0, hp1⟩ := hrd0
  have hn := ho.n
  refine q_aload_n (j := 0) hA rfl dX5_readShown_0 ?_
  refine q_aload_n (j := 1) hA rfl dX5_readShown_1 ?_
  refine q_callVP (b := 3) (As := [vR 1]) (st := []) hA l_X5_59 kX5_figure (zX5_figure (by first | assumption | omega | rfl)) dX5_readShown_2 rfl rfl sx_3 (by decide) rfl (Nat.le_of_ble_eq_true rfl) (by omega) ?_
  refine q_nmI (fun p ep => ?_)
  refine q_istore_n (j := 2) (lo2 := [vR 3, vR 1, vI p, vN]) hA dX5_readShown_5 (by decide) rfl rfl ?_
  have hpi := figT_in (tAt D) (D 3 1)
  rw [← ep] at hpi
  refine q_aload_n (j := 0) hA rfl dX5_readShown_6 ?_
  refine q_getR hA f_X5_12 dX5_readShown_7 sx_3 (by decide) fx_3_0 ?_
  refine q_iload_n (j := 2) hA rfl dX5_readShown_10 ?_
  refine q_callVB (b := 4) (As := [vI p]) (st := []) hA l_X5_73 kX7_has (zX7_has isS4 ho (by omega)) dX5_readShown_11 rfl rfl (strS isS4) (by decide) rfl (Nat.le_of_ble_eq_true rfl) (by omega) (fun h11 => ?_) (fun h11 => ?_)
  · refine q_if_ne (tgt := 19) hA (by decide) dX5_readShown_14 (by decide) (fun h14 => ?_) (fun h14 => absurd h14 (by decide))
    have hlt := fig_lt (D := D) (p := D 3 1) (by omega)
    have hlen := hto.2.1
    have hrd19 : rdOk (upD D 3 1 (D 3 1 + 1)) := ⟨tOk_f (by repeat (first | exact frm.rf | assumption | refine frm.up ?_ (by omega) | refine frm.cp ?_ (by omega))) hto, (by unfold sOk; rw [frm.row (a := 3) (n := 1) (D := D) (by repeat (first | exact frm.rf | assumption | refine frm.up ?_ (by omega) | refine frm.cp ?_ (by omega))) (by omega)]; exact ho), (by rw [upD_s]; omega), (by rw [upD_s]; omega)⟩
    refine q_aload_n (j := 0) hA rfl dX5_readShown_19 ?_
    refine q_dupR hA dX5_readShown_20 ?_
    refine q_getI (x := D 3 1) hA f_X5_21 dX5_readShown_21 sx_3 (by decide) rfl ?_
    refine q_iconst hA dX5_readShown_24 ?_
    refine q_iadd hA dX5_readShown_25 ?_
    refine q_putI hA f_X5_21 dX5_readShown_26 sx_3 (by decide) ?_
    show J _ _ _ (upD D 3 1 ((D 3 1) + 1))
    refine q_aload_n (j := 0) hA rfl dX5_readShown_29 ?_
    refine q_aload_n (j := 1) hA rfl dX5_readShown_30 ?_
    refine q_callVP (b := 3) (As := [vR 1]) (st := []) hA l_X5_59 kX5_figure (zX5_figure (by first | assumption | omega | rfl)) dX5_readShown_31 rfl rfl sx_3 (by decide) rfl (Nat.le_of_ble_eq_true rfl) (by omega) ?_
    refine q_nmI (fun q eq => ?_)
    refine q_istore_n (j := 3) (lo2 := [vR 3, vR 1, vI p, vI q]) hA dX5_readShown_34 (by decide) rfl rfl ?_
    rw [upD_s, (tAt_f (D := D) (D1 := upD D 3 1 (D 3 1 + 1)) (by repeat (first | exact frm.rf | assumption | refine frm.up ?_ (by omega) | refine frm.cp ?_ (by omega))))] at eq
    have hqi := figT_in (tAt D) (D 3 1 + 1)
    rw [← eq] at hqi
    refine q_aload_n (j := 0) hA rfl dX5_readShown_35 ?_
    refine q_getR hA f_X5_12 dX5_readShown_36 sx_3 (by decide) fx_3_0 ?_
    refine q_iload_n (j := 2) hA rfl dX5_readShown_39 ?_
    refine q_iload_n (j := 3) hA rfl dX5_readShown_40 ?_
    refine q_callVB (b := 4) (As := [vI p, vI q]) (st := []) hA l_X5_85 kX7_areLinked (zX7_areLinked isS4 (by unfold sOk; rw [frm.row (a := 3) (n := 1) (D := D) (by repeat (first | exact frm.rf | assumption | refine frm.up ?_ (by omega) | refine frm.cp ?_ (by omega))) (by omega)]; exact ho) (by omega) (by omega)) dX5_readShown_41 rfl rfl (strS isS4) (by decide) rfl (Nat.le_of_ble_eq_true rfl) (by omega) (fun h41 => ?_) (fun h41 => ?_)
    · rw [upD_n (Or.inl (by omega)), upD_n (Or.inl (by omega))] at h41
      refine q_if_ne (tgt := 49) hA (by decide) dX5_readShown_44 (by decide) (fun h44 => ?_) (fun h44 => absurd h44 (by decide))
      have hlt2 := fig_lt (D := D) (p := D 3 1 + 1) (by omega)
      refine q_aload_n (j := 0) hA rfl dX5_readShown_49 ?_
      refine q_dupR hA dX5_readShown_50 ?_
      refine q_getI (x := (D 3 1) + 1) hA f_X5_21 dX5_readShown_51 sx_3 (by decide) ((upD_s).trans (rfl)) ?_
      refine q_iconst hA dX5_readShown_54 ?_
      refine q_iadd hA dX5_readShown_55 ?_
      refine q_putI hA f_X5_21 dX5_readShown_56 sx_3 (by decide) ?_
      show J _ _ _ (upD (upD D 3 1 ((D 3 1) + 1)) 3 1 (((D 3 1) + 1) + 1))
      refine q_aload_n (j := 0) hA rfl dX5_readShown_59 ?_
      refine q_getR hA f_X5_12 dX5_readShown_60 sx_3 (by decide) fx_3_0 ?_
      refine q_iload_n (j := 2) hA rfl dX5_readShown_63 ?_
      refine q_putI hA f_X5_88 dX5_readShown_64 (strS isS4) (by decide) ?_
      show J _ _ _ (upD (upD (upD D 3 1 ((D 3 1) + 1)) 3 1 (((D 3 1) + 1) + 1)) 4 7 p)
      refine q_aload_n (j := 0) hA rfl dX5_readShown_67 ?_
      refine q_getR hA f_X5_12 dX5_readShown_68 sx_3 (by decide) fx_3_0 ?_
      refine q_iload_n (j := 3) hA rfl dX5_readShown_71 ?_
      refine q_putI hA f_X5_91 dX5_readShown_72 (strS isS4) (by decide) ?_
      show J _ _ _ (upD (upD (upD (upD D 3 1 ((D 3 1) + 1)) 3 1 (((D 3 1) + 1) + 1)) 4 7 p) 4 8 q)
      refine q_iconst hA dX5_readShown_75 ?_
      exact hR 76 _ _ _ dX5_readShown_76 (by omega) (by show RB _ _ _ _; rw [show pShown (tAt D) (rowX D 4) (D 3 1) = (true, ((rowX D 4).set 1 p).set 2 q, D 3 1 + 2) from by unfold pShown; rw [← ep, ← eq, xN, if_neg (fun z => z h11), xL (by omega), if_pos ⟨h41.2.1, h41.2.2⟩]]; exact RBmk (Or.inl ⟨rfl, rfl⟩) (by rw [rx_b, rx_f, frm.row (a := 3) (n := 1) (D := D) (by repeat (first | exact frm.rf | assumption | refine frm.up ?_ (by omega) | refine frm.cp ?_ (by omega))) (by omega)]) (by rw [upD_n (Or.inl (by omega)), upD_n (Or.inl (by omega)), upD_s]; omega) (by repeat (first | exact frm.rf | assumption | refine frm.up ?_ (by omega) | refine frm.cp ?_ (by omega))) hto (ho.shown (rowX_len _ _) (by omega) (by omega)) (by omega))
    · rw [upD_n (Or.inl (by omega)), upD_n (Or.inl (by omega))] at h41
      refine q_if_ne (tgt := 49) hA (by decide) dX5_readShown_44 (by decide) (fun h44 => absurd h44 (by decide)) (fun h44 => ?_)
      refine q_iconst hA dX5_readShown_47 ?_
      exact hR 48 _ _ _ dX5_readShown_48 (by omega) (by show RB _ _ _ _; rw [show pShown (tAt D) (rowX D 4) (D 3 1) = (false, rowX D 4, D 3 1 + 1) from by unfold pShown; rw [← ep, ← eq, xN, if_neg (fun z => z h11), xL (by omega), if_neg (fun z => h41 ⟨h11, z⟩)]]; exact RBmk (Or.inr ⟨rfl, rfl⟩) (frm.row (a := 3) (n := 1) (by repeat (first | exact frm.rf | assumption | refine frm.up ?_ (by omega) | refine frm.cp ?_ (by omega))) (by omega)) upD_s (by repeat (first | exact frm.rf | assumption | refine frm.up ?_ (by omega) | refine frm.cp ?_ (by omega))) hto ho (by omega))
  · refine q_if_ne (tgt := 19) hA (by decide) dX5_readShown_14 (by decide) (fun h14 => absurd h14 (by decide)) (fun h14 => ?_)
    refine q_iconst hA dX5_readShown_17 ?_
    exact hR 18 _ _ _ dX5_readShown_18 (by omega) (by show RB _ _ _ _; rw [show pShown (tAt D) (rowX D 4) (D 3 1) = (false, rowX D 4, D 3 1) from by unfold pShown; rw [← ep, xN, if_pos h11]]; exact RBmk (Or.inr ⟨rfl, rfl⟩) rfl rfl frm.rf hto ho (by omega))
set_option maxHeartbeats 4000000 in
set_option maxRecDepth 100000 in
theorem zX5_readFolds_L31 {g : Gm} {l : Launch} {D : Dat} (hrd : rdOk D) (hn3 : 3 ≤ D 4 6)   {J : JT} (hA : AX g l RX5 cX5_readFolds 4 5 J) (hR : ReZ cX5_readFolds (fun v D1 => RB D D1 v (pFolds (tAt D) (rowX D 4) (D 3 1))) J) : ∀ (fuel : Nat) (k : Int) (E : Dat), (0 ≤ k ∧ k ≤ D 4 6 - 3) → (rdOk E) → (frm 3 8 D E) → (E 4 6 = D 4 6) → (pFolds (tAt D) (rowX D 4) (D 3 1) = pFoldG (tAt D) (D 4 6 - 3 - k).toNat (decide (k = 0)) (rowX E 4) (E 3 1)) → D 4 6 - k < (fuel : Int) → J 31 [vR 3, vR 1, vI (D 4 6 - 3), vI k] [] E := by
  intro fuel
  induction fuel with
  | zero => intro k E hk hE hf hnE hv hMs; exact absurd hMs (by omega)
  | succ fuel ih =>
    intro k E hk hE hf hnE hv hMs
    have hn := hrd.2.1.n
    refine q_iload_n (j := 3) hA rfl dX5_readFolds_31 ?_
    refine q_iload_n (j := 2) hA rfl dX5_readFolds_32 ?_
    refine q_icmp_ge (tgt := 68) hA (by omega) (by omega) dX5_readFolds_33 (by decide) (fun h33 => ?_) (fun h33 => ?_)
    · refine q_iconst hA dX5_readFolds_68 ?_
      exact hR 69 _ _ _ dX5_readFolds_69 (by first | omega | (rcases q25.1 with ⟨-, e⟩ | ⟨-, e⟩ <;> omega)) (by show RB _ _ _ _; rw [hv, show D 4 6 - 3 - k = 0 by omega]; exact ⟨Or.inl ⟨rfl, rfl⟩, rfl, rfl, hf, hE⟩)
    · refine q_iload_n (j := 3) hA rfl dX5_readFolds_36 ?_
      refine q_if_le (tgt := 52) hA (by omega) dX5_readFolds_37 (by decide) (fun h37 => ?_) (fun h37 => ?_)
      · refine q_aload_n (j := 0) hA rfl dX5_readFolds_52 ?_
        refine q_aload_n (j := 1) hA rfl dX5_readFolds_53 ?_
        refine q_callVI (b := 3) (As := [vR 1]) (st := []) hA l_X5_70 kX5_readFold (zX5_readFold (by first | assumption | omega | rfl)) dX5_readFolds_54 rfl rfl sx_3 (by decide) rfl (Nat.le_of_ble_eq_true rfl) (by omega) (fun v54 D54 q54 => ?_)
        obtain ⟨hv54, hr54, hp54, hf54, ho54⟩ := q54
        first | rw [tAt_f (hf.tr hf44), hr44, hp44, sgn_r, sgn_p hb44] at hv54 hr54 hp54 | rw [tAt_f hf] at hv54 hr54 hp54
        rcases hv54 with ⟨hb54, rfl⟩ | ⟨hb54, rfl⟩
        · skip
          refine q_if_ne (tgt := 62) hA (by decide) dX5_readFolds_57 (by decide) (fun h57 => ?_) (fun h57 => absurd h57 (by decide))
          refine q_iinc (j := 3) (lo2 := [vR 3, vR 1, vI (D 4 6 - 3), vI (k + 1)]) hA dX5_readFolds_62 rfl (by decide) rfl rfl ?_
          refine q_goto (tgt := 31) hA dX5_readFolds_65 (by decide) ?_
          exact ih _ _ (by omega) (by exact ho54) (by first | exact (hf.tr hf44).tr hf54 | exact hf.tr hf54) (by rw [← xN D54 4, hr54, pFold_n (rowX_len _ _), xN]; exact hnE) (by first | rw [hv, pFoldG_1 (by omega) (by omega), pb_t hb44, sgn_r, sgn_p hb44, pb_t hb54, ← hr54, ← hp54] | rw [hv, pFoldG_0 (by omega) (by omega), pb_t hb54, ← hr54, ← hp54]) (by omega)
        · skip
          refine q_if_ne (tgt := 62) hA (by decide) dX5_readFolds_57 (by decide) (fun h57 => absurd h57 (by decide)) (fun h57 => ?_)
          refine q_iconst hA dX5_readFolds_60 ?_
          exact hR 61 _ _ _ dX5_readFolds_61 (by first | omega | (rcases q25.1 with ⟨-, e⟩ | ⟨-, e⟩ <;> omega)) (by show RB _ _ _ _; first | (rw [hv, pFoldG_1 (by omega) (by omega), pb_t hb44, sgn_r, sgn_p hb44, pb_f hb54]; exact ⟨Or.inr ⟨hb54, rfl⟩, hr54, hp54, (hf.tr hf44).tr hf54, ho54⟩) | (rw [hv, pFoldG_0 (by omega) (by omega), pb_f hb54]; exact ⟨Or.inr ⟨hb54, rfl⟩, hr54, hp54, hf.tr hf54, ho54⟩))
      · refine q_aload_n (j := 0) hA rfl dX5_readFolds_40 ?_
        refine q_aload_n (j := 1) hA rfl dX5_readFolds_41 ?_
        refine q_bipush hA (by decide) dX5_readFolds_42 ?_
        refine q_callVI (b := 3) (As := [vR 1, vI 44]) (st := []) hA l_X5_25 kX5_readSign (zX5_readSign (by first | assumption | omega | rfl) (by first | assumption | omega | rfl)) dX5_readFolds_44 rfl rfl sx_3 (by decide) rfl (Nat.le_of_ble_eq_true rfl) (by omega) (fun v44 D44 q44 => ?_)
        obtain ⟨hv44, hr44, hp44, hf44, ho44⟩ := q44
        rw [tAt_f hf] at hv44 hr44 hp44
        rcases hv44 with ⟨hb44, rfl⟩ | ⟨hb44, rfl⟩
        · skip
          refine q_if_ne (tgt := 52) hA (by decide) dX5_readFolds_47 (by decide) (fun h47 => ?_) (fun h47 => absurd h47 (by decide))
          refine q_aload_n (j := 0) hA rfl dX5_readFolds_52 ?_
          refine q_aload_n (j := 1) hA rfl dX5_readFolds_53 ?_
          refine q_callVI (b := 3) (As := [vR 1]) (st := []) hA l_X5_70 kX5_readFold (zX5_readFold (by first | assumption | omega | rfl)) dX5_readFolds_54 rfl rfl sx_3 (by decide) rfl (Nat.le_of_ble_eq_true rfl) (by omega) (fun v54 D54 q54 => ?_)
          obtain ⟨hv54, hr54, hp54, hf54, ho54⟩ := q54
          first | rw [tAt_f (hf.tr hf44), hr44, hp44, sgn_r, sgn_p hb44] at hv54 hr54 hp54 | rw [tAt_f hf] at hv54 hr54 hp54
          rcases hv54 with ⟨hb54, rfl⟩ | ⟨hb54, rfl⟩
          · skip
            refine q_if_ne (tgt := 62) hA (by decide) dX5_readFolds_57 (by decide) (fun h57 => ?_) (fun h57 => absurd h57 (by decide))
            refine q_iinc (j := 3) (lo2 := [vR 3, vR 1, vI (D 4 6 - 3), vI (k + 1)]) hA dX5_readFolds_62 rfl (by decide) rfl rfl ?_
            refine q_goto (tgt := 31) hA dX5_readFolds_65 (by decide) ?_
            exact ih _ _ (by omega) (by exact ho54) (by first | exact (hf.tr hf44).tr hf54 | exact hf.tr hf54) (by rw [← xN D54 4, hr54, pFold_n (rowX_len _ _), xN]; exact hnE) (by first | rw [hv, pFoldG_1 (by omega) (by omega), pb_t hb44, sgn_r, sgn_p hb44, pb_t hb54, ← hr54, ← hp54] | rw [hv, pFoldG_0 (by omega) (by omega), pb_t hb54, ← hr54, ← hp54]) (by omega)
          · skip
            refine q_if_ne (tgt := 62) hA (by decide) dX5_readFolds_57 (by decide) (fun h57 => absurd h57 (by decide)) (fun h57 => ?_)
            refine q_iconst hA dX5_readFolds_60 ?_
            exact hR 61 _ _ _ dX5_readFolds_61 (by first | omega | (rcases q25.1 with ⟨-, e⟩ | ⟨-, e⟩ <;> omega)) (by show RB _ _ _ _; first | (rw [hv, pFoldG_1 (by omega) (by omega), pb_t hb44, sgn_r, sgn_p hb44, pb_f hb54]; exact ⟨Or.inr ⟨hb54, rfl⟩, hr54, hp54, (hf.tr hf44).tr hf54, ho54⟩) | (rw [hv, pFoldG_0 (by omega) (by omega), pb_f hb54]; exact ⟨Or.inr ⟨hb54, rfl⟩, hr54, hp54, hf.tr hf54, ho54⟩))
        · skip
          refine q_if_ne (tgt := 52) hA (by decide) dX5_readFolds_47 (by decide) (fun h47 => absurd h47 (by decide)) (fun h47 => ?_)
          refine q_iconst hA dX5_readFolds_50 ?_
          exact hR 51 _ _ _ dX5_readFolds_51 (by first | omega | (rcases q25.1 with ⟨-, e⟩ | ⟨-, e⟩ <;> omega)) (by show RB _ _ _ _; rw [hv, pFoldG_1 (by omega) (by omega), pb_f hb44]; exact ⟨Or.inr ⟨hb44, rfl⟩, hr44, hp44, hf.tr hf44, ho44⟩)
set_option maxHeartbeats 4000000 in
set_option maxRecDepth 100000 in
theorem zX5_readFolds {g : Gm} {l : Launch} {D : Dat} (hrd : rdOk D) (hn3 : 3 ≤ D 4 6) : CrI g l 5 mX5_readFolds [vR 3, vR 1] D (fun v D1 => RB D D1 v (pFolds (tAt D) (rowX D 4) (D 3 1))) := by
  refine Cr.ofZ (lo0 := [vR 3, vR 1, vN, vN]) (by decide) (Nat.le_of_ble_eq_true rfl) rfl (fun J hA hR => ?_)
  have hrd0 := hrd
  obtain ⟨hto, ho, hp0, hp1⟩ := hrd0
  have hn := ho.n
  refine q_aload_n (j := 0) hA rfl dX5_readFolds_0 ?_
  refine q_getR hA f_X5_12 dX5_readFolds_1 sx_3 (by decide) fx_3_0 ?_
  refine q_callVV (b := 4) (As := []) (st := []) hA l_X5_67 kX7_layRing (zX7_layRing isS4 ho hn3) dX5_readFolds_4 rfl rfl (strS isS4) (by decide) rfl (Nat.le_of_ble_eq_true rfl) (by omega) (fun D4 q4 => ?_)
  have hf4 : frm 3 8 D D4 := fun c c1 => q4.2 c (by omega)
  have hp4 : D4 3 1 = D 3 1 := by rw [q4.2 3 (by omega)]
  have hn4 : D4 4 6 = D 4 6 := by rw [← xN D4 4, q4.1]; exact ringR_lo (rowX_len _ _) _ (by decide)
  have ho4 : rdOk D4 := ⟨tOk_f hf4 hto, (by unfold sOk; rw [q4.1]; exact ringR_ok ho (rowX_len _ _) (by rw [xN]; omega) _ (by rw [xN]; omega)), by omega, by omega⟩
  refine q_aload_n (j := 0) hA rfl dX5_readFolds_7 ?_
  refine q_getR hA f_X5_12 dX5_readFolds_8 sx_3 (by decide) fx_3_0 ?_
  refine q_getI (x := D 4 6) hA f_X5_51 dX5_readFolds_11 (strS isS4) (by decide) hn4 ?_
  refine q_iconst hA dX5_readFolds_14 ?_
  refine q_isub hA dX5_readFolds_15 ?_
  refine q_istore_n (j := 2) (lo2 := [vR 3, vR 1, vI ((D 4 6) - 3), vN]) hA dX5_readFolds_16 (by decide) rfl rfl ?_
  refine q_iload_n (j := 2) hA rfl dX5_readFolds_17 ?_
  refine q_if_ne (tgt := 29) hA (by omega) dX5_readFolds_18 (by decide) (fun h18 => ?_) (fun h18 => ?_)
  · refine q_iconst hA dX5_readFolds_29 ?_
    refine q_istore_n (j := 3) (lo2 := [vR 3, vR 1, vI ((D 4 6) - 3), vI 0]) hA dX5_readFolds_30 (by decide) rfl rfl ?_
    refine zX5_readFolds_L31 (D := D) hrd hn3  hA hR 1000 _ _ (by omega) (by exact ho4) (by exact hf4) (by exact hn4) (by unfold pFolds; rw [xN, if_neg (by omega), q4.1, hp4, Int.sub_zero]; rfl) (by omega)
  · refine q_aload_n (j := 0) hA rfl dX5_readFolds_21 ?_
    refine q_aload_n (j := 1) hA rfl dX5_readFolds_22 ?_
    refine q_bipush hA (by decide) dX5_readFolds_23 ?_
    refine q_callVI (b := 3) (As := [vR 1, vI 45]) (st := []) hA l_X5_25 kX5_readSign (zX5_readSign (by first | assumption | omega | rfl) (by first | assumption | omega | rfl)) dX5_readFolds_25 rfl rfl sx_3 (by decide) rfl (Nat.le_of_ble_eq_true rfl) (by omega) (fun v25 D25 q25 => ?_)
    exact hR 28 _ _ _ dX5_readFolds_28 (by first | omega | (rcases q25.1 with ⟨-, e⟩ | ⟨-, e⟩ <;> omega)) (by show RB _ _ _ _; unfold pFolds; rw [xN, if_pos (by omega), ← q4.1, ← hp4, ← tAt_f hf4]; exact RB.tr hf4 q25)
set_option maxHeartbeats 4000000 in
set_option maxRecDepth 100000 in
theorem zX5_readWhole {g : Gm} {l : Launch} {D : Dat} (hto : tOk D) (ho : sOk D 4) : CrI g l 6 mX5_readWhole [vR 3, vR 1] D (fun v D1 => RB D D1 v (pWhole (tAt D) (D 1 1) (rowX D 4))) := by
  refine Cr.ofZ (lo0 := [vR 3, vR 1]) (by decide) (Nat.le_of_ble_eq_true rfl) rfl (fun J hA hR => ?_)
  refine q_aload_n (j := 0) hA rfl dX5_readWhole_0 ?_
  refine q_getR hA f_X5_12 dX5_readWhole_1 sx_3 (by decide) fx_3_0 ?_
  refine q_callVV (b := 4) (As := []) (st := []) hA l_X5_18 kX7_reset (zX7_reset isS4) dX5_readWhole_4 rfl rfl (strS isS4) (by decide) rfl (Nat.le_of_ble_eq_true rfl) (by omega) (fun D4 q4 => ?_)
  have hf4 : frm 3 8 D D4 := fun c c1 => q4.2 c (by omega)
  refine q_aload_n (j := 0) hA rfl dX5_readWhole_7 ?_
  refine q_iconst hA dX5_readWhole_8 ?_
  refine q_putI hA f_X5_21 dX5_readWhole_9 sx_3 (by decide) ?_
  show J _ _ _ (upD D4 3 1 0)
  have hrd12 : rdOk (upD D4 3 1 0) := ⟨tOk_f (hf4.up (by omega)) hto, (by unfold sOk; rw [frm.row (a := 3) (n := 1) (D := D4) (frm.rf.up (by omega)) (by omega), q4.1]; exact ho.reset (rowX_len _ _)), (by rw [upD_s]; omega), (by rw [upD_s]; omega)⟩
  refine q_aload_n (j := 0) hA rfl dX5_readWhole_12 ?_
  refine q_aload_n (j := 1) hA rfl dX5_readWhole_13 ?_
  refine q_bipush hA (by decide) dX5_readWhole_14 ?_
  refine q_callVI (b := 3) (As := [vR 1, vI 120]) (st := []) hA l_X5_25 kX5_readSign (zX5_readSign (by first | assumption | omega | rfl) (by first | assumption | omega | rfl)) dX5_readWhole_16 rfl rfl sx_3 (by decide) rfl (Nat.le_of_ble_eq_true rfl) (by omega) (fun v16 D16 q16 => ?_)
  obtain ⟨hv16, hr16, hp16, hf16, ho16⟩ := q16
  rw [upD_s, frm.row (a := 3) (n := 1) (D := D4) (frm.rf.up (by omega)) (by omega), q4.1, tAt_f (D := D) (hf4.up (by omega))] at hv16 hr16 hp16
  have hF16 := (show frm 3 8 D _ from hf4.up (by omega)).tr hf16
  rcases hv16 with ⟨hb16, rfl⟩ | ⟨hb16, rfl⟩
  · skip
    refine q_if_eq (tgt := 81) hA (by decide) dX5_readWhole_19 (by decide) (fun h19 => absurd h19 (by decide)) (fun h19 => ?_)
    have hn16 : D16 4 6 = 0 := by rw [← xN D16 4, hr16, sgn_r]; unfold rN; rw [rg_reset (rowX_len _ _) (by decide), if_pos (by decide)]
    refine q_aload_n (j := 0) hA rfl dX5_readWhole_22 ?_
    refine q_aload_n (j := 1) hA rfl dX5_readWhole_23 ?_
    refine q_callVI (b := 3) (As := [vR 1]) (st := []) hA l_X5_29 kX5_readPictures (zX5_readPictures (by first | assumption | omega | rfl) (by first | assumption | omega | rfl)) dX5_readWhole_24 rfl rfl sx_3 (by decide) rfl (Nat.le_of_ble_eq_true rfl) (by omega) (fun v24 D24 q24 => ?_)
    obtain ⟨hv24, hr24, hp24, hf24, ho24⟩ := q24
    rw [tAt_f (hF16), hr16, hp16] at hv24 hr24 hp24
    have hF24 := (hF16).tr hf24
    rcases hv24 with ⟨hb24, rfl⟩ | ⟨hb24, rfl⟩
    · skip
      refine q_if_eq (tgt := 81) hA (by decide) dX5_readWhole_27 (by decide) (fun h27 => absurd h27 (by decide)) (fun h27 => ?_)
      refine q_aload_n (j := 0) hA rfl dX5_readWhole_30 ?_
      refine q_aload_n (j := 1) hA rfl dX5_readWhole_31 ?_
      refine q_bipush hA (by decide) dX5_readWhole_32 ?_
      refine q_callVI (b := 3) (As := [vR 1, vI 59]) (st := []) hA l_X5_25 kX5_readSign (zX5_readSign (by first | assumption | omega | rfl) (by first | assumption | omega | rfl)) dX5_readWhole_34 rfl rfl sx_3 (by decide) rfl (Nat.le_of_ble_eq_true rfl) (by omega) (fun v34 D34 q34 => ?_)
      obtain ⟨hv34, hr34, hp34, hf34, ho34⟩ := q34
      rw [tAt_f (hF24), hr24, hp24] at hv34 hr34 hp34
      have hF34 := (hF24).tr hf34
      rcases hv34 with ⟨hb34, rfl⟩ | ⟨hb34, rfl⟩
      · skip
        refine q_if_eq (tgt := 81) hA (by decide) dX5_readWhole_37 (by decide) (fun h37 => absurd h37 (by decide)) (fun h37 => ?_)
        have hn34 : 3 ≤ D34 4 6 := by rw [← xN D34 4, hr34, sgn_r]; exact pPics_n hb24
        refine q_aload_n (j := 0) hA rfl dX5_readWhole_40 ?_
        refine q_aload_n (j := 1) hA rfl dX5_readWhole_41 ?_
        refine q_callVI (b := 3) (As := [vR 1]) (st := []) hA l_X5_33 kX5_readFolds (zX5_readFolds (by first | assumption | omega | rfl) (by first | assumption | omega | rfl)) dX5_readWhole_42 rfl rfl sx_3 (by decide) rfl (Nat.le_of_ble_eq_true rfl) (by omega) (fun v42 D42 q42 => ?_)
        obtain ⟨hv42, hr42, hp42, hf42, ho42⟩ := q42
        rw [tAt_f (hF34), hr34, hp34] at hv42 hr42 hp42
        have hF42 := (hF34).tr hf42
        rcases hv42 with ⟨hb42, rfl⟩ | ⟨hb42, rfl⟩
        · skip
          refine q_if_eq (tgt := 81) hA (by decide) dX5_readWhole_45 (by decide) (fun h45 => absurd h45 (by decide)) (fun h45 => ?_)
          refine q_aload_n (j := 0) hA rfl dX5_readWhole_48 ?_
          refine q_aload_n (j := 1) hA rfl dX5_readWhole_49 ?_
          refine q_bipush hA (by decide) dX5_readWhole_50 ?_
          refine q_callVI (b := 3) (As := [vR 1, vI 59]) (st := []) hA l_X5_25 kX5_readSign (zX5_readSign (by first | assumption | omega | rfl) (by first | assumption | omega | rfl)) dX5_readWhole_52 rfl rfl sx_3 (by decide) rfl (Nat.le_of_ble_eq_true rfl) (by omega) (fun v52 D52 q52 => ?_)
          obtain ⟨hv52, hr52, hp52, hf52, ho52⟩ := q52
          rw [tAt_f (hF42), hr42, hp42] at hv52 hr52 hp52
          have hF52 := (hF42).tr hf52
          rcases hv52 with ⟨hb52, rfl⟩ | ⟨hb52, rfl⟩
          · skip
            refine q_if_eq (tgt := 81) hA (by decide) dX5_readWhole_55 (by decide) (fun h55 => absurd h55 (by decide)) (fun h55 => ?_)
            refine q_aload_n (j := 0) hA rfl dX5_readWhole_58 ?_
            refine q_aload_n (j := 1) hA rfl dX5_readWhole_59 ?_
            refine q_callVI (b := 3) (As := [vR 1]) (st := []) hA l_X5_36 kX5_readShown (zX5_readShown (by first | assumption | omega | rfl)) dX5_readWhole_60 rfl rfl sx_3 (by decide) rfl (Nat.le_of_ble_eq_true rfl) (by omega) (fun v60 D60 q60 => ?_)
            obtain ⟨hv60, hr60, hp60, hf60, ho60⟩ := q60
            rw [tAt_f (hF52), hr52, hp52] at hv60 hr60 hp60
            have hF60 := (hF52).tr hf60
            rcases hv60 with ⟨hb60, rfl⟩ | ⟨hb60, rfl⟩
            · skip
              refine q_if_eq (tgt := 81) hA (by decide) dX5_readWhole_63 (by decide) (fun h63 => absurd h63 (by decide)) (fun h63 => ?_)
              have hlen := hto.2.1
              have hlen0 := hto.1
              have hpr := ho60.2.2
              have hl60 : D60 1 1 = D 1 1 := by rw [hF60 1 (by omega)]
              refine q_aload_n (j := 0) hA rfl dX5_readWhole_66 ?_
              refine q_getI (x := D60 3 1) hA f_X5_21 dX5_readWhole_67 sx_3 (by decide) rfl ?_
              refine q_aload_n (j := 1) hA rfl dX5_readWhole_70 ?_
              refine q_getI (x := D 1 1) hA f_X5_39 dX5_readWhole_71 sx_1 (by decide) hl60 ?_
              refine q_icmp_ne (tgt := 81) hA (by omega) (by omega) dX5_readWhole_74 (by decide) (fun h74 => ?_) (fun h74 => ?_)
              · refine q_iconst hA dX5_readWhole_81 ?_
                exact hR 82 _ _ _ dX5_readWhole_82 (by omega) (by show RB _ _ _ _; first | (unfold pWhole; rw [pb_f hb16]; exact ⟨Or.inr ⟨hb16, rfl⟩, hr16, hp16, hF16, ho16⟩) | (unfold pWhole; rw [pb_t hb16, pb_f hb24]; exact ⟨Or.inr ⟨hb24, rfl⟩, hr24, hp24, hF24, ho24⟩) | (unfold pWhole; rw [pb_t hb16, pb_t hb24, pb_f hb34]; exact ⟨Or.inr ⟨hb34, rfl⟩, hr34, hp34, hF34, ho34⟩) | (unfold pWhole; rw [pb_t hb16, pb_t hb24, pb_t hb34, pb_f hb42]; exact ⟨Or.inr ⟨hb42, rfl⟩, hr42, hp42, hF42, ho42⟩) | (unfold pWhole; rw [pb_t hb16, pb_t hb24, pb_t hb34, pb_t hb42, pb_f hb52]; exact ⟨Or.inr ⟨hb52, rfl⟩, hr52, hp52, hF52, ho52⟩) | (unfold pWhole; rw [pb_t hb16, pb_t hb24, pb_t hb34, pb_t hb42, pb_t hb52, pb_f hb60]; exact ⟨Or.inr ⟨hb60, rfl⟩, hr60, hp60, hF60, ho60⟩) | (unfold pWhole; rw [pb_t hb16, pb_t hb24, pb_t hb34, pb_t hb42, pb_t hb52, pb_t hb60]; exact ⟨by first | exact Or.inl ⟨decide_eq_true (by rw [← hp60]; omega), rfl⟩ | exact Or.inr ⟨decide_eq_false (by rw [← hp60]; omega), rfl⟩, hr60, hp60, hF60, ho60⟩))
              · refine q_iconst hA dX5_readWhole_77 ?_
                refine q_goto (tgt := 82) hA dX5_readWhole_78 (by decide) ?_
                exact hR 82 _ _ _ dX5_readWhole_82 (by omega) (by show RB _ _ _ _; first | (unfold pWhole; rw [pb_f hb16]; exact ⟨Or.inr ⟨hb16, rfl⟩, hr16, hp16, hF16, ho16⟩) | (unfold pWhole; rw [pb_t hb16, pb_f hb24]; exact ⟨Or.inr ⟨hb24, rfl⟩, hr24, hp24, hF24, ho24⟩) | (unfold pWhole; rw [pb_t hb16, pb_t hb24, pb_f hb34]; exact ⟨Or.inr ⟨hb34, rfl⟩, hr34, hp34, hF34, ho34⟩) | (unfold pWhole; rw [pb_t hb16, pb_t hb24, pb_t hb34, pb_f hb42]; exact ⟨Or.inr ⟨hb42, rfl⟩, hr42, hp42, hF42, ho42⟩) | (unfold pWhole; rw [pb_t hb16, pb_t hb24, pb_t hb34, pb_t hb42, pb_f hb52]; exact ⟨Or.inr ⟨hb52, rfl⟩, hr52, hp52, hF52, ho52⟩) | (unfold pWhole; rw [pb_t hb16, pb_t hb24, pb_t hb34, pb_t hb42, pb_t hb52, pb_f hb60]; exact ⟨Or.inr ⟨hb60, rfl⟩, hr60, hp60, hF60, ho60⟩) | (unfold pWhole; rw [pb_t hb16, pb_t hb24, pb_t hb34, pb_t hb42, pb_t hb52, pb_t hb60]; exact ⟨by first | exact Or.inl ⟨decide_eq_true (by rw [← hp60]; omega), rfl⟩ | exact Or.inr ⟨decide_eq_false (by rw [← hp60]; omega), rfl⟩, hr60, hp60, hF60, ho60⟩))
            · skip
              refine q_if_eq (tgt := 81) hA (by decide) dX5_readWhole_63 (by decide) (fun h63 => ?_) (fun h63 => absurd h63 (by decide))
              refine q_iconst hA dX5_readWhole_81 ?_
              exact hR 82 _ _ _ dX5_readWhole_82 (by omega) (by show RB _ _ _ _; first | (unfold pWhole; rw [pb_f hb16]; exact ⟨Or.inr ⟨hb16, rfl⟩, hr16, hp16, hF16, ho16⟩) | (unfold pWhole; rw [pb_t hb16, pb_f hb24]; exact ⟨Or.inr ⟨hb24, rfl⟩, hr24, hp24, hF24, ho24⟩) | (unfold pWhole; rw [pb_t hb16, pb_t hb24, pb_f hb34]; exact ⟨Or.inr ⟨hb34, rfl⟩, hr34, hp34, hF34, ho34⟩) | (unfold pWhole; rw [pb_t hb16, pb_t hb24, pb_t hb34, pb_f hb42]; exact ⟨Or.inr ⟨hb42, rfl⟩, hr42, hp42, hF42, ho42⟩) | (unfold pWhole; rw [pb_t hb16, pb_t hb24, pb_t hb34, pb_t hb42, pb_f hb52]; exact ⟨Or.inr ⟨hb52, rfl⟩, hr52, hp52, hF52, ho52⟩) | (unfold pWhole; rw [pb_t hb16, pb_t hb24, pb_t hb34, pb_t hb42, pb_t hb52, pb_f hb60]; exact ⟨Or.inr ⟨hb60, rfl⟩, hr60, hp60, hF60, ho60⟩) | (unfold pWhole; rw [pb_t hb16, pb_t hb24, pb_t hb34, pb_t hb42, pb_t hb52, pb_t hb60]; exact ⟨by first | exact Or.inl ⟨decide_eq_true (by rw [← hp60]; omega), rfl⟩ | exact Or.inr ⟨decide_eq_false (by rw [← hp60]; omega), rfl⟩, hr60, hp60, hF60, ho60⟩))
          · skip
            refine q_if_eq (tgt := 81) hA (by decide) dX5_readWhole_55 (by decide) (fun h55 => ?_) (fun h55 => absurd h55 (by decide))
            refine q_iconst hA dX5_readWhole_81 ?_
            exact hR 82 _ _ _ dX5_readWhole_82 (by omega) (by show RB _ _ _ _; first | (unfold pWhole; rw [pb_f hb16]; exact ⟨Or.inr ⟨hb16, rfl⟩, hr16, hp16, hF16, ho16⟩) | (unfold pWhole; rw [pb_t hb16, pb_f hb24]; exact ⟨Or.inr ⟨hb24, rfl⟩, hr24, hp24, hF24, ho24⟩) | (unfold pWhole; rw [pb_t hb16, pb_t hb24, pb_f hb34]; exact ⟨Or.inr ⟨hb34, rfl⟩, hr34, hp34, hF34, ho34⟩) | (unfold pWhole; rw [pb_t hb16, pb_t hb24, pb_t hb34, pb_f hb42]; exact ⟨Or.inr ⟨hb42, rfl⟩, hr42, hp42, hF42, ho42⟩) | (unfold pWhole; rw [pb_t hb16, pb_t hb24, pb_t hb34, pb_t hb42, pb_f hb52]; exact ⟨Or.inr ⟨hb52, rfl⟩, hr52, hp52, hF52, ho52⟩) | (unfold pWhole; rw [pb_t hb16, pb_t hb24, pb_t hb34, pb_t hb42, pb_t hb52, pb_f hb60]; exact ⟨Or.inr ⟨hb60, rfl⟩, hr60, hp60, hF60, ho60⟩) | (unfold pWhole; rw [pb_t hb16, pb_t hb24, pb_t hb34, pb_t hb42, pb_t hb52, pb_t hb60]; exact ⟨by first | exact Or.inl ⟨decide_eq_true (by rw [← hp60]; omega), rfl⟩ | exact Or.inr ⟨decide_eq_false (by rw [← hp60]; omega), rfl⟩, hr60, hp60, hF60, ho60⟩))
        · skip
          refine q_if_eq (tgt := 81) hA (by decide) dX5_readWhole_45 (by decide) (fun h45 => ?_) (fun h45 => absurd h45 (by decide))
          refine q_iconst hA dX5_readWhole_81 ?_
          exact hR 82 _ _ _ dX5_readWhole_82 (by omega) (by show RB _ _ _ _; first | (unfold pWhole; rw [pb_f hb16]; exact ⟨Or.inr ⟨hb16, rfl⟩, hr16, hp16, hF16, ho16⟩) | (unfold pWhole; rw [pb_t hb16, pb_f hb24]; exact ⟨Or.inr ⟨hb24, rfl⟩, hr24, hp24, hF24, ho24⟩) | (unfold pWhole; rw [pb_t hb16, pb_t hb24, pb_f hb34]; exact ⟨Or.inr ⟨hb34, rfl⟩, hr34, hp34, hF34, ho34⟩) | (unfold pWhole; rw [pb_t hb16, pb_t hb24, pb_t hb34, pb_f hb42]; exact ⟨Or.inr ⟨hb42, rfl⟩, hr42, hp42, hF42, ho42⟩) | (unfold pWhole; rw [pb_t hb16, pb_t hb24, pb_t hb34, pb_t hb42, pb_f hb52]; exact ⟨Or.inr ⟨hb52, rfl⟩, hr52, hp52, hF52, ho52⟩) | (unfold pWhole; rw [pb_t hb16, pb_t hb24, pb_t hb34, pb_t hb42, pb_t hb52, pb_f hb60]; exact ⟨Or.inr ⟨hb60, rfl⟩, hr60, hp60, hF60, ho60⟩) | (unfold pWhole; rw [pb_t hb16, pb_t hb24, pb_t hb34, pb_t hb42, pb_t hb52, pb_t hb60]; exact ⟨by first | exact Or.inl ⟨decide_eq_true (by rw [← hp60]; omega), rfl⟩ | exact Or.inr ⟨decide_eq_false (by rw [← hp60]; omega), rfl⟩, hr60, hp60, hF60, ho60⟩))
      · skip
        refine q_if_eq (tgt := 81) hA (by decide) dX5_readWhole_37 (by decide) (fun h37 => ?_) (fun h37 => absurd h37 (by decide))
        refine q_iconst hA dX5_readWhole_81 ?_
        exact hR 82 _ _ _ dX5_readWhole_82 (by omega) (by show RB _ _ _ _; first | (unfold pWhole; rw [pb_f hb16]; exact ⟨Or.inr ⟨hb16, rfl⟩, hr16, hp16, hF16, ho16⟩) | (unfold pWhole; rw [pb_t hb16, pb_f hb24]; exact ⟨Or.inr ⟨hb24, rfl⟩, hr24, hp24, hF24, ho24⟩) | (unfold pWhole; rw [pb_t hb16, pb_t hb24, pb_f hb34]; exact ⟨Or.inr ⟨hb34, rfl⟩, hr34, hp34, hF34, ho34⟩) | (unfold pWhole; rw [pb_t hb16, pb_t hb24, pb_t hb34, pb_f hb42]; exact ⟨Or.inr ⟨hb42, rfl⟩, hr42, hp42, hF42, ho42⟩) | (unfold pWhole; rw [pb_t hb16, pb_t hb24, pb_t hb34, pb_t hb42, pb_f hb52]; exact ⟨Or.inr ⟨hb52, rfl⟩, hr52, hp52, hF52, ho52⟩) | (unfold pWhole; rw [pb_t hb16, pb_t hb24, pb_t hb34, pb_t hb42, pb_t hb52, pb_f hb60]; exact ⟨Or.inr ⟨hb60, rfl⟩, hr60, hp60, hF60, ho60⟩) | (unfold pWhole; rw [pb_t hb16, pb_t hb24, pb_t hb34, pb_t hb42, pb_t hb52, pb_t hb60]; exact ⟨by first | exact Or.inl ⟨decide_eq_true (by rw [← hp60]; omega), rfl⟩ | exact Or.inr ⟨decide_eq_false (by rw [← hp60]; omega), rfl⟩, hr60, hp60, hF60, ho60⟩))
    · skip
      refine q_if_eq (tgt := 81) hA (by decide) dX5_readWhole_27 (by decide) (fun h27 => ?_) (fun h27 => absurd h27 (by decide))
      refine q_iconst hA dX5_readWhole_81 ?_
      exact hR 82 _ _ _ dX5_readWhole_82 (by omega) (by show RB _ _ _ _; first | (unfold pWhole; rw [pb_f hb16]; exact ⟨Or.inr ⟨hb16, rfl⟩, hr16, hp16, hF16, ho16⟩) | (unfold pWhole; rw [pb_t hb16, pb_f hb24]; exact ⟨Or.inr ⟨hb24, rfl⟩, hr24, hp24, hF24, ho24⟩) | (unfold pWhole; rw [pb_t hb16, pb_t hb24, pb_f hb34]; exact ⟨Or.inr ⟨hb34, rfl⟩, hr34, hp34, hF34, ho34⟩) | (unfold pWhole; rw [pb_t hb16, pb_t hb24, pb_t hb34, pb_f hb42]; exact ⟨Or.inr ⟨hb42, rfl⟩, hr42, hp42, hF42, ho42⟩) | (unfold pWhole; rw [pb_t hb16, pb_t hb24, pb_t hb34, pb_t hb42, pb_f hb52]; exact ⟨Or.inr ⟨hb52, rfl⟩, hr52, hp52, hF52, ho52⟩) | (unfold pWhole; rw [pb_t hb16, pb_t hb24, pb_t hb34, pb_t hb42, pb_t hb52, pb_f hb60]; exact ⟨Or.inr ⟨hb60, rfl⟩, hr60, hp60, hF60, ho60⟩) | (unfold pWhole; rw [pb_t hb16, pb_t hb24, pb_t hb34, pb_t hb42, pb_t hb52, pb_t hb60]; exact ⟨by first | exact Or.inl ⟨decide_eq_true (by rw [← hp60]; omega), rfl⟩ | exact Or.inr ⟨decide_eq_false (by rw [← hp60]; omega), rfl⟩, hr60, hp60, hF60, ho60⟩))
  · skip
    refine q_if_eq (tgt := 81) hA (by decide) dX5_readWhole_19 (by decide) (fun h19 => ?_) (fun h19 => absurd h19 (by decide))
    refine q_iconst hA dX5_readWhole_81 ?_
    exact hR 82 _ _ _ dX5_readWhole_82 (by omega) (by show RB _ _ _ _; first | (unfold pWhole; rw [pb_f hb16]; exact ⟨Or.inr ⟨hb16, rfl⟩, hr16, hp16, hF16, ho16⟩) | (unfold pWhole; rw [pb_t hb16, pb_f hb24]; exact ⟨Or.inr ⟨hb24, rfl⟩, hr24, hp24, hF24, ho24⟩) | (unfold pWhole; rw [pb_t hb16, pb_t hb24, pb_f hb34]; exact ⟨Or.inr ⟨hb34, rfl⟩, hr34, hp34, hF34, ho34⟩) | (unfold pWhole; rw [pb_t hb16, pb_t hb24, pb_t hb34, pb_f hb42]; exact ⟨Or.inr ⟨hb42, rfl⟩, hr42, hp42, hF42, ho42⟩) | (unfold pWhole; rw [pb_t hb16, pb_t hb24, pb_t hb34, pb_t hb42, pb_f hb52]; exact ⟨Or.inr ⟨hb52, rfl⟩, hr52, hp52, hF52, ho52⟩) | (unfold pWhole; rw [pb_t hb16, pb_t hb24, pb_t hb34, pb_t hb42, pb_t hb52, pb_f hb60]; exact ⟨Or.inr ⟨hb60, rfl⟩, hr60, hp60, hF60, ho60⟩) | (unfold pWhole; rw [pb_t hb16, pb_t hb24, pb_t hb34, pb_t hb42, pb_t hb52, pb_t hb60]; exact ⟨by first | exact Or.inl ⟨decide_eq_true (by rw [← hp60]; omega), rfl⟩ | exact Or.inr ⟨decide_eq_false (by rw [← hp60]; omega), rfl⟩, hr60, hp60, hF60, ho60⟩))
