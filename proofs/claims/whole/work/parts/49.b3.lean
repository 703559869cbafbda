set_option maxHeartbeats 4000000 in
set_option maxRecDepth 100000 in
theorem zX0_choose_L12 {g : Gm} {l : Launch} {D : Dat} {n bn : Nat} {L : LL} {f : Int → Int} {o m fr b k : Int} {e : Nat} (he : 4 ≤ e) (hn8 : 3 ≤ n ∧ n ≤ 8) (hk : 0 ≤ k ∧ k ≤ 5) (hfr : 0 ≤ fr ∧ fr ≤ ((prsN n).length : Int)) (hb : b = (bn : Int)) (hbn : bn < 1048576) (hm : mrow (rowX D 248) n L) (hmn : 0 ≤ m ∧ m ≤ 8) (hcx : CXp D n f o m) (hwh : whB f (n : Int) o m.toNat = true) (ih0 : ∀ (E : Dat) (fr b : Int) (bn : Nat) (L : LL), 1 ≤ k → 0 ≤ fr → fr ≤ ((prsN n).length : Int) → b = (bn : Int) → bn < 1048576 → mrow (rowX E 248) n L → CXp E n f o m → CrV g l e mX0_choose [vR 247, vI fr, vI b, vI (k - 1)] E (fun D1 => mrow (rowX D1 248) n (chN n (rgX fr.toNat (prsN n).length) (k - 1).toNat bn L).2 ∧ accQ f o m (n : Int) E D1 (chN n (rgX fr.toNat (prsN n).length) (k - 1).toNat bn L).1 ∧ fr1 E D1))  (hk1 : 1 ≤ k) {J : JT} (hA : AX g l RX0 cX0_choose 5 (e + 1) J) (hR : ReV cX0_choose (fun D1 => mrow (rowX D1 248) n (chN n (rgX fr.toNat (prsN n).length) k.toNat bn L).2 ∧ accQ f o m (n : Int) D D1 (chN n (rgX fr.toNat (prsN n).length) k.toNat bn L).1 ∧ fr1 D D1) J) : ∀ (fuel : Nat) (pr : Int) (L2 : LL) (A : List LL) (E : Dat), (0 ≤ pr ∧ pr ≤ ((prsN n).length : Int)) → (mrow (rowX E 248) n L2) → (accQ f o m (n : Int) D E A) → (fr1 D E) → ((chN n (rgX fr.toNat (prsN n).length) k.toNat bn L) = (A ++ (chN n (rgX pr.toNat (prsN n).length) k.toNat bn L2).1, (chN n (rgX pr.toNat (prsN n).length) k.toNat bn L2).2)) → ((prsN n).length : Int) - pr < (fuel : Int) → J 12 [vR 247, vI fr, vI b, vI k, vI pr] [] E := by
  intro fuel
  induction fuel with
  | zero => intro pr L2 A E hpr hm2 hac hf hres hMs; exact absurd hMs (by omega)
  | succ fuel ih =>
    intro pr L2 A E hpr hm2 hac hf hres hMs
    have hple := prs_le (n := n) (by omega)
    have hcE := hcx.c hf
    have oE : sOk E 248 := hm2.2.1
    have nE : E 248 6 = (n : Int) := by rw [← xN E 248]; exact hm2.2.2.1
    refine q_iload (j := 4) hA rfl dX0_choose_12 ?_
    refine q_aload_n (j := 0) hA rfl dX0_choose_14 ?_
    refine q_getI (x := ((prsN n).length : Int)) hA f_X0_85 dX0_choose_15 sx_247 (by decide) hcE.2.1 ?_
    refine q_icmp_ge (tgt := 105) hA (by omega) (by omega) dX0_choose_18 (by decide) (fun h18 => ?_) (fun h18 => ?_)
    · exact hR 105 _ _ dX0_choose_105 (by rw [rgX_e (x := pr.toNat) (by omega), chN_e (by omega), List.append_nil] at hres; rw [hres]; exact ⟨hm2, hac, hf⟩)
    · refine q_iload (j := 4) hA rfl dX0_choose_21 ?_
      refine q_bipush hA (by decide) dX0_choose_23 ?_
      refine q_icmp_ge (tgt := 105) hA (by omega) (by omega) dX0_choose_25 (by decide) (fun h25 => absurd h25 (by omega)) (fun h25 => ?_)
      have hab := ab_lt (n := n) (i := pr.toNat) (by omega) (by omega)
      have prE := hcE.2.2.1 pr.toNat (by omega)
      rw [show ((pr.toNat : Nat) : Int) = pr by omega] at prE
      have htb : tb b pr = bn.testBit pr.toNat := by rw [hb, show pr = ((pr.toNat : Nat) : Int) by omega, tb_nat, Int.toNat_natCast]
      have hrs := rgX_s (x := pr.toNat) (P := (prsN n).length) (by omega)
      refine q_iload_n (j := 2) hA rfl dX0_choose_28 ?_
      refine q_iload (j := 4) hA rfl dX0_choose_29 ?_
      refine q_ishr hA dX0_choose_31 ?_
      refine q_iconst hA dX0_choose_32 ?_
      refine q_iand hA dX0_choose_33 ?_
      rw [show iAnd (iShr b pr) 1 = if tb b pr then 1 else 0 from bitT (by omega) (by omega)]
      refine q_if_ne (tgt := 99) hA (by split <;> omega) dX0_choose_34 (by decide) (fun h34 => ?_) (fun h34 => ?_)
      · try have hbt := bitne h34
        refine q_iinc (j := 4) (lo2 := [vR 247, vI fr, vI b, vI k, vI (pr + 1)]) hA dX0_choose_99 rfl (by decide) rfl rfl ?_
        refine q_goto (tgt := 12) hA dX0_choose_102 (by decide) ?_
        exact ih _ (if tb b pr = true then L2 else ptN (chN n (rgX (pr.toNat + 1) (prsN n).length) (k.toNat - 1) (bn ||| crN n pr.toNat) (jnN L2 (abN n pr.toNat).1 (abN n pr.toNat).2)).2 (abN n pr.toNat).1 (abN n pr.toNat).2) (if tb b pr = true then A else A ++ (chN n (rgX (pr.toNat + 1) (prsN n).length) (k.toNat - 1) (bn ||| crN n pr.toNat) (jnN L2 (abN n pr.toNat).1 (abN n pr.toNat).2)).1) _ (by omega) (by first | (rw [if_pos hbt]; exact hm2) | (rw [if_neg hbt]; exact hm96)) (by first | (rw [if_pos hbt]; exact hac) | (rw [if_neg hbt]; have h1 := ((hac.tr (acc_fr q55.2)).tr a75).tr (acc_fr q96.2); rw [List.append_nil, List.append_nil] at h1; exact h1)) (by first | exact hf | exact ((hf.tr f55).tr f75).tr f96) (by first | (rw [if_pos hbt, if_pos hbt, show (pr + 1).toNat = pr.toNat + 1 by omega, hres, hrs, chN_b (by omega) (by rw [← htb]; exact hbt)]) | (rw [if_neg hbt, if_neg hbt, show (pr + 1).toNat = pr.toNat + 1 by omega, hres, hrs, chN_s (by omega) (by rw [← htb]; cases q : tb b pr; rfl; exact absurd q hbt), List.append_assoc])) (by omega)
      · have hbt := bitez h34
        refine q_aload_n (j := 0) hA rfl dX0_choose_37 ?_
        refine q_getR hA f_X0_12 dX0_choose_38 sx_247 (by decide) fx_247_0 ?_
        refine q_aload_n (j := 0) hA rfl dX0_choose_41 ?_
        refine q_getR hA f_X0_18 dX0_choose_42 sx_247 (by decide) fx_247_1 ?_
        refine q_iload (j := 4) hA rfl dX0_choose_45 ?_
        refine q_iald (x := (((abN n pr.toNat).1 : Nat) : Int)) hA dX0_choose_47 sx_255 (by omega) (by decide) prE.1 ?_
        refine q_aload_n (j := 0) hA rfl dX0_choose_48 ?_
        refine q_getR hA f_X0_22 dX0_choose_49 sx_247 (by decide) fx_247_2 ?_
        refine q_iload (j := 4) hA rfl dX0_choose_52 ?_
        refine q_iald (x := (((abN n pr.toNat).2 : Nat) : Int)) hA dX0_choose_54 sx_256 (by omega) (by decide) prE.2 ?_
        refine q_callVV (b := 248) (As := [vI ((((abN n pr.toNat).1 : Nat) : Int)), vI ((((abN n pr.toNat).2 : Nat) : Int))]) (st := []) hA l_X0_101 kX7_join (zX7_join isS248 oE (by omega) (by omega)) dX0_choose_55 rfl rfl (strS isS248) (by decide) rfl (Nat.le_of_ble_eq_true rfl) (by omega) (fun D55 q55 => ?_)
        have hm55 : mrow (rowX D55 248) n (jnN L2 (abN n pr.toNat).1 (abN n pr.toNat).2) := by rw [q55.1]; exact mrow_jn hm2 (by omega) (by omega)
        have f55 := fr1.of q55.2
        have c55 := hcE.c f55
        have hcr : crN n pr.toNat < 1048576 := crP_lt n pr.toNat (prsN n).length (by omega)
        have e257 := c55.2.2.2 pr.toNat (by omega)
        rw [show ((pr.toNat : Nat) : Int) = pr by omega] at e257
        have hor : bn ||| crN n pr.toNat < 1048576 := Nat.or_lt_two_pow (n := 20) hbn hcr
        refine q_aload_n (j := 0) hA rfl dX0_choose_58 ?_
        refine q_iload (j := 4) hA rfl dX0_choose_59 ?_
        refine q_iconst hA dX0_choose_61 ?_
        refine q_iadd hA dX0_choose_62 ?_
        refine q_iload_n (j := 2) hA rfl dX0_choose_63 ?_
        refine q_aload_n (j := 0) hA rfl dX0_choose_64 ?_
        refine q_getR hA f_X0_25 dX0_choose_65 sx_247 (by decide) fx_247_3 ?_
        refine q_iload (j := 4) hA rfl dX0_choose_68 ?_
        refine q_iald (x := ((crN n pr.toNat : Nat) : Int)) hA dX0_choose_70 sx_257 (by omega) (by decide) e257 ?_
        refine q_ior hA dX0_choose_71 ?_
        rw [show iOr b (((crN n pr.toNat : Nat) : Int)) = ((bn ||| crN n pr.toNat : Nat) : Int) from (by rw [hb]; exact iOr_nat (k := 20) hbn hcr (by omega))]
        refine q_iload_n (j := 3) hA rfl dX0_choose_72 ?_
        refine q_iconst hA dX0_choose_73 ?_
        refine q_isub hA dX0_choose_74 ?_
        refine q_callVV (b := 247) (As := [vI (pr + 1), vI (((bn ||| crN n pr.toNat : Nat) : Int)), vI (k - 1)]) (st := []) hA l_X0_81 kX0_choose (ih0 D55 (pr + 1) _ (bn ||| crN n pr.toNat) _ (by omega) (by omega) (by omega) rfl hor hm55 c55) dX0_choose_75 rfl rfl sx_247 (by decide) rfl (Nat.le_of_ble_eq_true rfl) (by omega) (fun D75 q75 => ?_)
        rw [show (pr + 1).toNat = pr.toNat + 1 by omega, show (k - 1).toNat = k.toNat - 1 by omega] at q75
        obtain ⟨m75, a75, f75⟩ := q75
        have c75 := c55.c f75
        have o75 : sOk D75 248 := m75.2.1
        have n75 : D75 248 6 = (n : Int) := by rw [← xN D75 248]; exact m75.2.2.1
        have pr75 := c75.2.2.1 pr.toNat (by omega)
        rw [show ((pr.toNat : Nat) : Int) = pr by omega] at pr75
        refine q_aload_n (j := 0) hA rfl dX0_choose_78 ?_
        refine q_getR hA f_X0_12 dX0_choose_79 sx_247 (by decide) fx_247_0 ?_
        refine q_aload_n (j := 0) hA rfl dX0_choose_82 ?_
        refine q_getR hA f_X0_18 dX0_choose_83 sx_247 (by decide) fx_247_1 ?_
        refine q_iload (j := 4) hA rfl dX0_choose_86 ?_
        refine q_iald (x := (((abN n pr.toNat).1 : Nat) : Int)) hA dX0_choose_88 sx_255 (by omega) (by decide) pr75.1 ?_
        refine q_aload_n (j := 0) hA rfl dX0_choose_89 ?_
        refine q_getR hA f_X0_22 dX0_choose_90 sx_247 (by decide) fx_247_2 ?_
        refine q_iload (j := 4) hA rfl dX0_choose_93 ?_
        refine q_iald (x := (((abN n pr.toNat).2 : Nat) : Int)) hA dX0_choose_95 sx_256 (by omega) (by decide) pr75.2 ?_
        refine q_callVV (b := 248) (As := [vI ((((abN n pr.toNat).1 : Nat) : Int)), vI ((((abN n pr.toNat).2 : Nat) : Int))]) (st := []) hA l_X0_105 kX7_part (zX7_part isS248 o75 (by omega) (by omega)) dX0_choose_96 rfl rfl (strS isS248) (by decide) rfl (Nat.le_of_ble_eq_true rfl) (by omega) (fun D96 q96 => ?_)
        have hm96 : mrow (rowX D96 248) n (ptN (chN n (rgX (pr.toNat + 1) (prsN n).length) (k.toNat - 1) (bn ||| crN n pr.toNat) (jnN L2 (abN n pr.toNat).1 (abN n pr.toNat).2)).2 (abN n pr.toNat).1 (abN n pr.toNat).2) := by rw [q96.1]; exact mrow_pt m75 (by omega) (by omega)
        have f96 := fr1.of q96.2
        try have hbt := bitne h34
        refine q_iinc (j := 4) (lo2 := [vR 247, vI fr, vI b, vI k, vI (pr + 1)]) hA dX0_choose_99 rfl (by decide) rfl rfl ?_
        refine q_goto (tgt := 12) hA dX0_choose_102 (by decide) ?_
        exact ih _ (if tb b pr = true then L2 else ptN (chN n (rgX (pr.toNat + 1) (prsN n).length) (k.toNat - 1) (bn ||| crN n pr.toNat) (jnN L2 (abN n pr.toNat).1 (abN n pr.toNat).2)).2 (abN n pr.toNat).1 (abN n pr.toNat).2) (if tb b pr = true then A else A ++ (chN n (rgX (pr.toNat + 1) (prsN n).length) (k.toNat - 1) (bn ||| crN n pr.toNat) (jnN L2 (abN n pr.toNat).1 (abN n pr.toNat).2)).1) _ (by omega) (by first | (rw [if_pos hbt]; exact hm2) | (rw [if_neg hbt]; exact hm96)) (by first | (rw [if_pos hbt]; exact hac) | (rw [if_neg hbt]; have h1 := ((hac.tr (acc_fr q55.2)).tr a75).tr (acc_fr q96.2); rw [List.append_nil, List.append_nil] at h1; exact h1)) (by first | exact hf | exact ((hf.tr f55).tr f75).tr f96) (by first | (rw [if_pos hbt, if_pos hbt, show (pr + 1).toNat = pr.toNat + 1 by omega, hres, hrs, chN_b (by omega) (by rw [← htb]; exact hbt)]) | (rw [if_neg hbt, if_neg hbt, show (pr + 1).toNat = pr.toNat + 1 by omega, hres, hrs, chN_s (by omega) (by rw [← htb]; cases q : tb b pr; rfl; exact absurd q hbt), List.append_assoc])) (by omega)
set_option maxHeartbeats 4000000 in
set_option maxRecDepth 100000 in
theorem zX0_choose_step {g : Gm} {l : Launch} {D : Dat} {n bn : Nat} {L : LL} {f : Int → Int} {o m fr b k : Int} {e : Nat} (he : 4 ≤ e) (hn8 : 3 ≤ n ∧ n ≤ 8) (hk : 0 ≤ k ∧ k ≤ 5) (hfr : 0 ≤ fr ∧ fr ≤ ((prsN n).length : Int)) (hb : b = (bn : Int)) (hbn : bn < 1048576) (hm : mrow (rowX D 248) n L) (hmn : 0 ≤ m ∧ m ≤ 8) (hcx : CXp D n f o m) (hwh : whB f (n : Int) o m.toNat = true) (ih0 : ∀ (E : Dat) (fr b : Int) (bn : Nat) (L : LL), 1 ≤ k → 0 ≤ fr → fr ≤ ((prsN n).length : Int) → b = (bn : Int) → bn < 1048576 → mrow (rowX E 248) n L → CXp E n f o m → CrV g l e mX0_choose [vR 247, vI fr, vI b, vI (k - 1)] E (fun D1 => mrow (rowX D1 248) n (chN n (rgX fr.toNat (prsN n).length) (k - 1).toNat bn L).2 ∧ accQ f o m (n : Int) E D1 (chN n (rgX fr.toNat (prsN n).length) (k - 1).toNat bn L).1 ∧ fr1 E D1)) : CrV g l (e + 1) mX0_choose [vR 247, vI fr, vI b, vI k] D (fun D1 => mrow (rowX D1 248) n (chN n (rgX fr.toNat (prsN n).length) k.toNat bn L).2 ∧ accQ f o m (n : Int) D D1 (chN n (rgX fr.toNat (prsN n).length) k.toNat bn L).1 ∧ fr1 D D1) := by
  refine Cr.ofV (lo0 := [vR 247, vI fr, vI b, vI k, vN]) (by decide) (Nat.le_of_ble_eq_true rfl) rfl (fun J hA hR => ?_)
  have hple := prs_le (n := n) (by omega)
  refine q_iload_n (j := 3) hA rfl dX0_choose_0 ?_
  refine q_if_gt (tgt := 9) hA (by omega) dX0_choose_1 (by decide) (fun h1 => ?_) (fun h1 => ?_)
  · refine q_iload_n (j := 1) hA rfl dX0_choose_9 ?_
    refine q_istore (j := 4) (lo2 := [vR 247, vI fr, vI b, vI k, vI fr]) hA dX0_choose_10 (by decide) rfl rfl ?_
    refine zX0_choose_L12 (D := D) (n := n) (bn := bn) (L := L) (f := f) (o := o) (m := m) (fr := fr) (b := b) (k := k) (e := e) he hn8 hk hfr hb hbn hm hmn hcx hwh ih0 (by omega) hA hR 1000 _ L [] _ (by exact hfr) (by exact hm) (by exact accQ.z rfl rfl) (by exact fr1.rf) (by rfl) (by omega)
  · refine q_aload_n (j := 0) hA rfl dX0_choose_4 ?_
    refine q_callVV (b := 247) (As := []) (st := []) hA l_X0_98 kX0_weigh (zX0_weigh hn8 hm hmn hcx.1 hwh) dX0_choose_5 rfl rfl sx_247 (by decide) rfl (Nat.le_of_ble_eq_true rfl) (by omega) (fun D5 q5 => ?_)
    exact hR 8 _ _ dX0_choose_8 (by have ek : k.toNat = 0 := (by omega); rw [ek, chN_0]; refine ⟨?_, q5.1, fun c c1 c2 _ => q5.2.1 c c1 c2, q5.2.2⟩; have er : rowX D5 248 = rowX D 248 := (by unfold rowX; rw [q5.2.1 248 (by omega) (by omega), q5.2.1 (248 + 1) (by omega) (by omega), q5.2.1 (248 + 2) (by omega) (by omega), q5.2.1 (248 + 3) (by omega) (by omega), q5.2.1 (248 + 4) (by omega) (by omega), q5.2.1 (248 + 5) (by omega) (by omega), q5.2.1 (248 + 6) (by omega) (by omega)]); rw [er]; exact hm)
