set_option maxHeartbeats 4000000 in
set_option maxRecDepth 100000 in
theorem zX8_add {g : Gm} {l : Launch} {D : Dat} (hto : tOk D) {x : Int} : CrI g l 1 mX8_add [vR 1, vI x] D (fun v D1 => (80 ≤ D 1 1 ∧ v = -3 ∧ D1 = D) ∨ (D 1 1 < 80 ∧ v = D 1 1 + 1 ∧ D1 = upD (upD D 2 (D 1 1) x) 1 1 (D 1 1 + 1))) := by
  refine Cr.ofI (lo0 := [vR 1, vI x]) (by decide) (Nat.le_of_ble_eq_true rfl) rfl (fun J hA hR => ?_)
  have hl1 := hto.1
  have hl2 := hto.2.1
  refine q_aload_n (j := 0) hA rfl dX8_add_0 ?_
  refine q_getI (x := D 1 1) hA f_X8_15 dX8_add_1 sx_1 (by decide) rfl ?_
  refine q_bipush hA (by decide) dX8_add_4 ?_
  refine q_icmp_lt (tgt := 12) hA (by omega) (by omega) dX8_add_6 (by decide) (fun h6 => ?_) (fun h6 => ?_)
  · refine q_aload_n (j := 0) hA rfl dX8_add_12 ?_
    refine q_getR hA f_X8_11 dX8_add_13 sx_1 (by decide) fx_1_0 ?_
    refine q_aload_n (j := 0) hA rfl dX8_add_16 ?_
    refine q_getI (x := D 1 1) hA f_X8_15 dX8_add_17 sx_1 (by decide) rfl ?_
    refine q_iload_n (j := 1) hA rfl dX8_add_20 ?_
    refine q_iast hA dX8_add_21 sx_2 (by omega) (by decide) ?_
    refine q_aload_n (j := 0) hA rfl dX8_add_22 ?_
    refine q_dupR hA dX8_add_23 ?_
    refine q_getI (x := D 1 1) hA f_X8_15 dX8_add_24 sx_1 (by decide) ((upD_n (Or.inl (by omega))).trans (rfl)) ?_
    refine q_iconst hA dX8_add_27 ?_
    refine q_iadd hA dX8_add_28 ?_
    refine q_putI hA f_X8_15 dX8_add_29 sx_1 (by decide) ?_
    show J _ _ _ (upD (upD D 2 (D 1 1) x) 1 1 ((D 1 1) + 1))
    refine q_aload_n (j := 0) hA rfl dX8_add_32 ?_
    refine q_getI (x := (D 1 1) + 1) hA f_X8_15 dX8_add_33 sx_1 (by decide) ((upD_s).trans (rfl)) ?_
    exact hR 36 _ _ _ dX8_add_36 (by exact Or.inr ⟨by omega, rfl, rfl⟩)
  · refine q_bipush hA (by decide) dX8_add_9 ?_
    exact hR 11 _ _ _ dX8_add_11 (by exact Or.inl ⟨by omega, rfl, rfl⟩)
set_option maxHeartbeats 4000000 in
set_option maxRecDepth 100000 in
theorem zX8_at {g : Gm} {l : Launch} {D : Dat} (hto : tOk D) {p : Int} (rp : -2147483648 ≤ p ∧ p ≤ 2147483647) : CrP g l 1 mX8_at [vR 1, vI p] D (tAt D p) := by
  unfold CrP
  refine Cr.ofI (lo0 := [vR 1, vI p]) (by decide) (Nat.le_of_ble_eq_true rfl) rfl (fun J hA hR => ?_)
  have hl1 := hto.1
  have hl2 := hto.2.1
  refine q_iload_n (j := 1) hA rfl dX8_at_0 ?_
  refine q_if_lt (tgt := 27) hA (by omega) dX8_at_1 (by decide) (fun h1 => ?_) (fun h1 => ?_)
  · refine q_iconst hA dX8_at_27 ?_
    exact hR 28 _ _ _ dX8_at_28 ⟨(by first | omega | (unfold tAt; rw [if_pos (by omega)]; done) | (unfold tAt; rw [if_neg (by omega)])), rfl⟩
  · refine q_iload_n (j := 1) hA rfl dX8_at_4 ?_
    refine q_aload_n (j := 0) hA rfl dX8_at_5 ?_
    refine q_getI (x := D 1 1) hA f_X8_15 dX8_at_6 sx_1 (by decide) rfl ?_
    refine q_icmp_ge (tgt := 27) hA (by omega) (by omega) dX8_at_9 (by decide) (fun h9 => ?_) (fun h9 => ?_)
    · refine q_iconst hA dX8_at_27 ?_
      exact hR 28 _ _ _ dX8_at_28 ⟨(by first | omega | (unfold tAt; rw [if_pos (by omega)]; done) | (unfold tAt; rw [if_neg (by omega)])), rfl⟩
    · refine q_iload_n (j := 1) hA rfl dX8_at_12 ?_
      refine q_bipush hA (by decide) dX8_at_13 ?_
      refine q_icmp_ge (tgt := 27) hA (by omega) (by omega) dX8_at_15 (by decide) (fun h15 => ?_) (fun h15 => ?_)
      · refine q_iconst hA dX8_at_27 ?_
        exact hR 28 _ _ _ dX8_at_28 ⟨(by first | omega | (unfold tAt; rw [if_pos (by omega)]; done) | (unfold tAt; rw [if_neg (by omega)])), rfl⟩
      · refine q_aload_n (j := 0) hA rfl dX8_at_18 ?_
        refine q_getR hA f_X8_11 dX8_at_19 sx_1 (by decide) fx_1_0 ?_
        refine q_iload_n (j := 1) hA rfl dX8_at_22 ?_
        refine q_iald (x := D 2 p) hA dX8_at_23 sx_2 (by omega) (by decide) rfl ?_
        refine q_goto (tgt := 28) hA dX8_at_24 (by decide) ?_
        exact hR 28 _ _ _ dX8_at_28 ⟨(by first | omega | (unfold tAt; rw [if_pos (by omega)]; done) | (unfold tAt; rw [if_neg (by omega)])), rfl⟩
set_option maxHeartbeats 4000000 in
set_option maxRecDepth 100000 in
theorem zX8_empty {g : Gm} {l : Launch} {D : Dat} : CrV g l 1 mX8_empty [vR 1] D (fun D1 => D1 = upD D 1 1 0) := by
  refine Cr.ofV (lo0 := [vR 1]) (by decide) (Nat.le_of_ble_eq_true rfl) rfl (fun J hA hR => ?_)
  refine q_aload_n (j := 0) hA rfl dX8_empty_0 ?_
  refine q_iconst hA dX8_empty_1 ?_
  refine q_putI hA f_X8_15 dX8_empty_2 sx_1 (by decide) ?_
  show J _ _ _ (upD D 1 1 0)
  exact hR 5 _ _ dX8_empty_5 (by rfl)
set_option maxHeartbeats 4000000 in
set_option maxRecDepth 100000 in
theorem zX6_lay_L12 {g : Gm} {l : Launch} {D : Dat} {s : Nat} (hs : isSh s) {la : Int} {n : Int}   {J : JT} (hA : AX g l RX6 cX6_lay 4 1 J) (hR : ReV cX6_lay (fun D1 => D1 s 1 = la ∧ D1 s 2 = n ∧ (∀ i : Int, 0 ≤ i → i < 24 → D1 (s + 1) i = 0) ∧ frm s 2 D D1) J) : ∀ (fuel : Nat) (k : Int) (E : Dat), (0 ≤ k ∧ k ≤ 24) → (E s 1 = la ∧ E s 2 = n) → (∀ i : Int, 0 ≤ i → i < k → E (s + 1) i = 0) → (frm s 2 D E) → 24 - k < (fuel : Int) → J 12 [vR s, vI la, vI n, vI k] [] E := by
  intro fuel
  induction fuel with
  | zero => intro k E hk h1 hz hf hMs; exact absurd hMs (by omega)
  | succ fuel ih =>
    intro k E hk h1 hz hf hMs
    refine q_iload_n (j := 3) hA rfl dX6_lay_12 ?_
    refine q_bipush hA (by decide) dX6_lay_13 ?_
    refine q_icmp_ge (tgt := 31) hA (by omega) (by omega) dX6_lay_15 (by decide) (fun h15 => ?_) (fun h15 => ?_)
    · exact hR 31 _ _ dX6_lay_31 (by exact ⟨h1.1, h1.2, fun i i1 i2 => hz i i1 (by omega), hf⟩)
    · refine q_aload_n (j := 0) hA rfl dX6_lay_18 ?_
      refine q_getR hA f_X6_9 dX6_lay_19 (shS hs) (by decide) (shF hs) ?_
      refine q_iload_n (j := 3) hA rfl dX6_lay_22 ?_
      refine q_lconst hA dX6_lay_23 ?_
      show J _ _ (vL 0 :: _) _
      refine q_last hA dX6_lay_24 (shS1 hs) (by omega) (by decide) ?_
      refine q_iinc (j := 3) (lo2 := [vR s, vI la, vI n, vI (k + 1)]) hA dX6_lay_25 rfl (by decide) rfl rfl ?_
      refine q_goto (tgt := 12) hA dX6_lay_28 (by decide) ?_
      exact ih _ _ (by omega) (by exact ⟨(upD_n (Or.inl (by omega))).trans h1.1, (upD_n (Or.inl (by omega))).trans h1.2⟩) (by intro i i1 i2; by_cases hi : i = k; (subst hi; exact upD_s); (rw [upD_n (Or.inr hi)]; exact hz i i1 (by omega))) (by exact hf.up (by omega)) (by omega)
set_option maxHeartbeats 4000000 in
set_option maxRecDepth 100000 in
theorem zX6_lay {g : Gm} {l : Launch} {D : Dat} {s : Nat} (hs : isSh s) {la : Int} {n : Int} : CrV g l 1 mX6_lay [vR s, vI la, vI n] D (fun D1 => D1 s 1 = la ∧ D1 s 2 = n ∧ (∀ i : Int, 0 ≤ i → i < 24 → D1 (s + 1) i = 0) ∧ frm s 2 D D1) := by
  refine Cr.ofV (lo0 := [vR s, vI la, vI n, vN]) (by decide) (Nat.le_of_ble_eq_true rfl) rfl (fun J hA hR => ?_)
  refine q_aload_n (j := 0) hA rfl dX6_lay_0 ?_
  refine q_iload_n (j := 1) hA rfl dX6_lay_1 ?_
  refine q_putI hA f_X6_15 dX6_lay_2 (shS hs) (by decide) ?_
  show J _ _ _ (upD D s 1 la)
  refine q_aload_n (j := 0) hA rfl dX6_lay_5 ?_
  refine q_iload_n (j := 2) hA rfl dX6_lay_6 ?_
  refine q_putI hA f_X6_19 dX6_lay_7 (shS hs) (by decide) ?_
  show J _ _ _ (upD (upD D s 1 la) s 2 n)
  refine q_iconst hA dX6_lay_10 ?_
  refine q_istore_n (j := 3) (lo2 := [vR s, vI la, vI n, vI 0]) hA dX6_lay_11 (by decide) rfl rfl ?_
  refine zX6_lay_L12 (D := D) (s := s) (la := la) (n := n) hs  hA hR 1000 _ _ (by omega) (by exact ⟨(upD_n (Or.inr (by omega))).trans upD_s, upD_s⟩) (by intro i i1 i2; omega) (by repeat (first | exact frm.rf | assumption | refine frm.up ?_ (by omega) | refine frm.cp ?_ (by omega))) (by omega)
set_option maxHeartbeats 4000000 in
set_option maxRecDepth 100000 in
theorem zX6_clear {g : Gm} {l : Launch} {D : Dat} {s : Nat} (hs : isSh s) : CrV g l 1 mX6_clear [vR s] D (fun D1 => D1 = upD (upD D s 1 (-1)) s 2 0) := by
  refine Cr.ofV (lo0 := [vR s]) (by decide) (Nat.le_of_ble_eq_true rfl) rfl (fun J hA hR => ?_)
  refine q_aload_n (j := 0) hA rfl dX6_clear_0 ?_
  refine q_iconst hA dX6_clear_1 ?_
  refine q_putI hA f_X6_15 dX6_clear_2 (shS hs) (by decide) ?_
  show J _ _ _ (upD D s 1 (-1))
  refine q_aload_n (j := 0) hA rfl dX6_clear_5 ?_
  refine q_iconst hA dX6_clear_6 ?_
  refine q_putI hA f_X6_19 dX6_clear_7 (shS hs) (by decide) ?_
  show J _ _ _ (upD (upD D s 1 (-1)) s 2 0)
  exact hR 10 _ _ dX6_clear_10 (by rfl)
set_option maxHeartbeats 4000000 in
set_option maxRecDepth 100000 in
theorem zX6_isNothing {g : Gm} {l : Launch} {D : Dat} {s : Nat} (hs : isSh s) (ho : shOk D s) : CrB g l 1 mX6_isNothing [vR s] D (D s 1 = -1) := by
  unfold CrB
  refine Cr.ofZ (lo0 := [vR s]) (by decide) (Nat.le_of_ble_eq_true rfl) rfl (fun J hA hR => ?_)
  have hl1 := ho.1
  have hl2 := ho.2.1
  refine q_aload_n (j := 0) hA rfl dX6_isNothing_0 ?_
  refine q_getI (x := D s 1) hA f_X6_15 dX6_isNothing_1 (shS hs) (by decide) rfl ?_
  refine q_iconst hA dX6_isNothing_4 ?_
  refine q_icmp_ne (tgt := 12) hA (by omega) (by omega) dX6_isNothing_5 (by decide) (fun h5 => ?_) (fun h5 => ?_)
  · refine q_iconst hA dX6_isNothing_12 ?_
    exact hR 13 _ _ _ dX6_isNothing_13 (Or.inl rfl) ⟨rfl, Or.inr ⟨(by omega), rfl⟩⟩
  · refine q_iconst hA dX6_isNothing_8 ?_
    refine q_goto (tgt := 13) hA dX6_isNothing_9 (by decide) ?_
    exact hR 13 _ _ _ dX6_isNothing_13 (Or.inr rfl) ⟨rfl, Or.inl ⟨(by omega), rfl⟩⟩
set_option maxHeartbeats 4000000 in
set_option maxRecDepth 100000 in
theorem zX6_spans {g : Gm} {l : Launch} {D : Dat} {s : Nat} (hs : isSh s) (ho : shOk D s) {i : Int} {n : Int} (ri : -2147483648 ≤ i ∧ i ≤ 2147483647) (rn : -2147483648 ≤ n ∧ n ≤ 2147483647) : CrB g l 1 mX6_spans [vR s, vI i, vI n] D (0 ≤ n ∧ n ≤ D s 2 ∧ 0 ≤ i ∧ i ≤ D s 2 - n) := by
  unfold CrB
  refine Cr.ofZ (lo0 := [vR s, vI i, vI n]) (by decide) (Nat.le_of_ble_eq_true rfl) rfl (fun J hA hR => ?_)
  have hl1 := ho.1
  have hl2 := ho.2.1
  refine q_iload_n (j := 2) hA rfl dX6_spans_0 ?_
  refine q_if_lt (tgt := 30) hA (by omega) dX6_spans_1 (by decide) (fun h1 => ?_) (fun h1 => ?_)
  · refine q_iconst hA dX6_spans_30 ?_
    exact hR 31 _ _ _ dX6_spans_31 (Or.inl rfl) ⟨rfl, Or.inr ⟨(by omega), rfl⟩⟩
  · refine q_iload_n (j := 2) hA rfl dX6_spans_4 ?_
    refine q_aload_n (j := 0) hA rfl dX6_spans_5 ?_
    refine q_getI (x := D s 2) hA f_X6_19 dX6_spans_6 (shS hs) (by decide) rfl ?_
    refine q_icmp_gt (tgt := 30) hA (by omega) (by omega) dX6_spans_9 (by decide) (fun h9 => ?_) (fun h9 => ?_)
    · refine q_iconst hA dX6_spans_30 ?_
      exact hR 31 _ _ _ dX6_spans_31 (Or.inl rfl) ⟨rfl, Or.inr ⟨(by omega), rfl⟩⟩
    · refine q_iload_n (j := 1) hA rfl dX6_spans_12 ?_
      refine q_if_lt (tgt := 30) hA (by omega) dX6_spans_13 (by decide) (fun h13 => ?_) (fun h13 => ?_)
      · refine q_iconst hA dX6_spans_30 ?_
        exact hR 31 _ _ _ dX6_spans_31 (Or.inl rfl) ⟨rfl, Or.inr ⟨(by omega), rfl⟩⟩
      · refine q_iload_n (j := 1) hA rfl dX6_spans_16 ?_
        refine q_aload_n (j := 0) hA rfl dX6_spans_17 ?_
        refine q_getI (x := D s 2) hA f_X6_19 dX6_spans_18 (shS hs) (by decide) rfl ?_
        refine q_iload_n (j := 2) hA rfl dX6_spans_21 ?_
        refine q_isub hA dX6_spans_22 ?_
        refine q_icmp_gt (tgt := 30) hA (by omega) (by omega) dX6_spans_23 (by decide) (fun h23 => ?_) (fun h23 => ?_)
        · refine q_iconst hA dX6_spans_30 ?_
          exact hR 31 _ _ _ dX6_spans_31 (Or.inl rfl) ⟨rfl, Or.inr ⟨(by omega), rfl⟩⟩
        · refine q_iconst hA dX6_spans_26 ?_
          refine q_goto (tgt := 31) hA dX6_spans_27 (by decide) ?_
          exact hR 31 _ _ _ dX6_spans_31 (Or.inr rfl) ⟨rfl, Or.inl ⟨(by omega), rfl⟩⟩
set_option maxHeartbeats 4000000 in
set_option maxRecDepth 100000 in
theorem zX6_refusal {g : Gm} {l : Launch} {D : Dat} {s : Nat} (hs : isSh s) (ho : shOk D s) {la : Int} {i : Int} {n : Int} (rla : -2147483648 ≤ la ∧ la ≤ 2147483647) (ri : -2147483648 ≤ i ∧ i ≤ 2147483647) (rn : -2147483648 ≤ n ∧ n ≤ 2147483647) : CrP g l 2 mX6_refusal [vR s, vI la, vI i, vI n] D (refS (D s 1) (D s 2) la i n) := by
  unfold CrP
  refine Cr.ofI (lo0 := [vR s, vI la, vI i, vI n]) (by decide) (Nat.le_of_ble_eq_true rfl) rfl (fun J hA hR => ?_)
  have hl1 := ho.1
  have hl2 := ho.2.1
  refine q_aload_n (j := 0) hA rfl dX6_refusal_0 ?_
  refine q_callVB (b := s) (As := []) (st := []) hA l_X6_22 kX6_isNothing (zX6_isNothing (by first | assumption | omega | rfl) (by first | assumption | omega | rfl)) dX6_refusal_1 rfl rfl (shS hs) (by decide) rfl (Nat.le_of_ble_eq_true rfl) (by omega) (fun h1 => ?_) (fun h1 => ?_)
  · refine q_if_eq (tgt := 10) hA (by decide) dX6_refusal_4 (by decide) (fun h4 => absurd h4 (by decide)) (fun h4 => ?_)
    refine q_bipush hA (by decide) dX6_refusal_7 ?_
    exact hR 9 _ _ _ dX6_refusal_9 ⟨(by unfold refS; rw [if_pos (by omega)]), rfl⟩
  · refine q_if_eq (tgt := 10) hA (by decide) dX6_refusal_4 (by decide) (fun h4 => ?_) (fun h4 => absurd h4 (by decide))
    refine q_aload_n (j := 0) hA rfl dX6_refusal_10 ?_
    refine q_getI (x := D s 1) hA f_X6_15 dX6_refusal_11 (shS hs) (by decide) rfl ?_
    refine q_iload_n (j := 1) hA rfl dX6_refusal_14 ?_
    refine q_icmp_eq (tgt := 21) hA (by omega) (by omega) dX6_refusal_15 (by decide) (fun h15 => ?_) (fun h15 => ?_)
    · refine q_aload_n (j := 0) hA rfl dX6_refusal_21 ?_
      refine q_iload_n (j := 2) hA rfl dX6_refusal_22 ?_
      refine q_iload_n (j := 3) hA rfl dX6_refusal_23 ?_
      refine q_callVB (b := s) (As := [vI i, vI n]) (st := []) hA l_X6_26 kX6_spans (zX6_spans (by first | assumption | omega | rfl) (by first | assumption | omega | rfl) (by first | assumption | omega | rfl) (by first | assumption | omega | rfl)) dX6_refusal_24 rfl rfl (shS hs) (by decide) rfl (Nat.le_of_ble_eq_true rfl) (by omega) (fun h24 => ?_) (fun h24 => ?_)
      · refine q_if_eq (tgt := 34) hA (by decide) dX6_refusal_27 (by decide) (fun h27 => absurd h27 (by decide)) (fun h27 => ?_)
        refine q_iconst hA dX6_refusal_30 ?_
        refine q_goto (tgt := 36) hA dX6_refusal_31 (by decide) ?_
        exact hR 36 _ _ _ dX6_refusal_36 ⟨(by unfold refS; rw [if_neg (by omega), if_neg (by omega)]; first | rw [if_pos h24] | rw [if_neg h24]), rfl⟩
      · refine q_if_eq (tgt := 34) hA (by decide) dX6_refusal_27 (by decide) (fun h27 => ?_) (fun h27 => absurd h27 (by decide))
        refine q_bipush hA (by decide) dX6_refusal_34 ?_
        exact hR 36 _ _ _ dX6_refusal_36 ⟨(by unfold refS; rw [if_neg (by omega), if_neg (by omega)]; first | rw [if_pos h24] | rw [if_neg h24]), rfl⟩
    · refine q_bipush hA (by decide) dX6_refusal_18 ?_
      exact hR 20 _ _ _ dX6_refusal_20 ⟨(by unfold refS; rw [if_neg (by omega), if_pos (by omega)]), rfl⟩
set_option maxHeartbeats 4000000 in
set_option maxRecDepth 100000 in
theorem zX6_at {g : Gm} {l : Launch} {D : Dat} {s : Nat} (hs : isSh s) (ho : shOk D s) {i : Int} (ri : -2147483648 ≤ i ∧ i ≤ 2147483647) : CrQ g l 1 mX6_at [vR s, vI i] D (if 0 ≤ i ∧ i < D s 2 then D (s + 1) i else 0) := by
  unfold CrQ
  refine Cr.ofL (lo0 := [vR s, vI i]) (by decide) (Nat.le_of_ble_eq_true rfl) rfl (fun J hA hR => ?_)
  have hl1 := ho.1
  have hl2 := ho.2.1
  refine q_iload_n (j := 1) hA rfl dX6_at_0 ?_
  refine q_if_lt (tgt := 27) hA (by omega) dX6_at_1 (by decide) (fun h1 => ?_) (fun h1 => ?_)
  · refine q_lconst hA dX6_at_27 ?_
    show J _ _ (vL 0 :: _) _
    exact hR 28 _ _ _ dX6_at_28 ⟨(by first | omega | (rw [if_pos (by omega)]; done) | rw [if_neg (by omega)]), rfl⟩
  · refine q_iload_n (j := 1) hA rfl dX6_at_4 ?_
    refine q_aload_n (j := 0) hA rfl dX6_at_5 ?_
    refine q_getI (x := D s 2) hA f_X6_19 dX6_at_6 (shS hs) (by decide) rfl ?_
    refine q_icmp_ge (tgt := 27) hA (by omega) (by omega) dX6_at_9 (by decide) (fun h9 => ?_) (fun h9 => ?_)
    · refine q_lconst hA dX6_at_27 ?_
      show J _ _ (vL 0 :: _) _
      exact hR 28 _ _ _ dX6_at_28 ⟨(by first | omega | (rw [if_pos (by omega)]; done) | rw [if_neg (by omega)]), rfl⟩
    · refine q_iload_n (j := 1) hA rfl dX6_at_12 ?_
      refine q_bipush hA (by decide) dX6_at_13 ?_
      refine q_icmp_ge (tgt := 27) hA (by omega) (by omega) dX6_at_15 (by decide) (fun h15 => ?_) (fun h15 => ?_)
      · refine q_lconst hA dX6_at_27 ?_
        show J _ _ (vL 0 :: _) _
        exact hR 28 _ _ _ dX6_at_28 ⟨(by first | omega | (rw [if_pos (by omega)]; done) | rw [if_neg (by omega)]), rfl⟩
      · refine q_aload_n (j := 0) hA rfl dX6_at_18 ?_
        refine q_getR hA f_X6_9 dX6_at_19 (shS hs) (by decide) (shF hs) ?_
        refine q_iload_n (j := 1) hA rfl dX6_at_22 ?_
        refine q_lald (x := D (s + 1) i) hA dX6_at_23 (shS1 hs) (by omega) (by decide) rfl ?_
        refine q_goto (tgt := 28) hA dX6_at_24 (by decide) ?_
        exact hR 28 _ _ _ dX6_at_28 ⟨(by first | omega | (rw [if_pos (by omega)]; done) | rw [if_neg (by omega)]), rfl⟩
set_option maxHeartbeats 4000000 in
set_option maxRecDepth 100000 in
theorem zX6_cutToLane {g : Gm} {l : Launch} {D : Dat} {s : Nat} (hs : isSh s) (ho : shOk D s) {v : Int} : CrQ g l 1 mX6_cutToLane [vR s, vL v] D (cutL (D s 1) v) := by
  unfold CrQ
  refine Cr.ofL (lo0 := [vR s, vL v, vN]) (by decide) (Nat.le_of_ble_eq_true rfl) rfl (fun J hA hR => ?_)
  have hl1 := ho.1
  have hl2 := ho.2.1
  have hb := toB_in v
  have hss := toS_in v
  have hw := w32_in v
  refine q_aload_n (j := 0) hA rfl dX6_cutToLane_0 ?_
  refine q_getI (x := D s 1) hA f_X6_15 dX6_cutToLane_1 (shS hs) (by decide) rfl ?_
  by_cases hsw : D s 1 < 0 ∨ 2 < D s 1
  · refine q_tblOut (tgt := 46) hA (by omega) dX6_cutToLane_4 hsw (by decide) ?_
    refine q_lload_n (j := 1) hA rfl dX6_cutToLane_46 ?_
    exact hR 47 _ _ _ dX6_cutToLane_47 ⟨(by unfold cutL; rw [if_neg (by omega), if_neg (by omega), if_neg (by omega)]), rfl⟩
  · have hsw2 : D s 1 = 0 ∨ D s 1 = 1 ∨ D s 1 = 2 := by omega
    rcases hsw2 with hsw3 | hsw3 | hsw3
    · refine q_tblIn (tgt := 32) (off := 28) hA (by omega) dX6_cutToLane_4 (by omega) (by rw [hsw3]; rfl) (by decide) ?_
      refine q_lload_n (j := 1) hA rfl dX6_cutToLane_32 ?_
      refine q_l2i hA dX6_cutToLane_33 ?_
      refine q_i2b hA dX6_cutToLane_34 ?_
      refine q_i2l hA (by omega) dX6_cutToLane_35 ?_
      exact hR 36 _ _ _ dX6_cutToLane_36 ⟨(by unfold cutL; rw [if_pos (by omega)]), rfl⟩
    · refine q_tblIn (tgt := 37) (off := 33) hA (by omega) dX6_cutToLane_4 (by omega) (by rw [hsw3]; rfl) (by decide) ?_
      refine q_lload_n (j := 1) hA rfl dX6_cutToLane_37 ?_
      refine q_l2i hA dX6_cutToLane_38 ?_
      refine q_i2s hA dX6_cutToLane_39 ?_
      refine q_i2l hA (by omega) dX6_cutToLane_40 ?_
      exact hR 41 _ _ _ dX6_cutToLane_41 ⟨(by unfold cutL; rw [if_neg (by omega), if_pos (by omega)]), rfl⟩
    · refine q_tblIn (tgt := 42) (off := 38) hA (by omega) dX6_cutToLane_4 (by omega) (by rw [hsw3]; rfl) (by decide) ?_
      refine q_lload_n (j := 1) hA rfl dX6_cutToLane_42 ?_
      refine q_l2i hA dX6_cutToLane_43 ?_
      refine q_w32 hA ?_
      refine q_i2l hA (by omega) dX6_cutToLane_44 ?_
      exact hR 45 _ _ _ dX6_cutToLane_45 ⟨(by unfold cutL; rw [if_neg (by omega), if_neg (by omega), if_pos (by omega)]), rfl⟩
set_option maxHeartbeats 4000000 in
set_option maxRecDepth 100000 in
theorem zX6_put {g : Gm} {l : Launch} {D : Dat} {s : Nat} (hs : isSh s) (ho : shOk D s) {i : Int} {v : Int} (ri : -2147483648 ≤ i ∧ i ≤ 2147483647) : CrL g l 2 mX6_put [vR s, vI i, vL v] D (fun r D1 => (¬ (0 ≤ i ∧ i < D s 2) ∧ r = -13 ∧ D1 = D) ∨ ((0 ≤ i ∧ i < D s 2) ∧ r = cutL (D s 1) v ∧ D1 = upD D (s + 1) i (cutL (D s 1) v))) := by
  refine Cr.ofL (lo0 := [vR s, vI i, vL v, vN]) (by decide) (Nat.le_of_ble_eq_true rfl) rfl (fun J hA hR => ?_)
  have hl1 := ho.1
  have hl2 := ho.2.1
  refine q_iload_n (j := 1) hA rfl dX6_put_0 ?_
  refine q_if_lt (tgt := 18) hA (by omega) dX6_put_1 (by decide) (fun h1 => ?_) (fun h1 => ?_)
  · refine q_ldc2 hA c_X6_30 dX6_put_18 ?_
    exact hR 21 _ _ _ dX6_put_21 (by exact Or.inl ⟨by omega, rfl, rfl⟩)
  · refine q_iload_n (j := 1) hA rfl dX6_put_4 ?_
    refine q_aload_n (j := 0) hA rfl dX6_put_5 ?_
    refine q_getI (x := D s 2) hA f_X6_19 dX6_put_6 (shS hs) (by decide) rfl ?_
    refine q_icmp_ge (tgt := 18) hA (by omega) (by omega) dX6_put_9 (by decide) (fun h9 => ?_) (fun h9 => ?_)
    · refine q_ldc2 hA c_X6_30 dX6_put_18 ?_
      exact hR 21 _ _ _ dX6_put_21 (by exact Or.inl ⟨by omega, rfl, rfl⟩)
    · refine q_iload_n (j := 1) hA rfl dX6_put_12 ?_
      refine q_bipush hA (by decide) dX6_put_13 ?_
      refine q_icmp_lt (tgt := 22) hA (by omega) (by omega) dX6_put_15 (by decide) (fun h15 => ?_) (fun h15 => ?_)
      · refine q_aload_n (j := 0) hA rfl dX6_put_22 ?_
        refine q_getR hA f_X6_9 dX6_put_23 (shS hs) (by decide) (shF hs) ?_
        refine q_iload_n (j := 1) hA rfl dX6_put_26 ?_
        refine q_aload_n (j := 0) hA rfl dX6_put_27 ?_
        refine q_lload_n (j := 2) hA rfl dX6_put_28 ?_
        refine q_callVQ (b := s) (As := [vL v]) (st := [vI i, vR (s + 1)]) hA l_X6_32 kX6_cutToLane (zX6_cutToLane (by first | assumption | omega | rfl) (by first | assumption | omega | rfl)) dX6_put_29 rfl rfl (shS hs) (by decide) rfl (Nat.le_of_ble_eq_true rfl) (by omega) ?_
        refine q_nmL (fun w ew => ?_)
        refine q_last hA dX6_put_32 (shS1 hs) (by omega) (by decide) ?_
        refine q_aload_n (j := 0) hA rfl dX6_put_33 ?_
        refine q_getR hA f_X6_9 dX6_put_34 (shS hs) (by decide) (shF hs) ?_
        refine q_iload_n (j := 1) hA rfl dX6_put_37 ?_
        refine q_lald (x := w) hA dX6_put_38 (shS1 hs) (by omega) (by decide) ((upD_s).trans (rfl)) ?_
        exact hR 39 _ _ _ dX6_put_39 (by exact Or.inr ⟨by omega, ew, by rw [ew]⟩)
      · refine q_ldc2 hA c_X6_30 dX6_put_18 ?_
        exact hR 21 _ _ _ dX6_put_21 (by exact Or.inl ⟨by omega, rfl, rfl⟩)
set_option maxHeartbeats 4000000 in
set_option maxRecDepth 100000 in
theorem zX3_byLetter {g : Gm} {l : Launch} {D : Dat} {x : Int} (rx : -2147483648 ≤ x ∧ x ≤ 2147483647) : CrP g l 1 mX3_byLetter [vI x] D (kindL x) := by
  unfold CrP
  refine Cr.ofI (lo0 := [vI x]) (by decide) (Nat.le_of_ble_eq_true rfl) rfl (fun J hA hR => ?_)
  refine q_iload_n (j := 0) hA rfl dX3_byLetter_0 ?_
  by_cases hs98 : x = 98
  · refine q_look (tgt := 60) (off := 59) hA (by omega) dX3_byLetter_1 (by decide) (by rw [hs98]; rfl) (by decide) ?_
    refine q_iconst hA dX3_byLetter_60 ?_
    exact hR 61 _ _ _ dX3_byLetter_61 ⟨(by unfold kindL; first | rw [if_pos (by omega)] | rw [if_neg (by omega), if_pos (by omega)] | rw [if_neg (by omega), if_neg (by omega), if_pos (by omega)] | rw [if_neg (by omega), if_neg (by omega), if_neg (by omega), if_pos (by omega)] | rw [if_neg (by omega), if_neg (by omega), if_neg (by omega), if_neg (by omega), if_pos (by omega)] | rw [if_neg (by omega), if_neg (by omega), if_neg (by omega), if_neg (by omega), if_neg (by omega)]), rfl⟩
  by_cases hs103 : x = 103
  · refine q_look (tgt := 54) (off := 53) hA (by omega) dX3_byLetter_1 (by decide) (by rw [hs103]; rfl) (by decide) ?_
    refine q_iconst hA dX3_byLetter_54 ?_
    exact hR 55 _ _ _ dX3_byLetter_55 ⟨(by unfold kindL; first | rw [if_pos (by omega)] | rw [if_neg (by omega), if_pos (by omega)] | rw [if_neg (by omega), if_neg (by omega), if_pos (by omega)] | rw [if_neg (by omega), if_neg (by omega), if_neg (by omega), if_pos (by omega)] | rw [if_neg (by omega), if_neg (by omega), if_neg (by omega), if_neg (by omega), if_pos (by omega)] | rw [if_neg (by omega), if_neg (by omega), if_neg (by omega), if_neg (by omega), if_neg (by omega)]), rfl⟩
  by_cases hs112 : x = 112
  · refine q_look (tgt := 52) (off := 51) hA (by omega) dX3_byLetter_1 (by decide) (by rw [hs112]; rfl) (by decide) ?_
    refine q_iconst hA dX3_byLetter_52 ?_
    exact hR 53 _ _ _ dX3_byLetter_53 ⟨(by unfold kindL; first | rw [if_pos (by omega)] | rw [if_neg (by omega), if_pos (by omega)] | rw [if_neg (by omega), if_neg (by omega), if_pos (by omega)] | rw [if_neg (by omega), if_neg (by omega), if_neg (by omega), if_pos (by omega)] | rw [if_neg (by omega), if_neg (by omega), if_neg (by omega), if_neg (by omega), if_pos (by omega)] | rw [if_neg (by omega), if_neg (by omega), if_neg (by omega), if_neg (by omega), if_neg (by omega)]), rfl⟩
  by_cases hs115 : x = 115
  · refine q_look (tgt := 58) (off := 57) hA (by omega) dX3_byLetter_1 (by decide) (by rw [hs115]; rfl) (by decide) ?_
    refine q_iconst hA dX3_byLetter_58 ?_
    exact hR 59 _ _ _ dX3_byLetter_59 ⟨(by unfold kindL; first | rw [if_pos (by omega)] | rw [if_neg (by omega), if_pos (by omega)] | rw [if_neg (by omega), if_neg (by omega), if_pos (by omega)] | rw [if_neg (by omega), if_neg (by omega), if_neg (by omega), if_pos (by omega)] | rw [if_neg (by omega), if_neg (by omega), if_neg (by omega), if_neg (by omega), if_pos (by omega)] | rw [if_neg (by omega), if_neg (by omega), if_neg (by omega), if_neg (by omega), if_neg (by omega)]), rfl⟩
  by_cases hs116 : x = 116
  · refine q_look (tgt := 56) (off := 55) hA (by omega) dX3_byLetter_1 (by decide) (by rw [hs116]; rfl) (by decide) ?_
    refine q_iconst hA dX3_byLetter_56 ?_
    exact hR 57 _ _ _ dX3_byLetter_57 ⟨(by unfold kindL; first | rw [if_pos (by omega)] | rw [if_neg (by omega), if_pos (by omega)] | rw [if_neg (by omega), if_neg (by omega), if_pos (by omega)] | rw [if_neg (by omega), if_neg (by omega), if_neg (by omega), if_pos (by omega)] | rw [if_neg (by omega), if_neg (by omega), if_neg (by omega), if_neg (by omega), if_pos (by omega)] | rw [if_neg (by omega), if_neg (by omega), if_neg (by omega), if_neg (by omega), if_neg (by omega)]), rfl⟩
  refine q_look (tgt := 62) (off := 61) hA (by omega) dX3_byLetter_1 (by decide) (by simp [Op.lookupswitch.offset, Ne.symm hs98, Ne.symm hs103, Ne.symm hs112, Ne.symm hs115, Ne.symm hs116]) (by decide) ?_
  refine q_bipush hA (by decide) dX3_byLetter_62 ?_
  exact hR 64 _ _ _ dX3_byLetter_64 ⟨(by unfold kindL; first | rw [if_pos (by omega)] | rw [if_neg (by omega), if_pos (by omega)] | rw [if_neg (by omega), if_neg (by omega), if_pos (by omega)] | rw [if_neg (by omega), if_neg (by omega), if_neg (by omega), if_pos (by omega)] | rw [if_neg (by omega), if_neg (by omega), if_neg (by omega), if_neg (by omega), if_pos (by omega)] | rw [if_neg (by omega), if_neg (by omega), if_neg (by omega), if_neg (by omega), if_neg (by omega)]), rfl⟩
set_option maxHeartbeats 4000000 in
set_option maxRecDepth 100000 in
theorem zX3_isUnder_L4 {g : Gm} {l : Launch} {D : Dat} {k : Int} {q : Int} (hk : 1 ≤ k ∧ k ≤ 5) (hq : 0 ≤ q ∧ q ≤ 5)   {J : JT} (hA : AX g l RX3 cX3_isUnder 4 1 J) (hR : ReZ cX3_isUnder (fun v D1 => D1 = D ∧ (((undK k q) ∧ v = 1) ∨ (¬ (undK k q) ∧ v = 0))) J) : ∀ (fuel : Nat) (at_ : Int) (j : Int), (0 ≤ j) → ((at_ = -4 ∧ j ≤ 3) ∨ (at_ = 0 ∧ j ≤ 2) ∨ ((at_ = 1 ∨ at_ = 4) ∧ j ≤ 1) ∨ ((at_ = 2 ∨ at_ = 3 ∨ at_ = 5) ∧ j ≤ 0)) → (undK k q ↔ 0 ≤ at_ ∧ undK at_ q) → 6 - j < (fuel : Int) → J 4 [vI k, vI q, vI at_, vI j] [] D := by
  intro fuel
  induction fuel with
  | zero => intro at_ j hj ha hv hMs; exact absurd hMs (by omega)
  | succ fuel ih =>
    intro at_ j hj ha hv hMs
    refine q_iload_n (j := 3) hA rfl dX3_isUnder_4 ?_
    refine q_gets (k := 0) hA (by decide) sf_X3_11 rfl dX3_isUnder_5 ?_
    refine q_alenS (k := 0) hA (by decide) rfl dX3_isUnder_8 ?_
    refine q_icmp_ge (tgt := 43) hA (by omega) (by omega) dX3_isUnder_9 (by decide) (fun h9 => ?_) (fun h9 => ?_)
    · refine q_iconst hA dX3_isUnder_43 ?_
      exact hR 44 _ _ _ dX3_isUnder_44 (Or.inl rfl) ⟨rfl, Or.inr ⟨(by rw [hv]; unfold undK; omega), rfl⟩⟩
    · refine q_iload_n (j := 2) hA rfl dX3_isUnder_12 ?_
      refine q_if_lt (tgt := 43) hA (by omega) dX3_isUnder_13 (by decide) (fun h13 => ?_) (fun h13 => ?_)
      · refine q_iconst hA dX3_isUnder_43 ?_
        exact hR 44 _ _ _ dX3_isUnder_44 (Or.inl rfl) ⟨rfl, Or.inr ⟨(by rw [hv]; unfold undK; omega), rfl⟩⟩
      · refine q_iload_n (j := 2) hA rfl dX3_isUnder_16 ?_
        refine q_gets (k := 0) hA (by decide) sf_X3_11 rfl dX3_isUnder_17 ?_
        refine q_alenS (k := 0) hA (by decide) rfl dX3_isUnder_20 ?_
        refine q_icmp_ge (tgt := 43) hA (by omega) (by omega) dX3_isUnder_21 (by decide) (fun h21 => ?_) (fun h21 => ?_)
        · refine q_iconst hA dX3_isUnder_43 ?_
          exact hR 44 _ _ _ dX3_isUnder_44 (Or.inl rfl) ⟨rfl, Or.inr ⟨(by rw [hv]; unfold undK; omega), rfl⟩⟩
        · refine q_iload_n (j := 2) hA rfl dX3_isUnder_24 ?_
          refine q_iload_n (j := 1) hA rfl dX3_isUnder_25 ?_
          refine q_icmp_ne (tgt := 31) hA (by omega) (by omega) dX3_isUnder_26 (by decide) (fun h26 => ?_) (fun h26 => ?_)
          · refine q_gets (k := 0) hA (by decide) sf_X3_11 rfl dX3_isUnder_31 ?_
            refine q_iload_n (j := 2) hA rfl dX3_isUnder_34 ?_
            refine q_ialdS (k := 0) (x := stV 0 (at_).toNat) hA (by decide) rfl dX3_isUnder_35 (by omega) rfl ?_
            refine q_istore_n (j := 2) (lo2 := [vI k, vI q, vI (stV 0 (at_).toNat), vI j]) hA dX3_isUnder_36 (by decide) rfl rfl ?_
            refine q_iinc (j := 3) (lo2 := [vI k, vI q, vI (stV 0 (at_).toNat), vI (j + 1)]) hA dX3_isUnder_37 rfl (by decide) rfl rfl ?_
            refine q_goto (tgt := 4) hA dX3_isUnder_40 (by decide) ?_
            have hov := over_spec (t := at_) (by omega)
            exact ih _ _ (by omega) (by omega) (by rw [hv]; unfold undK; omega) (by omega)
          · refine q_iconst hA dX3_isUnder_29 ?_
            exact hR 30 _ _ _ dX3_isUnder_30 (Or.inr rfl) ⟨rfl, Or.inl ⟨(by rw [hv]; exact ⟨by omega, Or.inr (Or.inl (by omega))⟩), rfl⟩⟩
set_option maxHeartbeats 4000000 in
set_option maxRecDepth 100000 in
theorem zX3_isUnder {g : Gm} {l : Launch} {D : Dat} {k : Int} {q : Int} (hk : 1 ≤ k ∧ k ≤ 5) (hq : 0 ≤ q ∧ q ≤ 5) : CrB g l 1 mX3_isUnder [vI k, vI q] D (undK k q) := by
  unfold CrB
  refine Cr.ofZ (lo0 := [vI k, vI q, vN, vN]) (by decide) (Nat.le_of_ble_eq_true rfl) rfl (fun J hA hR => ?_)
  refine q_iload_n (j := 0) hA rfl dX3_isUnder_0 ?_
  refine q_istore_n (j := 2) (lo2 := [vI k, vI q, vI k, vN]) hA dX3_isUnder_1 (by decide) rfl rfl ?_
  refine q_iconst hA dX3_isUnder_2 ?_
  refine q_istore_n (j := 3) (lo2 := [vI k, vI q, vI k, vI 0]) hA dX3_isUnder_3 (by decide) rfl rfl ?_
  refine zX3_isUnder_L4 (D := D) (k := k) (q := q) hk hq  hA hR 1000 _ _ (by omega) (by omega) (by exact ⟨fun z => ⟨by omega, z⟩, fun z => z.2⟩) (by omega)
set_option maxHeartbeats 4000000 in
set_option maxRecDepth 100000 in
theorem zX3_taking_L5 {g : Gm} {l : Launch} {D : Dat} {s : Int} {e : Int} (hs : 0 ≤ s ∧ s ≤ 99) (he : -9223372036854775808 ≤ e ∧ e ≤ 9223372036854775807)   {J : JT} (hA : AX g l RX3 cX3_taking 5 3 J) (hR : ReI cX3_taking (fun v D1 => v = (takeS s e) ∧ D1 = D) J) : ∀ (fuel : Nat) (acc : Int) (k : Int), (1 ≤ k ∧ k ≤ 6) → (acc = setOf (takeF s e) k.toNat) → 6 - k < (fuel : Int) → J 5 [vI s, vL e, vN, vI acc, vI k] [] D := by
  intro fuel
  induction fuel with
  | zero => intro acc k hk hv hMs; exact absurd hMs (by omega)
  | succ fuel ih =>
    intro acc k hk hv hMs
    have hin := setOf_in6 (takeF s e) rfl k.toNat (by omega)
    have hefr := effK_in (k := k) (s := s) (by omega)
    refine q_iload (j := 4) hA rfl dX3_taking_5 ?_
    refine q_iconst hA dX3_taking_7 ?_
    refine q_icmp_gt (tgt := 36) hA (by omega) (by omega) dX3_taking_8 (by decide) (fun h8 => ?_) (fun h8 => ?_)
    · refine q_iload_n (j := 3) hA rfl dX3_taking_36 ?_
      exact hR 37 _ _ _ dX3_taking_37 ⟨(by rw [hv, show k = 6 by omega]; rfl), rfl⟩
    · refine q_iload (j := 4) hA rfl dX3_taking_11 ?_
      refine q_iload_n (j := 0) hA rfl dX3_taking_13 ?_
      refine q_callSP (As := [vI k, vI s]) (st := []) hA l_X3_39 kX3_effort (zX3_effort (by first | assumption | omega | rfl) (by first | assumption | omega | rfl)) dX3_taking_14 rfl rfl (Nat.le_of_ble_eq_true rfl) (by omega) ?_
      refine q_nmI (fun ef eef => ?_)
      refine q_i2l hA (by omega) dX3_taking_17 ?_
      refine q_lload_n (j := 1) hA rfl dX3_taking_18 ?_
      refine q_lcmp hA (by omega) (by omega) dX3_taking_19 ?_
      have hc19 := cmpL_spec ef e
      refine q_if_ne (tgt := 30) hA (by omega) dX3_taking_20 (by decide) (fun h20 => ?_) (fun h20 => ?_)
      · refine q_iinc (j := 4) (lo2 := [vI s, vL e, vN, vI acc, vI (k + 1)]) hA dX3_taking_30 rfl (by decide) rfl rfl ?_
        refine q_goto (tgt := 5) hA dX3_taking_33 (by decide) ?_
        exact ih _ _ (by omega) (by rw [setOf_step (by omega)]; unfold takeF; simp only [decide_eq_true_eq]; first | rw [if_pos ⟨by omega, by omega⟩, hv]; rfl | rw [if_neg (by omega), hv]; rfl) (by omega)
      · refine q_iload_n (j := 3) hA rfl dX3_taking_23 ?_
        refine q_iconst hA dX3_taking_24 ?_
        refine q_iload (j := 4) hA rfl dX3_taking_25 ?_
        refine q_ishl hA dX3_taking_27 ?_
        refine q_ior hA dX3_taking_28 ?_
        rw [show iOr acc (iShl 1 k) = sb acc k from orShl (m := 6) (by omega) (by omega) (by omega)]
        refine q_istore_n (j := 3) (lo2 := [vI s, vL e, vN, vI (sb acc k), vI k]) hA dX3_taking_29 (by decide) rfl rfl ?_
        refine q_iinc (j := 4) (lo2 := [vI s, vL e, vN, vI (sb acc k), vI (k + 1)]) hA dX3_taking_30 rfl (by decide) rfl rfl ?_
        refine q_goto (tgt := 5) hA dX3_taking_33 (by decide) ?_
        exact ih _ _ (by omega) (by rw [setOf_step (by omega)]; unfold takeF; simp only [decide_eq_true_eq]; first | rw [if_pos ⟨by omega, by omega⟩, hv]; rfl | rw [if_neg (by omega), hv]; rfl) (by omega)
set_option maxHeartbeats 4000000 in
set_option maxRecDepth 100000 in
theorem zX3_taking {g : Gm} {l : Launch} {D : Dat} {s : Int} {e : Int} (hs : 0 ≤ s ∧ s ≤ 99) (he : -9223372036854775808 ≤ e ∧ e ≤ 9223372036854775807) : CrP g l 3 mX3_taking [vI s, vL e] D (takeS s e) := by
  unfold CrP
  refine Cr.ofI (lo0 := [vI s, vL e, vN, vN, vN]) (by decide) (Nat.le_of_ble_eq_true rfl) rfl (fun J hA hR => ?_)
  refine q_iconst hA dX3_taking_0 ?_
  refine q_istore_n (j := 3) (lo2 := [vI s, vL e, vN, vI 0, vN]) hA dX3_taking_1 (by decide) rfl rfl ?_
  refine q_iconst hA dX3_taking_2 ?_
  refine q_istore (j := 4) (lo2 := [vI s, vL e, vN, vI 0, vI 1]) hA dX3_taking_3 (by decide) rfl rfl ?_
  refine zX3_taking_L5 (D := D) (s := s) (e := e) hs he  hA hR 1000 _ _ (by omega) (by rfl) (by omega)
set_option maxHeartbeats 4000000 in
set_option maxRecDepth 100000 in
theorem zX3_fitting_L5 {g : Gm} {l : Launch} {D : Dat} {s : Nat} (hs : isSh s) (ho : shOk D s) {i : Int} {n : Int} (hi : 0 ≤ i ∧ 0 ≤ n ∧ i + 2 * n ≤ D s 2)   {J : JT} (hA : AX g l RX3 cX3_fitting 7 4 J) (hR : ReI cX3_fitting (fun v D1 => v = (fitX (D (s + 1)) n.toNat i 62) ∧ D1 = D) J) (hx : ∀ (acc : Int) (k : Int), (1 ≤ k ∧ k ≤ 6) → (acc = setOf (fun z => decide (1 ≤ z)) k.toNat) → (acc = 62) → J 24 [vR s, vI i, vI n, vI acc, vI k, vN, vN] [] D) : ∀ (fuel : Nat) (acc : Int) (k : Int), (1 ≤ k ∧ k ≤ 6) → (acc = setOf (fun z => decide (1 ≤ z)) k.toNat) → 6 - k < (fuel : Int) → J 5 [vR s, vI i, vI n, vI acc, vI k, vN, vN] [] D := by
  intro fuel
  induction fuel with
  | zero => intro acc k hk hv hMs; exact absurd hMs (by omega)
  | succ fuel ih =>
    intro acc k hk hv hMs
    have hin := setOf_in6 (fun z => decide (1 ≤ z)) rfl k.toNat (by omega)
    refine q_iload (j := 4) hA rfl dX3_fitting_5 ?_
    refine q_iconst hA dX3_fitting_7 ?_
    refine q_icmp_gt (tgt := 24) hA (by omega) (by omega) dX3_fitting_8 (by decide) (fun h8 => ?_) (fun h8 => ?_)
    · exact hx _ _ hk hv (by rw [hv, show k = 6 by omega]; rfl)
    · refine q_iload_n (j := 3) hA rfl dX3_fitting_11 ?_
      refine q_iconst hA dX3_fitting_12 ?_
      refine q_iload (j := 4) hA rfl dX3_fitting_13 ?_
      refine q_ishl hA dX3_fitting_15 ?_
      refine q_ior hA dX3_fitting_16 ?_
      rw [show iOr acc (iShl 1 k) = sb acc k from orShl (m := 6) (by omega) (by omega) (by omega)]
      refine q_istore_n (j := 3) (lo2 := [vR s, vI i, vI n, vI (sb acc k), vI k, vN, vN]) hA dX3_fitting_17 (by decide) rfl rfl ?_
      refine q_iinc (j := 4) (lo2 := [vR s, vI i, vI n, vI (sb acc k), vI (k + 1), vN, vN]) hA dX3_fitting_18 rfl (by decide) rfl rfl ?_
      refine q_goto (tgt := 5) hA dX3_fitting_21 (by decide) ?_
      exact ih _ _ (by omega) (by rw [setOf_step (by omega)]; simp only [decide_eq_true_eq]; rw [if_pos (by omega), hv]) (by omega)
set_option maxHeartbeats 4000000 in
set_option maxRecDepth 100000 in
theorem zX3_fitting_L27 {g : Gm} {l : Launch} {D : Dat} {s : Nat} (hs : isSh s) (ho : shOk D s) {i : Int} {n : Int} (hi : 0 ≤ i ∧ 0 ≤ n ∧ i + 2 * n ≤ D s 2)   {J : JT} (hA : AX g l RX3 cX3_fitting 7 4 J) (hR : ReI cX3_fitting (fun v D1 => v = (fitX (D (s + 1)) n.toNat i 62) ∧ D1 = D) J) : ∀ (fuel : Nat) (acc : Int) (k : Int), (0 ≤ k ∧ k ≤ n) → (0 ≤ acc ∧ acc ≤ 63) → (fitX (D (s + 1)) n.toNat i 62 = fitX (D (s + 1)) (n - k).toNat (i + 2 * k) acc) → n - k < (fuel : Int) → J 27 [vR s, vI i, vI n, vI acc, vI k, vN, vN] [] D := by
  intro fuel
  induction fuel with
  | zero => intro acc k hk hac hv hMs; exact absurd hMs (by omega)
  | succ fuel ih =>
    intro acc k hk hac hv hMs
    have hl1 := ho.1
    have hl2 := ho.2.1
    have hit := ho.2.2
    refine q_iload (j := 4) hA rfl dX3_fitting_27 ?_
    refine q_iload_n (j := 2) hA rfl dX3_fitting_29 ?_
    refine q_icmp_ge (tgt := 91) hA (by omega) (by omega) dX3_fitting_30 (by decide) (fun h30 => ?_) (fun h30 => ?_)
    · refine q_iload_n (j := 3) hA rfl dX3_fitting_91 ?_
      exact hR 92 _ _ _ dX3_fitting_92 ⟨(by rw [hv, show k = n by omega, Int.sub_self]; rfl), rfl⟩
    · refine q_aload_n (j := 0) hA rfl dX3_fitting_33 ?_
      refine q_iload_n (j := 1) hA rfl dX3_fitting_34 ?_
      refine q_iconst hA dX3_fitting_35 ?_
      refine q_iload (j := 4) hA rfl dX3_fitting_36 ?_
      refine q_imul hA dX3_fitting_38 ?_
      refine q_iadd hA dX3_fitting_39 ?_
      refine q_callVQ (b := s) (As := [vI (i + (2 * k))]) (st := []) hA l_X3_27 kX6_at (zX6_at (by first | assumption | omega | rfl) (by first | assumption | omega | rfl) (by first | assumption | omega | rfl)) dX3_fitting_40 rfl rfl (shS hs) (by decide) rfl (Nat.le_of_ble_eq_true rfl) (by omega) ?_
      refine q_nmL (fun sh esh => ?_)
      refine q_lstore (j := 5) (lo2 := [vR s, vI i, vI n, vI acc, vI k, vL sh, vN]) hA dX3_fitting_43 (by decide) rfl rfl ?_
      rw [if_pos (by omega)] at esh
      have hr := hit (i + 2 * k) (by omega) (by omega)
      rw [← esh] at hr
      refine q_lload (j := 5) hA rfl dX3_fitting_45 ?_
      refine q_lconst hA dX3_fitting_47 ?_
      show J _ _ (vL 0 :: _) _
      refine q_lcmp hA (by omega) (by omega) dX3_fitting_48 ?_
      have hc48 := cmpL_spec sh 0
      refine q_if_lt (tgt := 61) hA (by omega) dX3_fitting_49 (by decide) (fun h49 => ?_) (fun h49 => ?_)
      · refine q_bipush hA (by decide) dX3_fitting_61 ?_
        exact hR 63 _ _ _ dX3_fitting_63 ⟨(by rw [hv, show (n - k).toNat = (n - (k + 1)).toNat + 1 by omega, fitX, ← esh, if_pos (by omega)]), rfl⟩
      · refine q_lload (j := 5) hA rfl dX3_fitting_52 ?_
        refine q_ldc2 hA c_X3_33 dX3_fitting_54 ?_
        refine q_lcmp hA (by omega) (by omega) dX3_fitting_57 ?_
        have hc57 := cmpL_spec sh 99
        refine q_if_le (tgt := 64) hA (by omega) dX3_fitting_58 (by decide) (fun h58 => ?_) (fun h58 => ?_)
        · refine q_iload_n (j := 3) hA rfl dX3_fitting_64 ?_
          refine q_lload (j := 5) hA rfl dX3_fitting_65 ?_
          refine q_l2i hA dX3_fitting_67 ?_
          refine q_aload_n (j := 0) hA rfl dX3_fitting_68 ?_
          refine q_iload_n (j := 1) hA rfl dX3_fitting_69 ?_
          refine q_iconst hA dX3_fitting_70 ?_
          refine q_iload (j := 4) hA rfl dX3_fitting_71 ?_
          refine q_imul hA dX3_fitting_73 ?_
          refine q_iadd hA dX3_fitting_74 ?_
          refine q_iconst hA dX3_fitting_75 ?_
          refine q_iadd hA dX3_fitting_76 ?_
          refine q_callVQ (b := s) (As := [vI ((i + (2 * k)) + 1)]) (st := [vI sh, vI acc]) hA l_X3_27 kX6_at (zX6_at (by first | assumption | omega | rfl) (by first | assumption | omega | rfl) (by first | assumption | omega | rfl)) dX3_fitting_77 rfl rfl (shS hs) (by decide) rfl (Nat.le_of_ble_eq_true rfl) (by omega) ?_
          refine q_nmL (fun ef eef => ?_)
          rw [if_pos (by omega)] at eef
          have hr2 := hit (i + 2 * k + 1) (by omega) (by omega)
          rw [← eef] at hr2
          refine q_callSP (As := [vI sh, vL ef]) (st := [vI acc]) hA l_X3_35 kX3_taking (zX3_taking (by first | assumption | omega | rfl) (by first | assumption | omega | rfl)) dX3_fitting_80 rfl rfl (Nat.le_of_ble_eq_true rfl) (by omega) ?_
          refine q_nmI (fun tk etk => ?_)
          have htk := takeS_in sh ef
          rw [← etk] at htk
          refine q_iand hA dX3_fitting_83 ?_
          rw [show iAnd acc tk = band acc tk from iAndB (by omega) (by omega)]
          refine q_istore_n (j := 3) (lo2 := [vR s, vI i, vI n, vI (band acc tk), vI k, vL sh, vN]) hA dX3_fitting_84 (by decide) rfl rfl ?_
          refine q_iinc (j := 4) (lo2 := [vR s, vI i, vI n, vI (band acc tk), vI (k + 1), vL sh, vN]) hA dX3_fitting_85 rfl (by decide) rfl rfl ?_
          refine q_goto (tgt := 27) hA dX3_fitting_88 (by decide) ?_
          refine q_fgt (lo2 := [vR s, vI i, vI n, vI (band acc tk), vI (k + 1), vN, vN]) hA ⟨Or.inr rfl, Or.inr rfl, Or.inr rfl, Or.inr rfl, Or.inr rfl, Or.inl rfl, Or.inr rfl, trivial⟩ ?_
          have hb3 := band_63 (x := acc) (y := tk) hac
          exact ih _ _ (by omega) (by omega) (by rw [hv, show (n - k).toNat = (n - (k + 1)).toNat + 1 by omega, fitX, ← esh, if_neg (by omega), etk, eef, show i + 2 * (k + 1) = i + 2 * k + 2 by omega]) (by omega)
        · refine q_bipush hA (by decide) dX3_fitting_61 ?_
          exact hR 63 _ _ _ dX3_fitting_63 ⟨(by rw [hv, show (n - k).toNat = (n - (k + 1)).toNat + 1 by omega, fitX, ← esh, if_pos (by omega)]), rfl⟩
set_option maxHeartbeats 4000000 in
set_option maxRecDepth 100000 in
theorem zX3_fitting {g : Gm} {l : Launch} {D : Dat} {s : Nat} (hs : isSh s) (ho : shOk D s) {i : Int} {n : Int} (hi : 0 ≤ i ∧ 0 ≤ n ∧ i + 2 * n ≤ D s 2) : CrP g l 4 mX3_fitting [vR s, vI i, vI n] D (fitX (D (s + 1)) n.toNat i 62) := by
  unfold CrP
  refine Cr.ofI (lo0 := [vR s, vI i, vI n, vN, vN, vN, vN]) (by decide) (Nat.le_of_ble_eq_true rfl) rfl (fun J hA hR => ?_)
  have hl1 := ho.1
  have hl2 := ho.2.1
  refine q_iconst hA dX3_fitting_0 ?_
  refine q_istore_n (j := 3) (lo2 := [vR s, vI i, vI n, vI 0, vN, vN, vN]) hA dX3_fitting_1 (by decide) rfl rfl ?_
  refine q_iconst hA dX3_fitting_2 ?_
  refine q_istore (j := 4) (lo2 := [vR s, vI i, vI n, vI 0, vI 1, vN, vN]) hA dX3_fitting_3 (by decide) rfl rfl ?_
  refine zX3_fitting_L5 (D := D) (s := s) (i := i) (n := n) hs ho hi  hA hR (fun acc k hk hv hx => ?_) 1000 _ _ (by omega) (by rfl) (by omega)
  refine q_iconst hA dX3_fitting_24 ?_
  refine q_istore (j := 4) (lo2 := [vR s, vI i, vI n, vI acc, vI 0, vN, vN]) hA dX3_fitting_25 (by decide) rfl rfl ?_
  subst hx
  refine zX3_fitting_L27 (D := D) (s := s) (i := i) (n := n) hs ho hi  hA hR 1000 _ _ (by omega) (by omega) (by rw [show n - 0 = n by omega, show i + 2 * 0 = i by omega]) (by omega)
set_option maxHeartbeats 4000000 in
set_option maxRecDepth 100000 in
theorem zJ6_bitCount_0f7a4 {g : Gm} {l : Launch} {D : Dat} {x : Int} (hx : 0 ≤ x ∧ x < 64) : CrP g l 1 mJ6_bitCount_0f7a4 [vI x] D (popc x) := by
  unfold CrP
  refine Cr.ofI (lo0 := [vI x]) (by decide) (Nat.le_of_ble_eq_true rfl) rfl (fun J hA hR => ?_)
  refine q_iload_n (j := 0) hA rfl dJ6_bitCount_0f7a4_0 ?_
  refine q_iload_n (j := 0) hA rfl dJ6_bitCount_0f7a4_1 ?_
  refine q_iconst hA dJ6_bitCount_0f7a4_2 ?_
  refine q_iushr hA dJ6_bitCount_0f7a4_3 ?_
  refine q_ldcw hA c_J6_265 dJ6_bitCount_0f7a4_4 ?_
  refine q_iand hA dJ6_bitCount_0f7a4_7 ?_
  refine q_isub hA dJ6_bitCount_0f7a4_8 ?_
  refine q_istore_n (j := 0) (lo2 := [vI (x - (iAnd (iUshr x 1) 1431655765))]) hA dJ6_bitCount_0f7a4_9 (by decide) rfl rfl ?_
  refine q_iload_n (j := 0) hA rfl dJ6_bitCount_0f7a4_10 ?_
  refine q_ldcw hA c_J6_266 dJ6_bitCount_0f7a4_11 ?_
  refine q_iand hA dJ6_bitCount_0f7a4_14 ?_
  refine q_iload_n (j := 0) hA rfl dJ6_bitCount_0f7a4_15 ?_
  refine q_iconst hA dJ6_bitCount_0f7a4_16 ?_
  refine q_iushr hA dJ6_bitCount_0f7a4_17 ?_
  refine q_ldcw hA c_J6_266 dJ6_bitCount_0f7a4_18 ?_
  refine q_iand hA dJ6_bitCount_0f7a4_21 ?_
  refine q_iadd hA dJ6_bitCount_0f7a4_22 ?_
  refine q_istore_n (j := 0) (lo2 := [vI ((iAnd (x - (iAnd (iUshr x 1) 1431655765)) 858993459) + (iAnd (iUshr (x - (iAnd (iUshr x 1) 1431655765)) 2) 858993459))]) hA dJ6_bitCount_0f7a4_23 (by decide) rfl rfl ?_
  refine q_iload_n (j := 0) hA rfl dJ6_bitCount_0f7a4_24 ?_
  refine q_iload_n (j := 0) hA rfl dJ6_bitCount_0f7a4_25 ?_
  refine q_iconst hA dJ6_bitCount_0f7a4_26 ?_
  refine q_iushr hA dJ6_bitCount_0f7a4_27 ?_
  refine q_iadd hA dJ6_bitCount_0f7a4_28 ?_
  refine q_ldcw hA c_J6_267 dJ6_bitCount_0f7a4_29 ?_
  refine q_iand hA dJ6_bitCount_0f7a4_32 ?_
  refine q_istore_n (j := 0) (lo2 := [vI (iAnd (((iAnd (x - (iAnd (iUshr x 1) 1431655765)) 858993459) + (iAnd (iUshr (x - (iAnd (iUshr x 1) 1431655765)) 2) 858993459)) + (iUshr ((iAnd (x - (iAnd (iUshr x 1) 1431655765)) 858993459) + (iAnd (iUshr (x - (iAnd (iUshr x 1) 1431655765)) 2) 858993459)) 4)) 252645135)]) hA dJ6_bitCount_0f7a4_33 (by decide) rfl rfl ?_
  refine q_iload_n (j := 0) hA rfl dJ6_bitCount_0f7a4_34 ?_
  refine q_iload_n (j := 0) hA rfl dJ6_bitCount_0f7a4_35 ?_
  refine q_bipush hA (by decide) dJ6_bitCount_0f7a4_36 ?_
  refine q_iushr hA dJ6_bitCount_0f7a4_38 ?_
  refine q_iadd hA dJ6_bitCount_0f7a4_39 ?_
  refine q_istore_n (j := 0) (lo2 := [vI ((iAnd (((iAnd (x - (iAnd (iUshr x 1) 1431655765)) 858993459) + (iAnd (iUshr (x - (iAnd (iUshr x 1) 1431655765)) 2) 858993459)) + (iUshr ((iAnd (x - (iAnd (iUshr x 1) 1431655765)) 858993459) + (iAnd (iUshr (x - (iAnd (iUshr x 1) 1431655765)) 2) 858993459)) 4)) 252645135) + (iUshr (iAnd (((iAnd (x - (iAnd (iUshr x 1) 1431655765)) 858993459) + (iAnd (iUshr (x - (iAnd (iUshr x 1) 1431655765)) 2) 858993459)) + (iUshr ((iAnd (x - (iAnd (iUshr x 1) 1431655765)) 858993459) + (iAnd (iUshr (x - (iAnd (iUshr x 1) 1431655765)) 2) 858993459)) 4)) 252645135) 8))]) hA dJ6_bitCount_0f7a4_40 (by decide) rfl rfl ?_
  refine q_iload_n (j := 0) hA rfl dJ6_bitCount_0f7a4_41 ?_
  refine q_iload_n (j := 0) hA rfl dJ6_bitCount_0f7a4_42 ?_
  refine q_bipush hA (by decide) dJ6_bitCount_0f7a4_43 ?_
  refine q_iushr hA dJ6_bitCount_0f7a4_45 ?_
  refine q_iadd hA dJ6_bitCount_0f7a4_46 ?_
  refine q_istore_n (j := 0) (lo2 := [vI (((iAnd (((iAnd (x - (iAnd (iUshr x 1) 1431655765)) 858993459) + (iAnd (iUshr (x - (iAnd (iUshr x 1) 1431655765)) 2) 858993459)) + (iUshr ((iAnd (x - (iAnd (iUshr x 1) 1431655765)) 858993459) + (iAnd (iUshr (x - (iAnd (iUshr x 1) 1431655765)) 2) 858993459)) 4)) 252645135) + (iUshr (iAnd (((iAnd (x - (iAnd (iUshr x 1) 1431655765)) 858993459) + (iAnd (iUshr (x - (iAnd (iUshr x 1) 1431655765)) 2) 858993459)) + (iUshr ((iAnd (x - (iAnd (iUshr x 1) 1431655765)) 858993459) + (iAnd (iUshr (x - (iAnd (iUshr x 1) 1431655765)) 2) 858993459)) 4)) 252645135) 8)) + (iUshr ((iAnd (((iAnd (x - (iAnd (iUshr x 1) 1431655765)) 858993459) + (iAnd (iUshr (x - (iAnd (iUshr x 1) 1431655765)) 2) 858993459)) + (iUshr ((iAnd (x - (iAnd (iUshr x 1) 1431655765)) 858993459) + (iAnd (iUshr (x - (iAnd (iUshr x 1) 1431655765)) 2) 858993459)) 4)) 252645135) + (iUshr (iAnd (((iAnd (x - (iAnd (iUshr x 1) 1431655765)) 858993459) + (iAnd (iUshr (x - (iAnd (iUshr x 1) 1431655765)) 2) 858993459)) + (iUshr ((iAnd (x - (iAnd (iUshr x 1) 1431655765)) 858993459) + (iAnd (iUshr (x - (iAnd (iUshr x 1) 1431655765)) 2) 858993459)) 4)) 252645135) 8)) 16))]) hA dJ6_bitCount_0f7a4_47 (by decide) rfl rfl ?_
  refine q_iload_n (j := 0) hA rfl dJ6_bitCount_0f7a4_48 ?_
  refine q_bipush hA (by decide) dJ6_bitCount_0f7a4_49 ?_
  refine q_iand hA dJ6_bitCount_0f7a4_51 ?_
  exact hR 52 _ _ _ dJ6_bitCount_0f7a4_52 ⟨(by rw [← bit_eq hx]; rfl), rfl⟩
set_option maxHeartbeats 4000000 in
set_option maxRecDepth 100000 in
theorem zX3_greatestPart_L4 {g : Gm} {l : Launch} {D : Dat} {t : Int} {s : Int} (ht : 0 ≤ t ∧ t ≤ 63) (hs : 0 ≤ s ∧ s ≤ 99)   {J : JT} (hA : AX g l RX3 cX3_greatestPart 5 4 J) (hR : ReI cX3_greatestPart (fun v D1 => v = (greatX t s 5) ∧ D1 = D) J) : ∀ (fuel : Nat) (acc : Int) (k : Int), (1 ≤ k ∧ k ≤ 6) → (acc = greatX t s (k - 1).toNat) → 6 - k < (fuel : Int) → J 4 [vI t, vI s, vI acc, vI k, vN] [] D := by
  intro fuel
  induction fuel with
  | zero => intro acc k hk hv hMs; exact absurd hMs (by omega)
  | succ fuel ih =>
    intro acc k hk hv hMs
    have hin := greatX_in t s (k - 1).toNat
    refine q_iload_n (j := 3) hA rfl dX3_greatestPart_4 ?_
    refine q_iconst hA dX3_greatestPart_5 ?_
    refine q_icmp_gt (tgt := 39) hA (by omega) (by omega) dX3_greatestPart_6 (by decide) (fun h6 => ?_) (fun h6 => ?_)
    · refine q_iload_n (j := 2) hA rfl dX3_greatestPart_39 ?_
      exact hR 40 _ _ _ dX3_greatestPart_40 ⟨(by rw [hv, show k = 6 by omega]; rfl), rfl⟩
    · refine q_iload_n (j := 0) hA rfl dX3_greatestPart_9 ?_
      refine q_iload_n (j := 1) hA rfl dX3_greatestPart_10 ?_
      refine q_iload_n (j := 3) hA rfl dX3_greatestPart_11 ?_
      refine q_iload_n (j := 1) hA rfl dX3_greatestPart_12 ?_
      refine q_callSP (As := [vI k, vI s]) (st := [vI s, vI t]) hA l_X3_39 kX3_effort (zX3_effort (by first | assumption | omega | rfl) (by first | assumption | omega | rfl)) dX3_greatestPart_13 rfl rfl (Nat.le_of_ble_eq_true rfl) (by omega) ?_
      refine q_nmI (fun ef eef => ?_)
      have hefr := effK_in (k := k) (s := s) (by omega)
      refine q_i2l hA (by omega) dX3_greatestPart_16 ?_
      refine q_callSP (As := [vI s, vL ef]) (st := [vI t]) hA l_X3_35 kX3_taking (zX3_taking (by first | assumption | omega | rfl) (by first | assumption | omega | rfl)) dX3_greatestPart_17 rfl rfl (Nat.le_of_ble_eq_true rfl) (by omega) ?_
      refine q_nmI (fun tk etk => ?_)
      have htk := takeS_in s ef
      rw [← etk] at htk
      have hbd := band_63 (x := t) (y := tk) ht
      refine q_iand hA dX3_greatestPart_20 ?_
      rw [show iAnd t tk = band t tk from iAndB (by omega) (by omega)]
      refine q_istore (j := 4) (lo2 := [vI t, vI s, vI acc, vI k, vI (band t tk)]) hA dX3_greatestPart_21 (by decide) rfl rfl ?_
      refine q_iload_n (j := 2) hA rfl dX3_greatestPart_23 ?_
      refine q_iload (j := 4) hA rfl dX3_greatestPart_24 ?_
      refine q_callSP (As := [vI (band t tk)]) (st := [vI acc]) hA l_X3_45 kJ6_bitCount_0f7a4 (zJ6_bitCount_0f7a4 (by first | assumption | omega | rfl)) dX3_greatestPart_26 rfl rfl (Nat.le_of_ble_eq_true rfl) (by omega) ?_
      refine q_nmI (fun pc epc => ?_)
      have hpc := popc_in (band t tk)
      refine q_max hA mw_X3_18 (by omega) (by omega) (Nat.le_of_ble_eq_true rfl) (by omega) dX3_greatestPart_29 ?_
      refine q_nmI (fun mx emx => ?_)
      refine q_istore_n (j := 2) (lo2 := [vI t, vI s, vI mx, vI k, vI (band t tk)]) hA dX3_greatestPart_32 (by decide) rfl rfl ?_
      refine q_iinc (j := 3) (lo2 := [vI t, vI s, vI mx, vI (k + 1), vI (band t tk)]) hA dX3_greatestPart_33 rfl (by decide) rfl rfl ?_
      refine q_goto (tgt := 4) hA dX3_greatestPart_36 (by decide) ?_
      refine q_fgt (lo2 := [vI t, vI s, vI mx, vI (k + 1), vN]) hA ⟨Or.inr rfl, Or.inr rfl, Or.inr rfl, Or.inr rfl, Or.inl rfl, trivial⟩ ?_
      exact ih _ _ (by omega) (by rw [show (k + 1 - 1).toNat = (k - 1).toNat + 1 by omega, greatX, ← hv, show (((k - 1).toNat : Nat) : Int) + 1 = k by omega, ← eef, ← etk, ← epc]; exact emx) (by omega)
set_option maxHeartbeats 4000000 in
set_option maxRecDepth 100000 in
theorem zX3_greatestPart {g : Gm} {l : Launch} {D : Dat} {t : Int} {s : Int} (ht : 0 ≤ t ∧ t ≤ 63) (hs : 0 ≤ s ∧ s ≤ 99) : CrP g l 4 mX3_greatestPart [vI t, vI s] D (greatX t s 5) := by
  unfold CrP
  refine Cr.ofI (lo0 := [vI t, vI s, vN, vN, vN]) (by decide) (Nat.le_of_ble_eq_true rfl) rfl (fun J hA hR => ?_)
  refine q_iconst hA dX3_greatestPart_0 ?_
  refine q_istore_n (j := 2) (lo2 := [vI t, vI s, vI 0, vN, vN]) hA dX3_greatestPart_1 (by decide) rfl rfl ?_
  refine q_iconst hA dX3_greatestPart_2 ?_
  refine q_istore_n (j := 3) (lo2 := [vI t, vI s, vI 0, vI 1, vN]) hA dX3_greatestPart_3 (by decide) rfl rfl ?_
  refine zX3_greatestPart_L4 (D := D) (t := t) (s := s) ht hs  hA hR 1000 _ _ (by omega) (by rfl) (by omega)
set_option maxHeartbeats 4000000 in
set_option maxRecDepth 100000 in
theorem zX3_bestTry_L11 {g : Gm} {l : Launch} {D : Dat} {t : Int} (ht : 0 ≤ t ∧ t ≤ 63)  (h0 : t ≠ 0) {J : JT} (hA : AX g l RX3 cX3_bestTry 3 5 J) (hR : ReI cX3_bestTry (fun v D1 => v = (if t = 0 then -4 else bestX t 9) ∧ D1 = D) J) : ∀ (fuel : Nat) (b : Int) (k : Int), (1 ≤ k ∧ k ≤ 10) → (b = bestX t (k - 1).toNat) → 10 - k < (fuel : Int) → J 11 [vI t, vI b, vI k] [] D := by
  intro fuel
  induction fuel with
  | zero => intro b k hk hv hMs; exact absurd hMs (by omega)
  | succ fuel ih =>
    intro b k hk hv hMs
    have hin := bestX_in t (k - 1).toNat
    rw [← hv] at hin
    refine q_iload_n (j := 2) hA rfl dX3_bestTry_11 ?_
    refine q_bipush hA (by decide) dX3_bestTry_12 ?_
    refine q_icmp_gt (tgt := 38) hA (by omega) (by omega) dX3_bestTry_14 (by decide) (fun h14 => ?_) (fun h14 => ?_)
    · refine q_iload_n (j := 1) hA rfl dX3_bestTry_38 ?_
      exact hR 39 _ _ _ dX3_bestTry_39 ⟨(by rw [if_neg h0, hv, show k = 10 by omega]; rfl), rfl⟩
    · refine q_iload_n (j := 0) hA rfl dX3_bestTry_17 ?_
      refine q_iload_n (j := 2) hA rfl dX3_bestTry_18 ?_
      refine q_callSP (As := [vI t, vI k]) (st := []) hA l_X3_42 kX3_greatestPart (zX3_greatestPart (by first | assumption | omega | rfl) (by first | assumption | omega | rfl)) dX3_bestTry_19 rfl rfl (Nat.le_of_ble_eq_true rfl) (by omega) ?_
      refine q_nmI (fun g1 eg1 => ?_)
      refine q_iload_n (j := 0) hA rfl dX3_bestTry_22 ?_
      refine q_iload_n (j := 1) hA rfl dX3_bestTry_23 ?_
      refine q_callSP (As := [vI t, vI b]) (st := [vI g1]) hA l_X3_42 kX3_greatestPart (zX3_greatestPart (by first | assumption | omega | rfl) (by first | assumption | omega | rfl)) dX3_bestTry_24 rfl rfl (Nat.le_of_ble_eq_true rfl) (by omega) ?_
      refine q_nmI (fun g2 eg2 => ?_)
      have hg1 := greatX_in t k 5
      have hg2 := greatX_in t b 5
      refine q_icmp_ge (tgt := 32) hA (by omega) (by omega) dX3_bestTry_27 (by decide) (fun h27 => ?_) (fun h27 => ?_)
      · refine q_iinc (j := 2) (lo2 := [vI t, vI b, vI (k + 1)]) hA dX3_bestTry_32 rfl (by decide) rfl rfl ?_
        refine q_goto (tgt := 11) hA dX3_bestTry_35 (by decide) ?_
        exact ih _ _ (by omega) (by rw [show (k + 1 - 1).toNat = (k - 1).toNat + 1 by omega, bestX, ← hv, show (((k - 1).toNat : Nat) : Int) + 1 = k by omega, ← eg1, ← eg2]; first | rw [if_pos (by omega)] | rw [if_neg (by omega)]) (by omega)
      · refine q_iload_n (j := 2) hA rfl dX3_bestTry_30 ?_
        refine q_istore_n (j := 1) (lo2 := [vI t, vI k, vI k]) hA dX3_bestTry_31 (by decide) rfl rfl ?_
        refine q_iinc (j := 2) (lo2 := [vI t, vI k, vI (k + 1)]) hA dX3_bestTry_32 rfl (by decide) rfl rfl ?_
        refine q_goto (tgt := 11) hA dX3_bestTry_35 (by decide) ?_
        exact ih _ _ (by omega) (by rw [show (k + 1 - 1).toNat = (k - 1).toNat + 1 by omega, bestX, ← hv, show (((k - 1).toNat : Nat) : Int) + 1 = k by omega, ← eg1, ← eg2]; first | rw [if_pos (by omega)] | rw [if_neg (by omega)]) (by omega)
set_option maxHeartbeats 4000000 in
set_option maxRecDepth 100000 in
theorem zX3_bestTry {g : Gm} {l : Launch} {D : Dat} {t : Int} (ht : 0 ≤ t ∧ t ≤ 63) : CrP g l 5 mX3_bestTry [vI t] D (if t = 0 then -4 else bestX t 9) := by
  unfold CrP
  refine Cr.ofI (lo0 := [vI t, vN, vN]) (by decide) (Nat.le_of_ble_eq_true rfl) rfl (fun J hA hR => ?_)
  refine q_iload_n (j := 0) hA rfl dX3_bestTry_0 ?_
  refine q_if_ne (tgt := 7) hA (by omega) dX3_bestTry_1 (by decide) (fun h1 => ?_) (fun h1 => ?_)
  · refine q_iconst hA dX3_bestTry_7 ?_
    refine q_istore_n (j := 1) (lo2 := [vI t, vI 0, vN]) hA dX3_bestTry_8 (by decide) rfl rfl ?_
    refine q_iconst hA dX3_bestTry_9 ?_
    refine q_istore_n (j := 2) (lo2 := [vI t, vI 0, vI 1]) hA dX3_bestTry_10 (by decide) rfl rfl ?_
    refine zX3_bestTry_L11 (D := D) (t := t) ht ((by first | assumption | omega | rfl)) hA hR 1000 _ _ (by omega) (by rfl) (by omega)
  · refine q_bipush hA (by decide) dX3_bestTry_4 ?_
    exact hR 6 _ _ _ dX3_bestTry_6 ⟨(by rw [if_pos (by omega)]), rfl⟩
set_option maxHeartbeats 4000000 in
set_option maxRecDepth 100000 in
theorem zX2_forget {g : Gm} {l : Launch} {D : Dat} : CrV g l 1 mX2_forget [vR 18] D (fun D1 => D1 = upD (upD D 18 1 0) 18 2 0) := by
  refine Cr.ofV (lo0 := [vR 18]) (by decide) (Nat.le_of_ble_eq_true rfl) rfl (fun J hA hR => ?_)
  refine q_aload_n (j := 0) hA rfl dX2_forget_0 ?_
  refine q_iconst hA dX2_forget_1 ?_
  refine q_putI hA f_X2_16 dX2_forget_2 sx_18 (by decide) ?_
  show J _ _ _ (upD D 18 1 0)
  refine q_aload_n (j := 0) hA rfl dX2_forget_5 ?_
  refine q_iconst hA dX2_forget_6 ?_
  refine q_putI hA f_X2_24 dX2_forget_7 sx_18 (by decide) ?_
  show J _ _ _ (upD (upD D 18 1 0) 18 2 0)
  exact hR 10 _ _ dX2_forget_10 (by rfl)
set_option maxHeartbeats 4000000 in
set_option maxRecDepth 100000 in
theorem zX2_keep {g : Gm} {l : Launch} {D : Dat} (hh : hOk D) : CrV g l 2 mX2_keep [vR 18, vR 11] D (fun D1 => rowX D1 (stHist (D 18 1).toNat) = rowX D 11 ∧ D1 18 1 = (D 18 1 + 1) % 24 ∧ D1 18 2 = (if D 18 2 + 1 < 24 then D 18 2 + 1 else 24) ∧ ∀ c, c ≠ 18 → (c < stHist (D 18 1).toNat ∨ stHist (D 18 1).toNat + 7 ≤ c) → D1 c = D c) := by
  refine Cr.ofV (lo0 := [vR 18, vR 11]) (by decide) (Nat.le_of_ble_eq_true rfl) rfl (fun J hA hR => ?_)
  obtain ⟨hh1, hh2⟩ := hh
  have hz := hHist hh1
  have hlt : 20 ≤ stHist (D 18 1).toNat := by unfold stHist; omega
  refine q_aload_n (j := 0) hA rfl dX2_keep_0 ?_
  refine q_getR hA f_X2_11 dX2_keep_1 sx_18 (by decide) fx_18_0 ?_
  refine q_aload_n (j := 0) hA rfl dX2_keep_4 ?_
  refine q_getI (x := D 18 1) hA f_X2_16 dX2_keep_5 sx_18 (by decide) rfl ?_
  refine q_aald (b := stHist (D 18 1).toNat) hA (Or.inl rfl) dX2_keep_8 sx_19 (by omega) (by decide) hz.1 ?_
  refine q_aload_n (j := 1) hA rfl dX2_keep_9 ?_
  refine q_callVV (b := stHist (D 18 1).toNat) (As := [vR 11]) (st := []) hA l_X2_20 kX7_takeFrom (zX7_takeFrom hz.2 isS11 (by omega)) dX2_keep_10 rfl rfl (strS hz.2) (by decide) rfl (Nat.le_of_ble_eq_true rfl) (by omega) (fun D10 q10 => ?_)
  have e1 : D10 18 1 = D 18 1 := by rw [q10.2 18 (by omega)]
  have e2 : D10 18 2 = D 18 2 := by rw [q10.2 18 (by omega)]
  refine q_aload_n (j := 0) hA rfl dX2_keep_13 ?_
  refine q_aload_n (j := 0) hA rfl dX2_keep_14 ?_
  refine q_getI (x := D 18 1) hA f_X2_16 dX2_keep_15 sx_18 (by decide) e1 ?_
  refine q_iconst hA dX2_keep_18 ?_
  refine q_iadd hA dX2_keep_19 ?_
  refine q_bipush hA (by decide) dX2_keep_20 ?_
  refine q_irem hA (by omega) (by omega) dX2_keep_22 ?_
  refine q_putI hA f_X2_16 dX2_keep_23 sx_18 (by decide) ?_
  show J _ _ _ (upD D10 18 1 (((D 18 1) + 1) % 24))
  refine q_aload_n (j := 0) hA rfl dX2_keep_26 ?_
  refine q_bipush hA (by decide) dX2_keep_27 ?_
  refine q_aload_n (j := 0) hA rfl dX2_keep_29 ?_
  refine q_getI (x := D10 18 2) hA f_X2_24 dX2_keep_30 sx_18 (by decide) ((upD_n (Or.inr (by decide))).trans (rfl)) ?_
  refine q_iconst hA dX2_keep_33 ?_
  refine q_iadd hA dX2_keep_34 ?_
  refine q_min hA mw_X2_27 (by omega) (by omega) (Nat.le_of_ble_eq_true rfl) (by omega) dX2_keep_35 ?_
  refine q_putI hA f_X2_24 dX2_keep_38 sx_18 (by decide) ?_
  show J _ _ _ (upD (upD D10 18 1 (((D 18 1) + 1) % 24)) 18 2 (if (D10 18 2) + 1 < 24 then (D10 18 2) + 1 else 24))
  exact hR 41 _ _ dX2_keep_41 ⟨(by rw [frm.row (a := 18) (n := 1) (D := D10) ((frm.rf.up (by omega)).up (by omega)) (by omega)]; exact q10.1), (by rw [upD_n (Or.inr (by decide)), upD_s]), (by rw [upD_s, e2]), fun c c1 c2 => (by rw [upD_other c1, upD_other c1]; exact q10.2 c c2)⟩
set_option maxHeartbeats 4000000 in
set_option maxRecDepth 100000 in
theorem zX2_giveBack {g : Gm} {l : Launch} {D : Dat} (hh : hOk D) : CrI g l 2 mX2_giveBack [vR 18, vR 11] D (fun v D1 => (D 18 2 = 0 ∧ v = 0 ∧ D1 = D) ∨ (D 18 2 ≠ 0 ∧ v = 1 ∧ D1 18 1 = (D 18 1 + 24 - 1) % 24 ∧ D1 18 2 = D 18 2 - 1 ∧ rowX D1 11 = rowX D (stHist ((D 18 1 + 24 - 1) % 24).toNat) ∧ ∀ c, c ≠ 18 → (c < 11 ∨ 18 ≤ c) → D1 c = D c)) := by
  refine Cr.ofZ (lo0 := [vR 18, vR 11]) (by decide) (Nat.le_of_ble_eq_true rfl) rfl (fun J hA hR => ?_)
  obtain ⟨hh1, hh2⟩ := hh
  have hz := hHist (k := (D 18 1 + 24 - 1) % 24) (by omega)
  have hlt : 20 ≤ stHist ((D 18 1 + 24 - 1) % 24).toNat := by unfold stHist; omega
  refine q_aload_n (j := 0) hA rfl dX2_giveBack_0 ?_
  refine q_getI (x := D 18 2) hA f_X2_24 dX2_giveBack_1 sx_18 (by decide) rfl ?_
  refine q_if_ne (tgt := 9) hA (by omega) dX2_giveBack_4 (by decide) (fun h4 => ?_) (fun h4 => ?_)
  · refine q_aload_n (j := 0) hA rfl dX2_giveBack_9 ?_
    refine q_aload_n (j := 0) hA rfl dX2_giveBack_10 ?_
    refine q_getI (x := D 18 1) hA f_X2_16 dX2_giveBack_11 sx_18 (by decide) rfl ?_
    refine q_bipush hA (by decide) dX2_giveBack_14 ?_
    refine q_iadd hA dX2_giveBack_16 ?_
    refine q_iconst hA dX2_giveBack_17 ?_
    refine q_isub hA dX2_giveBack_18 ?_
    refine q_bipush hA (by decide) dX2_giveBack_19 ?_
    refine q_irem hA (by omega) (by omega) dX2_giveBack_21 ?_
    refine q_putI hA f_X2_16 dX2_giveBack_22 sx_18 (by decide) ?_
    show J _ _ _ (upD D 18 1 ((((D 18 1) + 24) - 1) % 24))
    refine q_aload_n (j := 0) hA rfl dX2_giveBack_25 ?_
    refine q_dupR hA dX2_giveBack_26 ?_
    refine q_getI (x := D 18 2) hA f_X2_24 dX2_giveBack_27 sx_18 (by decide) ((upD_n (Or.inr (by decide))).trans (rfl)) ?_
    refine q_iconst hA dX2_giveBack_30 ?_
    refine q_isub hA dX2_giveBack_31 ?_
    refine q_putI hA f_X2_24 dX2_giveBack_32 sx_18 (by decide) ?_
    show J _ _ _ (upD (upD D 18 1 ((((D 18 1) + 24) - 1) % 24)) 18 2 ((D 18 2) - 1))
    refine q_aload_n (j := 1) hA rfl dX2_giveBack_35 ?_
    refine q_aload_n (j := 0) hA rfl dX2_giveBack_36 ?_
    refine q_getR hA f_X2_11 dX2_giveBack_37 sx_18 (by decide) fx_18_0 ?_
    refine q_aload_n (j := 0) hA rfl dX2_giveBack_40 ?_
    refine q_getI (x := (((D 18 1) + 24) - 1) % 24) hA f_X2_16 dX2_giveBack_41 sx_18 (by decide) ((upD_n (Or.inr (by decide))).trans ((upD_s).trans (rfl))) ?_
    refine q_aald (b := stHist ((D 18 1 + 24 - 1) % 24).toNat) hA (Or.inl rfl) dX2_giveBack_44 sx_19 (by omega) (by decide) hz.1 ?_
    refine q_callVV (b := 11) (As := [vR (stHist ((D 18 1 + 24 - 1) % 24).toNat)]) (st := []) hA l_X2_20 kX7_takeFrom (zX7_takeFrom isS11 hz.2 (by omega)) dX2_giveBack_45 rfl rfl sx_11 (by decide) rfl (Nat.le_of_ble_eq_true rfl) (by omega) (fun D45 q45 => ?_)
    refine q_iconst hA dX2_giveBack_48 ?_
    exact hR 49 _ _ _ dX2_giveBack_49 (by omega) (Or.inr ⟨by omega, rfl, (by rw [q45.2 18 (by omega), upD_n (Or.inr (by decide)), upD_s]), (by rw [q45.2 18 (by omega), upD_s]), (by rw [q45.1, frm.row (a := 18) (n := 1) (D := D) ((frm.rf.up (by omega)).up (by omega)) (by omega)]), fun c c1 c2 => (by rw [q45.2 c c2, upD_other c1, upD_other c1])⟩)
  · refine q_iconst hA dX2_giveBack_7 ?_
    exact hR 8 _ _ _ dX2_giveBack_8 (by omega) (by exact Or.inl ⟨by omega, rfl, rfl⟩)
