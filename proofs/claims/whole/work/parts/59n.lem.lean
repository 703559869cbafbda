/-! the constructors -/
abbrev okS (a t : Nat) : Prop := Sx[a]? = some (6, 10) ∧ ∀ k, k < 6 → Sx[a + 1 + k]? = some (100, 8) ∧ wAt (t + k) = (a, k, a + 1 + k) ∧ wfr (t + k) (a + 1 + k) = true
theorem ow_X7_9 : ∀ (C : String) (T : u_T) (N : Nat), vwCl[6]? = some (C, T, N) → Cond.fieldLink RX7 9 (T 0).1 (T 0).2.1 (T 0).2.2.1 ∈ Wd ∧ (T 0).1 = RX7 := fun C T N h => by cases h; exact ⟨inT 51 (by decide +kernel) (by decide +kernel), by decide +kernel⟩
theorem ow_X7_15 : ∀ (C : String) (T : u_T) (N : Nat), vwCl[6]? = some (C, T, N) → Cond.fieldLink RX7 15 (T 1).1 (T 1).2.1 (T 1).2.2.1 ∈ Wd ∧ (T 1).1 = RX7 := fun C T N h => by cases h; exact ⟨inT 53 (by decide +kernel) (by decide +kernel), by decide +kernel⟩
theorem ow_X7_18 : ∀ (C : String) (T : u_T) (N : Nat), vwCl[6]? = some (C, T, N) → Cond.fieldLink RX7 18 (T 2).1 (T 2).2.1 (T 2).2.2.1 ∈ Wd ∧ (T 2).1 = RX7 := fun C T N h => by cases h; exact ⟨inT 55 (by decide +kernel) (by decide +kernel), by decide +kernel⟩
theorem ow_X7_21 : ∀ (C : String) (T : u_T) (N : Nat), vwCl[6]? = some (C, T, N) → Cond.fieldLink RX7 21 (T 3).1 (T 3).2.1 (T 3).2.2.1 ∈ Wd ∧ (T 3).1 = RX7 := fun C T N h => by cases h; exact ⟨inT 57 (by decide +kernel) (by decide +kernel), by decide +kernel⟩
theorem ow_X7_24 : ∀ (C : String) (T : u_T) (N : Nat), vwCl[6]? = some (C, T, N) → Cond.fieldLink RX7 24 (T 4).1 (T 4).2.1 (T 4).2.2.1 ∈ Wd ∧ (T 4).1 = RX7 := fun C T N h => by cases h; exact ⟨inT 59 (by decide +kernel) (by decide +kernel), by decide +kernel⟩
theorem ow_X7_27 : ∀ (C : String) (T : u_T) (N : Nat), vwCl[6]? = some (C, T, N) → Cond.fieldLink RX7 27 (T 5).1 (T 5).2.1 (T 5).2.2.1 ∈ Wd ∧ (T 5).1 = RX7 := fun C T N h => by cases h; exact ⟨inT 61 (by decide +kernel) (by decide +kernel), by decide +kernel⟩
set_option maxHeartbeats 4000000 in
set_option maxRecDepth 100000 in
theorem zX7_init {g : Gm} {l : Launch} {D : Dat} {a t : Nat} (h : okS a t) (ha : a + 7 ≤ 305) (hD : ∀ b, a < b → ∀ i, D b i = 0) : CnI g l 1 mX7_init a (a + 1) (a + 7) t (t + 6) D D := by
  refine CnI.of (lo0 := [vR a]) rfl (by decide) (Nat.le_of_ble_eq_true rfl) rfl (by omega) (fun K hA hR => ?_)
  obtain ⟨ini, hi, hA0⟩ := id hA
  refine r_aload_n (j := 0) hA0 rfl dX7_init_0 ?_
  refine r_objInit hA0 oi_X7_3 (by decide) (by omega) dX7_init_1 ?_
  refine r_aload_n (j := 0) hA0 rfl dX7_init_4 ?_
  refine r_bipush hA0 (by decide) dX7_init_5 ?_
  refine y_newaI (c := a + 1) (t := t) (n := 8) hA (h.2 0 (by decide)).1 (by decide) (by omega) (h.2 0 (by decide)).2.2 (hD _ (by omega)) dX7_init_7 ?_
  refine y_putR (c := a + 2) (t := t) (a := a) (b := a + 1) (n := 10) hA f_X7_9 (fun z => ⟨rfl, rfl⟩) ow_X7_9 h.1 (by omega) (by decide) (h.2 0 (by decide)).2.1 dX7_init_9 ?_
  refine r_aload_n (j := 0) hA0 rfl dX7_init_12 ?_
  refine r_bipush hA0 (by decide) dX7_init_13 ?_
  refine y_newaI (c := a + 2) (t := t + 1) (n := 8) hA (h.2 1 (by decide)).1 (by decide) (by omega) (h.2 1 (by decide)).2.2 (hD _ (by omega)) dX7_init_15 ?_
  refine y_putR (c := a + 3) (t := t + 1) (a := a) (b := a + 2) (n := 10) hA f_X7_15 (fun z => ⟨rfl, rfl⟩) ow_X7_15 h.1 (by omega) (by decide) (h.2 1 (by decide)).2.1 dX7_init_17 ?_
  refine r_aload_n (j := 0) hA0 rfl dX7_init_20 ?_
  refine r_bipush hA0 (by decide) dX7_init_21 ?_
  refine y_newaI (c := a + 3) (t := t + 2) (n := 8) hA (h.2 2 (by decide)).1 (by decide) (by omega) (h.2 2 (by decide)).2.2 (hD _ (by omega)) dX7_init_23 ?_
  refine y_putR (c := a + 4) (t := t + 2) (a := a) (b := a + 3) (n := 10) hA f_X7_18 (fun z => ⟨rfl, rfl⟩) ow_X7_18 h.1 (by omega) (by decide) (h.2 2 (by decide)).2.1 dX7_init_25 ?_
  refine r_aload_n (j := 0) hA0 rfl dX7_init_28 ?_
  refine r_bipush hA0 (by decide) dX7_init_29 ?_
  refine y_newaI (c := a + 4) (t := t + 3) (n := 8) hA (h.2 3 (by decide)).1 (by decide) (by omega) (h.2 3 (by decide)).2.2 (hD _ (by omega)) dX7_init_31 ?_
  refine y_putR (c := a + 5) (t := t + 3) (a := a) (b := a + 4) (n := 10) hA f_X7_21 (fun z => ⟨rfl, rfl⟩) ow_X7_21 h.1 (by omega) (by decide) (h.2 3 (by decide)).2.1 dX7_init_33 ?_
  refine r_aload_n (j := 0) hA0 rfl dX7_init_36 ?_
  refine r_bipush hA0 (by decide) dX7_init_37 ?_
  refine y_newaI (c := a + 5) (t := t + 4) (n := 8) hA (h.2 4 (by decide)).1 (by decide) (by omega) (h.2 4 (by decide)).2.2 (hD _ (by omega)) dX7_init_39 ?_
  refine y_putR (c := a + 6) (t := t + 4) (a := a) (b := a + 5) (n := 10) hA f_X7_24 (fun z => ⟨rfl, rfl⟩) ow_X7_24 h.1 (by omega) (by decide) (h.2 4 (by decide)).2.1 dX7_init_41 ?_
  refine r_aload_n (j := 0) hA0 rfl dX7_init_44 ?_
  refine r_bipush hA0 (by decide) dX7_init_45 ?_
  refine y_newaI (c := a + 6) (t := t + 5) (n := 8) hA (h.2 5 (by decide)).1 (by decide) (by omega) (h.2 5 (by decide)).2.2 (hD _ (by omega)) dX7_init_47 ?_
  refine y_putR (c := a + 7) (t := t + 5) (a := a) (b := a + 6) (n := 10) hA f_X7_27 (fun z => ⟨rfl, rfl⟩) ow_X7_27 h.1 (by omega) (by decide) (h.2 5 (by decide)).2.1 dX7_init_49 ?_
  exact hR 52 _ dX7_init_52
abbrev okH (a t : Nat) : Prop := Sx[a]? = some (5, 3) ∧ Sx[a + 1]? = some (101, 24) ∧ wAt t = (a, 0, a + 1) ∧ wfr t (a + 1) = true
theorem ow_X6_9 : ∀ (C : String) (T : u_T) (N : Nat), vwCl[5]? = some (C, T, N) → Cond.fieldLink RX6 9 (T 0).1 (T 0).2.1 (T 0).2.2.1 ∈ Wd ∧ (T 0).1 = RX6 := fun C T N h => by cases h; exact ⟨inT 226 (by decide +kernel) (by decide +kernel), by decide +kernel⟩
set_option maxHeartbeats 4000000 in
set_option maxRecDepth 100000 in
theorem zX6_init {g : Gm} {l : Launch} {D : Dat} {a t : Nat} (h : okH a t) (ha : a + 2 ≤ 305) (hD : ∀ b, a < b → ∀ i, D b i = 0) : CnI g l 1 mX6_init a (a + 1) (a + 2) t (t + 1) D (upD D a 1 (-1)) := by
  refine CnI.of (lo0 := [vR a]) rfl (by decide) (Nat.le_of_ble_eq_true rfl) rfl (by omega) (fun K hA hR => ?_)
  obtain ⟨ini, hi, hA0⟩ := id hA
  refine r_aload_n (j := 0) hA0 rfl dX6_init_0 ?_
  refine r_objInit hA0 oi_X6_3 (by decide) (by omega) dX6_init_1 ?_
  refine r_aload_n (j := 0) hA0 rfl dX6_init_4 ?_
  refine r_bipush hA0 (by decide) dX6_init_5 ?_
  refine y_newaL (c := a + 1) (t := t) (n := 24) hA h.2.1 (by decide) (by omega) h.2.2.2 (hD _ (by omega)) dX6_init_7 ?_
  refine y_putR (c := a + 2) (t := t) (a := a) (b := a + 1) (n := 3) hA f_X6_9 (fun z => ⟨rfl, rfl⟩) ow_X6_9 h.1 (by omega) (by decide) h.2.2.1 dX6_init_9 ?_
  refine r_aload_n (j := 0) hA0 rfl dX6_init_12 ?_
  refine r_iconst hA0 dX6_init_13 ?_
  refine y_putI (c := a + 2) (t := t + 1) (a := a) (n := 3) hA f_X6_15 h.1 (by omega) (by decide) dX6_init_14 ?_
  exact hR 17 _ dX6_init_17
theorem ow_X8_11 : ∀ (C : String) (T : u_T) (N : Nat), vwCl[7]? = some (C, T, N) → Cond.fieldLink RX8 11 (T 0).1 (T 0).2.1 (T 0).2.2.1 ∈ Wd ∧ (T 0).1 = RX8 := fun C T N h => by cases h; exact ⟨inT 29 (by decide +kernel) (by decide +kernel), by decide +kernel⟩
set_option maxHeartbeats 4000000 in
set_option maxRecDepth 100000 in
theorem zX8_init {g : Gm} {l : Launch} {D : Dat} (hD : ∀ b, 1 < b → ∀ i, D b i = 0) : CnI g l 1 mX8_init 1 2 3 0 1 D D := by
  refine CnI.of (lo0 := [vR 1]) rfl (by decide) (Nat.le_of_ble_eq_true rfl) rfl (by decide) (fun K hA hR => ?_)
  obtain ⟨ini, hi, hA0⟩ := id hA
  refine r_aload_n (j := 0) hA0 rfl dX8_init_0 ?_
  refine r_objInit hA0 oi_X8_3 (by decide) (by omega) dX8_init_1 ?_
  refine r_aload_n (j := 0) hA0 rfl dX8_init_4 ?_
  refine r_bipush hA0 (by decide) dX8_init_5 ?_
  refine y_newaI (c := 2) (t := 0) (n := 80) hA (by decide +kernel) (by decide) (by decide) (by decide +kernel) (hD _ (by omega)) dX8_init_7 ?_
  refine y_putR (c := 3) (t := 0) (a := 1) (b := 2) (n := 2) hA f_X8_11 (fun z => ⟨rfl, rfl⟩) ow_X8_11 (by decide +kernel) (by omega) (by decide) (by decide +kernel) dX8_init_9 ?_
  exact hR 12 _ dX8_init_12
theorem ow_X5_12 : ∀ (C : String) (T : u_T) (N : Nat), vwCl[4]? = some (C, T, N) → Cond.fieldLink RX5 12 (T 0).1 (T 0).2.1 (T 0).2.2.1 ∈ Wd ∧ (T 0).1 = RX5 := fun C T N h => by cases h; exact ⟨inT 99 (by decide +kernel) (by decide +kernel), by decide +kernel⟩
set_option maxHeartbeats 4000000 in
set_option maxRecDepth 100000 in
theorem zX5_init {g : Gm} {l : Launch} {D : Dat} (hD : ∀ b, 3 < b → ∀ i, D b i = 0) : CnI g l 2 mX5_init 3 4 11 2 9 D D := by
  refine CnI.of (lo0 := [vR 3]) rfl (by decide) (Nat.le_of_ble_eq_true rfl) rfl (by decide) (fun K hA hR => ?_)
  obtain ⟨ini, hi, hA0⟩ := id hA
  refine r_aload_n (j := 0) hA0 rfl dX5_init_0 ?_
  refine r_objInit hA0 oi_X5_3 (by decide) (by omega) dX5_init_1 ?_
  refine r_aload_n (j := 0) hA0 rfl dX5_init_4 ?_
  refine y_new (c := 4) (t := 2) (ci := 6) (ty := tyX7) hA rfl (by decide) ck_X7 cl_X5_9 is_X7 tyX7_ok (by decide +kernel) (by decide +kernel) (by decide) (by decide +kernel) (hD _ (by omega)) dX5_init_5 ?_
  refine r_dupR hA0 dX5_init_8 ?_
  refine y_callI (c := 5) (t := 2) (e2 := 11) (u := 8) (b := 4) (D2 := D) hA l_X5_11 kX7_init (zX7_init (by decide +kernel) (by decide) (fun b hb => hD b (by omega))) dX5_init_9 (by decide) (by omega) (by omega) ?_
  refine y_putR (c := 11) (t := 8) (a := 3) (b := 4) (n := 2) hA f_X5_12 (fun z => ⟨rfl, rfl⟩) ow_X5_12 (by decide +kernel) (by omega) (by decide) (by decide +kernel) dX5_init_12 ?_
  exact hR 15 _ dX5_init_15
theorem ow_X4_11 : ∀ (C : String) (T : u_T) (N : Nat), vwCl[3]? = some (C, T, N) → Cond.fieldLink RX4 11 (T 0).1 (T 0).2.1 (T 0).2.2.1 ∈ Wd ∧ (T 0).1 = RX4 := fun C T N h => by cases h; exact ⟨inT 138 (by decide +kernel) (by decide +kernel), by decide +kernel⟩
theorem ow_X4_15 : ∀ (C : String) (T : u_T) (N : Nat), vwCl[3]? = some (C, T, N) → Cond.fieldLink RX4 15 (T 1).1 (T 1).2.1 (T 1).2.2.1 ∈ Wd ∧ (T 1).1 = RX4 := fun C T N h => by cases h; exact ⟨inT 139 (by decide +kernel) (by decide +kernel), by decide +kernel⟩
theorem ow_X4_18 : ∀ (C : String) (T : u_T) (N : Nat), vwCl[3]? = some (C, T, N) → Cond.fieldLink RX4 18 (T 2).1 (T 2).2.1 (T 2).2.2.1 ∈ Wd ∧ (T 2).1 = RX4 := fun C T N h => by cases h; exact ⟨inT 140 (by decide +kernel) (by decide +kernel), by decide +kernel⟩
theorem ow_X4_21 : ∀ (C : String) (T : u_T) (N : Nat), vwCl[3]? = some (C, T, N) → Cond.fieldLink RX4 21 (T 3).1 (T 3).2.1 (T 3).2.2.1 ∈ Wd ∧ (T 3).1 = RX4 := fun C T N h => by cases h; exact ⟨inT 141 (by decide +kernel) (by decide +kernel), by decide +kernel⟩
theorem ow_X4_24 : ∀ (C : String) (T : u_T) (N : Nat), vwCl[3]? = some (C, T, N) → Cond.fieldLink RX4 24 (T 4).1 (T 4).2.1 (T 4).2.2.1 ∈ Wd ∧ (T 4).1 = RX4 := fun C T N h => by cases h; exact ⟨inT 142 (by decide +kernel) (by decide +kernel), by decide +kernel⟩
set_option maxHeartbeats 4000000 in
set_option maxRecDepth 100000 in
theorem zX4_init {g : Gm} {l : Launch} {D : Dat} (hD : ∀ b, 190 < b → ∀ i, D b i = 0) : CnI g l 1 mX4_init 190 191 196 189 194 D D := by
  refine CnI.of (lo0 := [vR 190]) rfl (by decide) (Nat.le_of_ble_eq_true rfl) rfl (by decide) (fun K hA hR => ?_)
  obtain ⟨ini, hi, hA0⟩ := id hA
  refine r_aload_n (j := 0) hA0 rfl dX4_init_0 ?_
  refine r_objInit hA0 oi_X4_5 (by decide) (by omega) dX4_init_1 ?_
  refine r_aload_n (j := 0) hA0 rfl dX4_init_4 ?_
  refine r_sipush hA0 (by decide) dX4_init_5 ?_
  refine y_newaI (c := 191) (t := 189) (n := 192) hA (by decide +kernel) (by decide) (by decide) (by decide +kernel) (hD _ (by omega)) dX4_init_8 ?_
  refine y_putR (c := 192) (t := 189) (a := 190) (b := 191) (n := 6) hA f_X4_11 (fun z => ⟨rfl, rfl⟩) ow_X4_11 (by decide +kernel) (by omega) (by decide) (by decide +kernel) dX4_init_10 ?_
  refine r_aload_n (j := 0) hA0 rfl dX4_init_13 ?_
  refine r_bipush hA0 (by decide) dX4_init_14 ?_
  refine y_newaI (c := 192) (t := 190) (n := 64) hA (by decide +kernel) (by decide) (by decide) (by decide +kernel) (hD _ (by omega)) dX4_init_16 ?_
  refine y_putR (c := 193) (t := 190) (a := 190) (b := 192) (n := 6) hA f_X4_15 (fun z => ⟨rfl, rfl⟩) ow_X4_15 (by decide +kernel) (by omega) (by decide) (by decide +kernel) dX4_init_18 ?_
  refine r_aload_n (j := 0) hA0 rfl dX4_init_21 ?_
  refine r_sipush hA0 (by decide) dX4_init_22 ?_
  refine y_newaI (c := 193) (t := 191) (n := 128) hA (by decide +kernel) (by decide) (by decide) (by decide +kernel) (hD _ (by omega)) dX4_init_25 ?_
  refine y_putR (c := 194) (t := 191) (a := 190) (b := 193) (n := 6) hA f_X4_18 (fun z => ⟨rfl, rfl⟩) ow_X4_18 (by decide +kernel) (by omega) (by decide) (by decide +kernel) dX4_init_27 ?_
  refine r_aload_n (j := 0) hA0 rfl dX4_init_30 ?_
  refine r_sipush hA0 (by decide) dX4_init_31 ?_
  refine y_newaI (c := 194) (t := 192) (n := 3328) hA (by decide +kernel) (by decide) (by decide) (by decide +kernel) (hD _ (by omega)) dX4_init_34 ?_
  refine y_putR (c := 195) (t := 192) (a := 190) (b := 194) (n := 6) hA f_X4_21 (fun z => ⟨rfl, rfl⟩) ow_X4_21 (by decide +kernel) (by omega) (by decide) (by decide +kernel) dX4_init_36 ?_
  refine r_aload_n (j := 0) hA0 rfl dX4_init_39 ?_
  refine r_sipush hA0 (by decide) dX4_init_40 ?_
  refine y_newaI (c := 195) (t := 193) (n := 512) hA (by decide +kernel) (by decide) (by decide) (by decide +kernel) (hD _ (by omega)) dX4_init_43 ?_
  refine y_putR (c := 196) (t := 193) (a := 190) (b := 195) (n := 6) hA f_X4_24 (fun z => ⟨rfl, rfl⟩) ow_X4_24 (by decide +kernel) (by omega) (by decide) (by decide +kernel) dX4_init_45 ?_
  exact hR 48 _ dX4_init_48
theorem ow_X0_12 : ∀ (C : String) (T : u_T) (N : Nat), vwCl[0]? = some (C, T, N) → Cond.fieldLink RX0 12 (T 0).1 (T 0).2.1 (T 0).2.2.1 ∈ Wd ∧ (T 0).1 = RX0 := fun C T N h => by cases h; exact ⟨inT 177 (by decide +kernel) (by decide +kernel), by decide +kernel⟩
theorem ow_X0_18 : ∀ (C : String) (T : u_T) (N : Nat), vwCl[0]? = some (C, T, N) → Cond.fieldLink RX0 18 (T 1).1 (T 1).2.1 (T 1).2.2.1 ∈ Wd ∧ (T 1).1 = RX0 := fun C T N h => by cases h; exact ⟨inT 178 (by decide +kernel) (by decide +kernel), by decide +kernel⟩
theorem ow_X0_22 : ∀ (C : String) (T : u_T) (N : Nat), vwCl[0]? = some (C, T, N) → Cond.fieldLink RX0 22 (T 2).1 (T 2).2.1 (T 2).2.2.1 ∈ Wd ∧ (T 2).1 = RX0 := fun C T N h => by cases h; exact ⟨inT 179 (by decide +kernel) (by decide +kernel), by decide +kernel⟩
theorem ow_X0_25 : ∀ (C : String) (T : u_T) (N : Nat), vwCl[0]? = some (C, T, N) → Cond.fieldLink RX0 25 (T 3).1 (T 3).2.1 (T 3).2.2.1 ∈ Wd ∧ (T 3).1 = RX0 := fun C T N h => by cases h; exact ⟨inT 180 (by decide +kernel) (by decide +kernel), by decide +kernel⟩
theorem ow_X0_28 : ∀ (C : String) (T : u_T) (N : Nat), vwCl[0]? = some (C, T, N) → Cond.fieldLink RX0 28 (T 4).1 (T 4).2.1 (T 4).2.2.1 ∈ Wd ∧ (T 4).1 = RX0 := fun C T N h => by cases h; exact ⟨inT 181 (by decide +kernel) (by decide +kernel), by decide +kernel⟩
theorem ow_X0_31 : ∀ (C : String) (T : u_T) (N : Nat), vwCl[0]? = some (C, T, N) → Cond.fieldLink RX0 31 (T 5).1 (T 5).2.1 (T 5).2.2.1 ∈ Wd ∧ (T 5).1 = RX0 := fun C T N h => by cases h; exact ⟨inT 182 (by decide +kernel) (by decide +kernel), by decide +kernel⟩
theorem ow_X0_34 : ∀ (C : String) (T : u_T) (N : Nat), vwCl[0]? = some (C, T, N) → Cond.fieldLink RX0 34 (T 6).1 (T 6).2.1 (T 6).2.2.1 ∈ Wd ∧ (T 6).1 = RX0 := fun C T N h => by cases h; exact ⟨inT 183 (by decide +kernel) (by decide +kernel), by decide +kernel⟩
set_option maxHeartbeats 4000000 in
set_option maxRecDepth 100000 in
theorem zX0_init {g : Gm} {l : Launch} {D : Dat} (hD : ∀ b, 247 < b → ∀ i, D b i = 0) : CnI g l 2 mX0_init 247 248 261 246 259 D D := by
  refine CnI.of (lo0 := [vR 247]) rfl (by decide) (Nat.le_of_ble_eq_true rfl) rfl (by decide) (fun K hA hR => ?_)
  obtain ⟨ini, hi, hA0⟩ := id hA
  refine r_aload_n (j := 0) hA0 rfl dX0_init_0 ?_
  refine r_objInit hA0 oi_X0_3 (by decide) (by omega) dX0_init_1 ?_
  refine r_aload_n (j := 0) hA0 rfl dX0_init_4 ?_
  refine y_new (c := 248) (t := 246) (ci := 6) (ty := tyX7) hA rfl (by decide) ck_X7 cl_X0_9 is_X7 tyX7_ok (by decide +kernel) (by decide +kernel) (by decide) (by decide +kernel) (hD _ (by omega)) dX0_init_5 ?_
  refine r_dupR hA0 dX0_init_8 ?_
  refine y_callI (c := 249) (t := 246) (e2 := 255) (u := 252) (b := 248) (D2 := D) hA l_X0_11 kX7_init (zX7_init (by decide +kernel) (by decide) (fun b hb => hD b (by omega))) dX0_init_9 (by decide) (by omega) (by omega) ?_
  refine y_putR (c := 255) (t := 252) (a := 247) (b := 248) (n := 14) hA f_X0_12 (fun z => ⟨rfl, rfl⟩) ow_X0_12 (by decide +kernel) (by omega) (by decide) (by decide +kernel) dX0_init_12 ?_
  refine r_aload_n (j := 0) hA0 rfl dX0_init_15 ?_
  refine r_bipush hA0 (by decide) dX0_init_16 ?_
  refine y_newaI (c := 255) (t := 253) (n := 20) hA (by decide +kernel) (by decide) (by decide) (by decide +kernel) (hD _ (by omega)) dX0_init_18 ?_
  refine y_putR (c := 256) (t := 253) (a := 247) (b := 255) (n := 14) hA f_X0_18 (fun z => ⟨rfl, rfl⟩) ow_X0_18 (by decide +kernel) (by omega) (by decide) (by decide +kernel) dX0_init_20 ?_
  refine r_aload_n (j := 0) hA0 rfl dX0_init_23 ?_
  refine r_bipush hA0 (by decide) dX0_init_24 ?_
  refine y_newaI (c := 256) (t := 254) (n := 20) hA (by decide +kernel) (by decide) (by decide) (by decide +kernel) (hD _ (by omega)) dX0_init_26 ?_
  refine y_putR (c := 257) (t := 254) (a := 247) (b := 256) (n := 14) hA f_X0_22 (fun z => ⟨rfl, rfl⟩) ow_X0_22 (by decide +kernel) (by omega) (by decide) (by decide +kernel) dX0_init_28 ?_
  refine r_aload_n (j := 0) hA0 rfl dX0_init_31 ?_
  refine r_bipush hA0 (by decide) dX0_init_32 ?_
  refine y_newaI (c := 257) (t := 255) (n := 20) hA (by decide +kernel) (by decide) (by decide) (by decide +kernel) (hD _ (by omega)) dX0_init_34 ?_
  refine y_putR (c := 258) (t := 255) (a := 247) (b := 257) (n := 14) hA f_X0_25 (fun z => ⟨rfl, rfl⟩) ow_X0_25 (by decide +kernel) (by omega) (by decide) (by decide +kernel) dX0_init_36 ?_
  refine r_aload_n (j := 0) hA0 rfl dX0_init_39 ?_
  refine r_bipush hA0 (by decide) dX0_init_40 ?_
  refine y_newaI (c := 258) (t := 256) (n := 8) hA (by decide +kernel) (by decide) (by decide) (by decide +kernel) (hD _ (by omega)) dX0_init_42 ?_
  refine y_putR (c := 259) (t := 256) (a := 247) (b := 258) (n := 14) hA f_X0_28 (fun z => ⟨rfl, rfl⟩) ow_X0_28 (by decide +kernel) (by omega) (by decide) (by decide +kernel) dX0_init_44 ?_
  refine r_aload_n (j := 0) hA0 rfl dX0_init_47 ?_
  refine r_bipush hA0 (by decide) dX0_init_48 ?_
  refine y_newaI (c := 259) (t := 257) (n := 8) hA (by decide +kernel) (by decide) (by decide) (by decide +kernel) (hD _ (by omega)) dX0_init_50 ?_
  refine y_putR (c := 260) (t := 257) (a := 247) (b := 259) (n := 14) hA f_X0_31 (fun z => ⟨rfl, rfl⟩) ow_X0_31 (by decide +kernel) (by omega) (by decide) (by decide +kernel) dX0_init_52 ?_
  refine r_aload_n (j := 0) hA0 rfl dX0_init_55 ?_
  refine r_bipush hA0 (by decide) dX0_init_56 ?_
  refine y_newaI (c := 260) (t := 258) (n := 18) hA (by decide +kernel) (by decide) (by decide) (by decide +kernel) (hD _ (by omega)) dX0_init_58 ?_
  refine y_putR (c := 261) (t := 258) (a := 247) (b := 260) (n := 14) hA f_X0_34 (fun z => ⟨rfl, rfl⟩) ow_X0_34 (by decide +kernel) (by omega) (by decide) (by decide +kernel) dX0_init_60 ?_
  exact hR 63 _ dX0_init_63
