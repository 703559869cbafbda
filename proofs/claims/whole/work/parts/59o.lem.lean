/-! constructors with loops -/
def shD (D : Dat) : Nat → Dat
  | 0 => D
  | i + 1 => upD (shD D i) (275 + 2 * i) 1 (-1)
theorem shD_z {D : Dat} (h : ∀ b, 275 ≤ b → ∀ i, D b i = 0) : ∀ (i : Nat) {b : Nat}, 275 + 2 * i ≤ b → ∀ j, shD D i b j = 0
  | 0, b, hb, j => h b (by omega) j
  | i + 1, b, hb, j => by
    rw [shD, upD_other (by omega)]
    exact shD_z h i (by omega) j
theorem tL_X2 : ∀ i, i < 25 → wF (18 + 7 * i) 18 0 = some 19 := by decide +kernel
theorem tM_X2 : ∀ i, i < 24 → wfr (18 + 7 * i) (20 + 7 * i) = true ∧ okS (20 + 7 * i) (18 + 7 * i) ∧ wAt (18 + 7 * i + 6) = (19, i, 20 + 7 * i) := by decide +kernel
set_option maxHeartbeats 4000000 in
set_option maxRecDepth 100000 in
theorem lp_X2 {g : Gm} {l : Launch} {D : Dat} {d e : Nat} {K : KT} (hd : 2 ≤ d) (he : 188 ≤ e ∧ e ≤ 305) (hD : ∀ b, 20 ≤ b → ∀ i, D b i = 0) (hA : YA g l RX2 cX2_init 2 d 19 e K) (kx : K 40 [vR 18, vI ((24 : Nat) : Int)] [] (Sx.take 188) (wF 186) D) : ∀ n i : Nat, i + n = 24 → K 15 [vR 18, vI ((i : Nat) : Int)] [] (Sx.take (20 + 7 * i)) (wF (18 + 7 * i)) D := by
  obtain ⟨ini, hi, hA0⟩ := id hA
  intro n
  induction n with
  | zero =>
    intro i hin
    have e1 : i = 24 := by omega
    subst e1
    refine r_iload_n (j := 1) hA0 rfl dX2_init_15 ?_
    refine r_bipush hA0 (by decide) dX2_init_16 ?_
    exact r_icmp_ge (tgt := 40) hA0 (by omega) (by omega) dX2_init_18 (by decide) (fun h => kx) (fun h => absurd h (by omega))
  | succ n ih =>
    intro i hin
    have hL := tL_X2 i (by omega)
    obtain ⟨h1, h2, h3⟩ := tM_X2 i (by omega)
    refine r_iload_n (j := 1) hA0 rfl dX2_init_15 ?_
    refine r_bipush hA0 (by decide) dX2_init_16 ?_
    refine r_icmp_ge (tgt := 40) hA0 (by omega) (by omega) dX2_init_18 (by decide) (fun h => absurd h (by omega)) (fun h => ?_)
    refine r_aload_n (j := 0) hA0 rfl dX2_init_21 ?_
    refine y_getR (a := 18) (k := 0) (n := 3) (b := 19) hA f_X2_11 (by decide +kernel) (by omega) (by decide) hL dX2_init_22 ?_
    refine r_iload_n (j := 1) hA0 rfl dX2_init_25 ?_
    refine y_new (c := 20 + 7 * i) (t := 18 + 7 * i) (ci := 6) (ty := tyX7) hA rfl (by decide) ck_X7 cl_X2_9 is_X7 tyX7_ok (by decide +kernel) h2.1 (by omega) h1 (hD _ (by omega)) dX2_init_26 ?_
    refine r_dupR hA0 dX2_init_29 ?_
    refine y_callI (c := 20 + 7 * i + 1) (t := 18 + 7 * i) (e2 := 20 + 7 * i + 7) (u := 18 + 7 * i + 6) (b := 20 + 7 * i) (D2 := D) hA l_X2_15 kX7_init (zX7_init h2 (by omega) (fun b hb => hD b (by omega))) dX2_init_30 (Nat.le_of_ble_eq_true rfl) (by omega) (by omega) ?_
    refine y_aastS (c := 20 + 7 * i + 7) (t := 18 + 7 * i + 6) (a := 19) (b := 20 + 7 * i) (n := 24) (i := i) hA (by decide +kernel) (by omega) h2.1 (by omega) (by omega) (by decide) h3 dX2_init_33 ?_
    refine r_iinc (lo2 := [vR 18, vI ((i + 1 : Nat) : Int)]) hA0 dX2_init_34 rfl (by decide) rfl rfl ?_
    refine r_goto (tgt := 15) hA0 dX2_init_37 (by decide) ?_
    have := ih (i + 1) (by omega)
    rw [show 20 + 7 * (i + 1) = 20 + 7 * i + 7 by omega, show 18 + 7 * (i + 1) = 18 + 7 * i + 7 by omega] at this
    exact this
theorem tL_X1 : ∀ i, i < 8 → wF (196 + 7 * i) 196 0 = some 197 := by decide +kernel
theorem tM_X1 : ∀ i, i < 7 → wfr (196 + 7 * i) (198 + 7 * i) = true ∧ okS (198 + 7 * i) (196 + 7 * i) ∧ wAt (196 + 7 * i + 6) = (197, i, 198 + 7 * i) := by decide +kernel
set_option maxHeartbeats 4000000 in
set_option maxRecDepth 100000 in
theorem lp_X1 {g : Gm} {l : Launch} {D : Dat} {d e : Nat} {K : KT} (hd : 2 ≤ d) (he : 247 ≤ e ∧ e ≤ 305) (hD : ∀ b, 198 ≤ b → ∀ i, D b i = 0) (hA : YA g l RX1 cX1_init 2 d 197 e K) (kx : K 43 [vR 196, vI ((7 : Nat) : Int)] [] (Sx.take 247) (wF 245) D) : ∀ n i : Nat, i + n = 7 → K 15 [vR 196, vI ((i : Nat) : Int)] [] (Sx.take (198 + 7 * i)) (wF (196 + 7 * i)) D := by
  obtain ⟨ini, hi, hA0⟩ := id hA
  intro n
  induction n with
  | zero =>
    intro i hin
    have e1 : i = 7 := by omega
    subst e1
    refine r_iload_n (j := 1) hA0 rfl dX1_init_15 ?_
    refine r_aload_n (j := 0) hA0 rfl dX1_init_16 ?_
    refine y_getR (a := 196) (k := 0) (n := 1) (b := 197) hA f_X1_11 (by decide +kernel) (by omega) (by decide) (tL_X1 _ (by omega)) dX1_init_17 ?_
    refine r_alen (n := 7) (kd := 103) hA0 (by decide) dX1_init_20 (by rw [tk_at (by omega)]; decide +kernel) ?_
    exact r_icmp_ge (tgt := 43) hA0 (by omega) (by omega) dX1_init_21 (by decide) (fun h => kx) (fun h => absurd h (by omega))
  | succ n ih =>
    intro i hin
    have hL := tL_X1 i (by omega)
    obtain ⟨h1, h2, h3⟩ := tM_X1 i (by omega)
    refine r_iload_n (j := 1) hA0 rfl dX1_init_15 ?_
    refine r_aload_n (j := 0) hA0 rfl dX1_init_16 ?_
    refine y_getR (a := 196) (k := 0) (n := 1) (b := 197) hA f_X1_11 (by decide +kernel) (by omega) (by decide) (tL_X1 _ (by omega)) dX1_init_17 ?_
    refine r_alen (n := 7) (kd := 103) hA0 (by decide) dX1_init_20 (by rw [tk_at (by omega)]; decide +kernel) ?_
    refine r_icmp_ge (tgt := 43) hA0 (by omega) (by omega) dX1_init_21 (by decide) (fun h => absurd h (by omega)) (fun h => ?_)
    refine r_aload_n (j := 0) hA0 rfl dX1_init_24 ?_
    refine y_getR (a := 196) (k := 0) (n := 1) (b := 197) hA f_X1_11 (by decide +kernel) (by omega) (by decide) hL dX1_init_25 ?_
    refine r_iload_n (j := 1) hA0 rfl dX1_init_28 ?_
    refine y_new (c := 198 + 7 * i) (t := 196 + 7 * i) (ci := 6) (ty := tyX7) hA rfl (by decide) ck_X7 cl_X1_9 is_X7 tyX7_ok (by decide +kernel) h2.1 (by omega) h1 (hD _ (by omega)) dX1_init_29 ?_
    refine r_dupR hA0 dX1_init_32 ?_
    refine y_callI (c := 198 + 7 * i + 1) (t := 196 + 7 * i) (e2 := 198 + 7 * i + 7) (u := 196 + 7 * i + 6) (b := 198 + 7 * i) (D2 := D) hA l_X1_17 kX7_init (zX7_init h2 (by omega) (fun b hb => hD b (by omega))) dX1_init_33 (Nat.le_of_ble_eq_true rfl) (by omega) (by omega) ?_
    refine y_aastS (c := 198 + 7 * i + 7) (t := 196 + 7 * i + 6) (a := 197) (b := 198 + 7 * i) (n := 7) (i := i) hA (by decide +kernel) (by omega) h2.1 (by omega) (by omega) (by decide) h3 dX1_init_36 ?_
    refine r_iinc (lo2 := [vR 196, vI ((i + 1 : Nat) : Int)]) hA0 dX1_init_37 rfl (by decide) rfl rfl ?_
    refine r_goto (tgt := 15) hA0 dX1_init_40 (by decide) ?_
    have := ih (i + 1) (by omega)
    rw [show 198 + 7 * (i + 1) = 198 + 7 * i + 7 by omega, show 196 + 7 * (i + 1) = 196 + 7 * i + 7 by omega] at this
    exact this
theorem tL_X9a : ∀ i, i < 3 → wF (260 + 7 * i) 0 4 = some 188 := by decide +kernel
theorem tM_X9a : ∀ i, i < 2 → wfr (260 + 7 * i) (261 + 7 * i) = true ∧ okS (261 + 7 * i) (260 + 7 * i) ∧ wAt (260 + 7 * i + 6) = (188, i, 261 + 7 * i) := by decide +kernel
set_option maxHeartbeats 4000000 in
set_option maxRecDepth 100000 in
theorem lp_X9a {g : Gm} {l : Launch} {D : Dat} {d e : Nat} {K : KT} (hd : 2 ≤ d) (he : 275 ≤ e ∧ e ≤ 305) (hD : ∀ b, 261 ≤ b → ∀ i, D b i = 0) (hA : YA g l RX9 cX9_init 2 d 1 e K) (kx : K 123 [vR 0, vI ((2 : Nat) : Int)] [] (Sx.take 275) (wF 274) D) : ∀ n i : Nat, i + n = 2 → K 99 [vR 0, vI ((i : Nat) : Int)] [] (Sx.take (261 + 7 * i)) (wF (260 + 7 * i)) D := by
  obtain ⟨ini, hi, hA0⟩ := id hA
  intro n
  induction n with
  | zero =>
    intro i hin
    have e1 : i = 2 := by omega
    subst e1
    refine r_iload_n (j := 1) hA0 rfl dX9_init_99 ?_
    refine r_iconst hA0 dX9_init_100 ?_
    exact r_icmp_ge (tgt := 123) hA0 (by omega) (by omega) dX9_init_101 (by decide) (fun h => kx) (fun h => absurd h (by omega))
  | succ n ih =>
    intro i hin
    have hL := tL_X9a i (by omega)
    obtain ⟨h1, h2, h3⟩ := tM_X9a i (by omega)
    refine r_iload_n (j := 1) hA0 rfl dX9_init_99 ?_
    refine r_iconst hA0 dX9_init_100 ?_
    refine r_icmp_ge (tgt := 123) hA0 (by omega) (by omega) dX9_init_101 (by decide) (fun h => absurd h (by omega)) (fun h => ?_)
    refine r_aload_n (j := 0) hA0 rfl dX9_init_104 ?_
    refine y_getR (a := 0) (k := 4) (n := 9) (b := 188) hA f_X9_37 (by decide +kernel) (by omega) (by decide) hL dX9_init_105 ?_
    refine r_iload_n (j := 1) hA0 rfl dX9_init_108 ?_
    refine y_new (c := 261 + 7 * i) (t := 260 + 7 * i) (ci := 6) (ty := tyX7) hA rfl (by decide) ck_X7 cl_X9_23 is_X7 tyX7_ok (by decide +kernel) h2.1 (by omega) h1 (hD _ (by omega)) dX9_init_109 ?_
    refine r_dupR hA0 dX9_init_112 ?_
    refine y_callI (c := 261 + 7 * i + 1) (t := 260 + 7 * i) (e2 := 261 + 7 * i + 7) (u := 260 + 7 * i + 6) (b := 261 + 7 * i) (D2 := D) hA l_X9_25 kX7_init (zX7_init h2 (by omega) (fun b hb => hD b (by omega))) dX9_init_113 (Nat.le_of_ble_eq_true rfl) (by omega) (by omega) ?_
    refine y_aastS (c := 261 + 7 * i + 7) (t := 260 + 7 * i + 6) (a := 188) (b := 261 + 7 * i) (n := 2) (i := i) hA (by decide +kernel) (by omega) h2.1 (by omega) (by omega) (by decide) h3 dX9_init_116 ?_
    refine r_iinc (lo2 := [vR 0, vI ((i + 1 : Nat) : Int)]) hA0 dX9_init_117 rfl (by decide) rfl rfl ?_
    refine r_goto (tgt := 99) hA0 dX9_init_120 (by decide) ?_
    have := ih (i + 1) (by omega)
    rw [show 261 + 7 * (i + 1) = 261 + 7 * i + 7 by omega, show 260 + 7 * (i + 1) = 260 + 7 * i + 7 by omega] at this
    exact this
theorem tL_X9b : ∀ i, i < 5 → wF (274 + 2 * i) 0 5 = some 189 := by decide +kernel
theorem tM_X9b : ∀ i, i < 4 → wfr (274 + 2 * i) (275 + 2 * i) = true ∧ okH (275 + 2 * i) (274 + 2 * i) ∧ wAt (274 + 2 * i + 1) = (189, i, 275 + 2 * i) := by decide +kernel
set_option maxHeartbeats 4000000 in
set_option maxRecDepth 100000 in
theorem lp_X9b {g : Gm} {l : Launch} {D : Dat} {d e : Nat} {K : KT} (hd : 2 ≤ d) (he : 283 ≤ e ∧ e ≤ 305) (hD : ∀ b, 275 ≤ b → ∀ i, D b i = 0) (hA : YA g l RX9 cX9_init 2 d 1 e K) (kx : K 149 [vR 0, vI ((4 : Nat) : Int)] [] (Sx.take 283) (wF 282) (shD D 4)) : ∀ n i : Nat, i + n = 4 → K 125 [vR 0, vI ((i : Nat) : Int)] [] (Sx.take (275 + 2 * i)) (wF (274 + 2 * i)) (shD D i) := by
  obtain ⟨ini, hi, hA0⟩ := id hA
  intro n
  induction n with
  | zero =>
    intro i hin
    have e1 : i = 4 := by omega
    subst e1
    refine r_iload_n (j := 1) hA0 rfl dX9_init_125 ?_
    refine r_iconst hA0 dX9_init_126 ?_
    exact r_icmp_ge (tgt := 149) hA0 (by omega) (by omega) dX9_init_127 (by decide) (fun h => kx) (fun h => absurd h (by omega))
  | succ n ih =>
    intro i hin
    have hL := tL_X9b i (by omega)
    obtain ⟨h1, h2, h3⟩ := tM_X9b i (by omega)
    have hZ : ∀ b, 275 + 2 * i ≤ b → ∀ j, shD D i b j = 0 := fun b hb j => shD_z hD i hb j
    refine r_iload_n (j := 1) hA0 rfl dX9_init_125 ?_
    refine r_iconst hA0 dX9_init_126 ?_
    refine r_icmp_ge (tgt := 149) hA0 (by omega) (by omega) dX9_init_127 (by decide) (fun h => absurd h (by omega)) (fun h => ?_)
    refine r_aload_n (j := 0) hA0 rfl dX9_init_130 ?_
    refine y_getR (a := 0) (k := 5) (n := 9) (b := 189) hA f_X9_43 (by decide +kernel) (by omega) (by decide) hL dX9_init_131 ?_
    refine r_iload_n (j := 1) hA0 rfl dX9_init_134 ?_
    refine y_new (c := 275 + 2 * i) (t := 274 + 2 * i) (ci := 5) (ty := tyX6) hA rfl (by decide) ck_X6 cl_X9_41 is_X6 tyX6_ok (by decide +kernel) h2.1 (by omega) h1 (hZ _ (by omega)) dX9_init_135 ?_
    refine r_dupR hA0 dX9_init_138 ?_
    refine y_callI (c := 275 + 2 * i + 1) (t := 274 + 2 * i) (e2 := 275 + 2 * i + 2) (u := 274 + 2 * i + 1) (b := 275 + 2 * i) (D2 := (shD D (i + 1))) hA l_X9_68 kX6_init (zX6_init h2 (by omega) (fun b hb => hZ b (by omega))) dX9_init_139 (Nat.le_of_ble_eq_true rfl) (by omega) (by omega) ?_
    refine y_aastH (c := 275 + 2 * i + 2) (t := 274 + 2 * i + 1) (a := 189) (b := 275 + 2 * i) (n := 4) (i := i) hA (by decide +kernel) (by omega) h2.1 (by omega) (by omega) (by decide) h3 dX9_init_142 ?_
    refine r_iinc (lo2 := [vR 0, vI ((i + 1 : Nat) : Int)]) hA0 dX9_init_143 rfl (by decide) rfl rfl ?_
    refine r_goto (tgt := 125) hA0 dX9_init_146 (by decide) ?_
    have := ih (i + 1) (by omega)
    rw [show 275 + 2 * (i + 1) = 275 + 2 * i + 2 by omega, show 274 + 2 * (i + 1) = 274 + 2 * i + 2 by omega] at this
    exact this
theorem ow_X2_11 : ∀ (C : String) (T : u_T) (N : Nat), vwCl[2]? = some (C, T, N) → Cond.fieldLink RX2 11 (T 0).1 (T 0).2.1 (T 0).2.2.1 ∈ Wd ∧ (T 0).1 = RX2 := fun C T N h => by cases h; exact ⟨inT 119 (by decide +kernel) (by decide +kernel), by decide +kernel⟩
set_option maxHeartbeats 4000000 in
set_option maxRecDepth 100000 in
theorem zX2_init {g : Gm} {l : Launch} {D : Dat} (hD : ∀ b, 18 < b → ∀ i, D b i = 0) : CnI g l 2 mX2_init 18 19 188 17 186 D D := by
  refine CnI.of (lo0 := [vR 18, vN]) rfl (by decide) (Nat.le_of_ble_eq_true rfl) rfl (by decide) (fun K hA hR => ?_)
  obtain ⟨ini, hi, hA0⟩ := id hA
  refine r_aload_n (j := 0) hA0 rfl dX2_init_0 ?_
  refine r_objInit hA0 oi_X2_1 (by decide) (by omega) dX2_init_1 ?_
  refine r_aload_n (j := 0) hA0 rfl dX2_init_4 ?_
  refine r_bipush hA0 (by decide) dX2_init_5 ?_
  refine y_anewS (c := 19) (t := 17) (n := 24) hA cl_X2_9 (by decide +kernel) (by decide) (by decide) (by decide +kernel) (hD _ (by omega)) dX2_init_7 ?_
  refine y_putR (c := 20) (t := 17) (a := 18) (b := 19) (n := 3) hA f_X2_11 (fun z => ⟨rfl, rfl⟩) ow_X2_11 (by decide +kernel) (by omega) (by decide) (by decide +kernel) dX2_init_10 ?_
  refine r_iconst hA0 dX2_init_13 ?_
  refine r_istore_n (j := 1) (lo2 := [vR 18, vI ((0 : Nat) : Int)]) hA0 dX2_init_14 (by decide) rfl rfl ?_
  exact lp_X2 (by omega) (by decide) (fun b hb => hD b (by omega)) hA (hR 40 _ dX2_init_40) 24 0 rfl
theorem ow_X1_11 : ∀ (C : String) (T : u_T) (N : Nat), vwCl[1]? = some (C, T, N) → Cond.fieldLink RX1 11 (T 0).1 (T 0).2.1 (T 0).2.2.1 ∈ Wd ∧ (T 0).1 = RX1 := fun C T N h => by cases h; exact ⟨inT 165 (by decide +kernel) (by decide +kernel), by decide +kernel⟩
set_option maxHeartbeats 4000000 in
set_option maxRecDepth 100000 in
theorem zX1_init {g : Gm} {l : Launch} {D : Dat} (hD : ∀ b, 196 < b → ∀ i, D b i = 0) : CnI g l 2 mX1_init 196 197 247 195 245 D D := by
  refine CnI.of (lo0 := [vR 196, vN]) rfl (by decide) (Nat.le_of_ble_eq_true rfl) rfl (by decide) (fun K hA hR => ?_)
  obtain ⟨ini, hi, hA0⟩ := id hA
  refine r_aload_n (j := 0) hA0 rfl dX1_init_0 ?_
  refine r_objInit hA0 oi_X1_3 (by decide) (by omega) dX1_init_1 ?_
  refine r_aload_n (j := 0) hA0 rfl dX1_init_4 ?_
  refine r_bipush hA0 (by decide) dX1_init_5 ?_
  refine y_anewS (c := 197) (t := 195) (n := 7) hA cl_X1_9 (by decide +kernel) (by decide) (by decide) (by decide +kernel) (hD _ (by omega)) dX1_init_7 ?_
  refine y_putR (c := 198) (t := 195) (a := 196) (b := 197) (n := 1) hA f_X1_11 (fun z => ⟨rfl, rfl⟩) ow_X1_11 (by decide +kernel) (by omega) (by decide) (by decide +kernel) dX1_init_10 ?_
  refine r_iconst hA0 dX1_init_13 ?_
  refine r_istore_n (j := 1) (lo2 := [vR 196, vI ((0 : Nat) : Int)]) hA0 dX1_init_14 (by decide) rfl rfl ?_
  exact lp_X1 (by omega) (by decide) (fun b hb => hD b (by omega)) hA (hR 43 _ dX1_init_43) 7 0 rfl
theorem ow_X9_10 : ∀ (C : String) (T : u_T) (N : Nat), vwCl[8]? = some (C, T, N) → Cond.fieldLink RX9 10 (T 0).1 (T 0).2.1 (T 0).2.2.1 ∈ Wd ∧ (T 0).1 = RX9 := fun C T N h => by cases h; exact ⟨inT 240 (by decide +kernel) (by decide +kernel), by decide +kernel⟩
theorem ow_X9_19 : ∀ (C : String) (T : u_T) (N : Nat), vwCl[8]? = some (C, T, N) → Cond.fieldLink RX9 19 (T 1).1 (T 1).2.1 (T 1).2.2.1 ∈ Wd ∧ (T 1).1 = RX9 := fun C T N h => by cases h; exact ⟨inT 241 (by decide +kernel) (by decide +kernel), by decide +kernel⟩
theorem ow_X9_26 : ∀ (C : String) (T : u_T) (N : Nat), vwCl[8]? = some (C, T, N) → Cond.fieldLink RX9 26 (T 2).1 (T 2).2.1 (T 2).2.2.1 ∈ Wd ∧ (T 2).1 = RX9 := fun C T N h => by cases h; exact ⟨inT 242 (by decide +kernel) (by decide +kernel), by decide +kernel⟩
theorem ow_X9_33 : ∀ (C : String) (T : u_T) (N : Nat), vwCl[8]? = some (C, T, N) → Cond.fieldLink RX9 33 (T 3).1 (T 3).2.1 (T 3).2.2.1 ∈ Wd ∧ (T 3).1 = RX9 := fun C T N h => by cases h; exact ⟨inT 243 (by decide +kernel) (by decide +kernel), by decide +kernel⟩
theorem ow_X9_37 : ∀ (C : String) (T : u_T) (N : Nat), vwCl[8]? = some (C, T, N) → Cond.fieldLink RX9 37 (T 4).1 (T 4).2.1 (T 4).2.2.1 ∈ Wd ∧ (T 4).1 = RX9 := fun C T N h => by cases h; exact ⟨inT 244 (by decide +kernel) (by decide +kernel), by decide +kernel⟩
theorem ow_X9_43 : ∀ (C : String) (T : u_T) (N : Nat), vwCl[8]? = some (C, T, N) → Cond.fieldLink RX9 43 (T 5).1 (T 5).2.1 (T 5).2.2.1 ∈ Wd ∧ (T 5).1 = RX9 := fun C T N h => by cases h; exact ⟨inT 245 (by decide +kernel) (by decide +kernel), by decide +kernel⟩
theorem ow_X9_50 : ∀ (C : String) (T : u_T) (N : Nat), vwCl[8]? = some (C, T, N) → Cond.fieldLink RX9 50 (T 6).1 (T 6).2.1 (T 6).2.2.1 ∈ Wd ∧ (T 6).1 = RX9 := fun C T N h => by cases h; exact ⟨inT 246 (by decide +kernel) (by decide +kernel), by decide +kernel⟩
theorem ow_X9_57 : ∀ (C : String) (T : u_T) (N : Nat), vwCl[8]? = some (C, T, N) → Cond.fieldLink RX9 57 (T 7).1 (T 7).2.1 (T 7).2.2.1 ∈ Wd ∧ (T 7).1 = RX9 := fun C T N h => by cases h; exact ⟨inT 247 (by decide +kernel) (by decide +kernel), by decide +kernel⟩
theorem ow_X9_64 : ∀ (C : String) (T : u_T) (N : Nat), vwCl[8]? = some (C, T, N) → Cond.fieldLink RX9 64 (T 8).1 (T 8).2.1 (T 8).2.2.1 ∈ Wd ∧ (T 8).1 = RX9 := fun C T N h => by cases h; exact ⟨inT 248 (by decide +kernel) (by decide +kernel), by decide +kernel⟩
set_option maxHeartbeats 4000000 in
set_option maxRecDepth 100000 in
theorem zX9_init {g : Gm} {l : Launch} {D : Dat} (hD : ∀ b, 0 < b → ∀ i, D b i = 0) : CnI g l 3 mX9_init 0 1 283 0 282 D (shD D 4) := by
  refine CnI.of (lo0 := [vR 0, vN]) rfl (by decide) (Nat.le_of_ble_eq_true rfl) rfl (by decide) (fun K hA hR => ?_)
  obtain ⟨ini, hi, hA0⟩ := id hA
  refine r_aload_n (j := 0) hA0 rfl dX9_init_0 ?_
  refine r_objInit hA0 oi_X9_1 (by decide) (by omega) dX9_init_1 ?_
  refine r_aload_n (j := 0) hA0 rfl dX9_init_4 ?_
  refine y_new (c := 1) (t := 0) (ci := 7) (ty := tyX8) hA rfl (by decide) ck_X8 cl_X9_7 is_X8 tyX8_ok (by decide +kernel) (by decide +kernel) (by decide) (by decide +kernel) (hD _ (by omega)) dX9_init_5 ?_
  refine r_dupR hA0 dX9_init_8 ?_
  refine y_callI (c := 2) (t := 0) (e2 := 3) (u := 1) (b := 1) (D2 := D) hA l_X9_9 kX8_init (zX8_init (fun b hb => hD b (by omega))) dX9_init_9 (by decide) (by omega) (by omega) ?_
  refine y_putR (c := 3) (t := 1) (a := 0) (b := 1) (n := 9) hA f_X9_10 (fun z => ⟨rfl, rfl⟩) ow_X9_10 (by decide +kernel) (by omega) (by decide) (by decide +kernel) dX9_init_12 ?_
  refine r_aload_n (j := 0) hA0 rfl dX9_init_15 ?_
  refine y_new (c := 3) (t := 2) (ci := 4) (ty := tyX5) hA rfl (by decide) ck_X5 cl_X9_16 is_X5 tyX5_ok (by decide +kernel) (by decide +kernel) (by decide) (by decide +kernel) (hD _ (by omega)) dX9_init_16 ?_
  refine r_dupR hA0 dX9_init_19 ?_
  refine y_callI (c := 4) (t := 2) (e2 := 11) (u := 9) (b := 3) (D2 := D) hA l_X9_18 kX5_init (zX5_init (fun b hb => hD b (by omega))) dX9_init_20 (by decide) (by omega) (by omega) ?_
  refine y_putR (c := 11) (t := 9) (a := 0) (b := 3) (n := 9) hA f_X9_19 (fun z => ⟨rfl, rfl⟩) ow_X9_19 (by decide +kernel) (by omega) (by decide) (by decide +kernel) dX9_init_23 ?_
  refine r_aload_n (j := 0) hA0 rfl dX9_init_26 ?_
  refine y_new (c := 11) (t := 10) (ci := 6) (ty := tyX7) hA rfl (by decide) ck_X7 cl_X9_23 is_X7 tyX7_ok (by decide +kernel) (by decide +kernel) (by decide) (by decide +kernel) (hD _ (by omega)) dX9_init_27 ?_
  refine r_dupR hA0 dX9_init_30 ?_
  refine y_callI (c := 12) (t := 10) (e2 := 18) (u := 16) (b := 11) (D2 := D) hA l_X9_25 kX7_init (zX7_init (by decide +kernel) (by decide) (fun b hb => hD b (by omega))) dX9_init_31 (by decide) (by omega) (by omega) ?_
  refine y_putR (c := 18) (t := 16) (a := 0) (b := 11) (n := 9) hA f_X9_26 (fun z => ⟨rfl, rfl⟩) ow_X9_26 (by decide +kernel) (by omega) (by decide) (by decide +kernel) dX9_init_34 ?_
  refine r_aload_n (j := 0) hA0 rfl dX9_init_37 ?_
  refine y_new (c := 18) (t := 17) (ci := 2) (ty := tyX2) hA rfl (by decide) ck_X2 cl_X9_30 is_X2 tyX2_ok (by decide +kernel) (by decide +kernel) (by decide) (by decide +kernel) (hD _ (by omega)) dX9_init_38 ?_
  refine r_dupR hA0 dX9_init_41 ?_
  refine y_callI (c := 19) (t := 17) (e2 := 188) (u := 186) (b := 18) (D2 := D) hA l_X9_32 kX2_init (zX2_init (fun b hb => hD b (by omega))) dX9_init_42 (by decide) (by omega) (by omega) ?_
  refine y_putR (c := 188) (t := 186) (a := 0) (b := 18) (n := 9) hA f_X9_33 (fun z => ⟨rfl, rfl⟩) ow_X9_33 (by decide +kernel) (by omega) (by decide) (by decide +kernel) dX9_init_45 ?_
  refine r_aload_n (j := 0) hA0 rfl dX9_init_48 ?_
  refine r_iconst hA0 dX9_init_49 ?_
  refine y_anewS (c := 188) (t := 187) (n := 2) hA cl_X9_23 (by decide +kernel) (by decide) (by decide) (by decide +kernel) (hD _ (by omega)) dX9_init_50 ?_
  refine y_putR (c := 189) (t := 187) (a := 0) (b := 188) (n := 9) hA f_X9_37 (fun z => ⟨rfl, rfl⟩) ow_X9_37 (by decide +kernel) (by omega) (by decide) (by decide +kernel) dX9_init_53 ?_
  refine r_aload_n (j := 0) hA0 rfl dX9_init_56 ?_
  refine r_iconst hA0 dX9_init_57 ?_
  refine y_anewH (c := 189) (t := 188) (n := 4) hA cl_X9_41 (by decide +kernel) (by decide) (by decide) (by decide +kernel) (hD _ (by omega)) dX9_init_58 ?_
  refine y_putR (c := 190) (t := 188) (a := 0) (b := 189) (n := 9) hA f_X9_43 (fun z => ⟨rfl, rfl⟩) ow_X9_43 (by decide +kernel) (by omega) (by decide) (by decide +kernel) dX9_init_61 ?_
  refine r_aload_n (j := 0) hA0 rfl dX9_init_64 ?_
  refine y_new (c := 190) (t := 189) (ci := 3) (ty := tyX4) hA rfl (by decide) ck_X4 cl_X9_47 is_X4 tyX4_ok (by decide +kernel) (by decide +kernel) (by decide) (by decide +kernel) (hD _ (by omega)) dX9_init_65 ?_
  refine r_dupR hA0 dX9_init_68 ?_
  refine y_callI (c := 191) (t := 189) (e2 := 196) (u := 194) (b := 190) (D2 := D) hA l_X9_49 kX4_init (zX4_init (fun b hb => hD b (by omega))) dX9_init_69 (by decide) (by omega) (by omega) ?_
  refine y_putR (c := 196) (t := 194) (a := 0) (b := 190) (n := 9) hA f_X9_50 (fun z => ⟨rfl, rfl⟩) ow_X9_50 (by decide +kernel) (by omega) (by decide) (by decide +kernel) dX9_init_72 ?_
  refine r_aload_n (j := 0) hA0 rfl dX9_init_75 ?_
  refine y_new (c := 196) (t := 195) (ci := 1) (ty := tyX1) hA rfl (by decide) ck_X1 cl_X9_54 is_X1 tyX1_ok (by decide +kernel) (by decide +kernel) (by decide) (by decide +kernel) (hD _ (by omega)) dX9_init_76 ?_
  refine r_dupR hA0 dX9_init_79 ?_
  refine y_callI (c := 197) (t := 195) (e2 := 247) (u := 245) (b := 196) (D2 := D) hA l_X9_56 kX1_init (zX1_init (fun b hb => hD b (by omega))) dX9_init_80 (by decide) (by omega) (by omega) ?_
  refine y_putR (c := 247) (t := 245) (a := 0) (b := 196) (n := 9) hA f_X9_57 (fun z => ⟨rfl, rfl⟩) ow_X9_57 (by decide +kernel) (by omega) (by decide) (by decide +kernel) dX9_init_83 ?_
  refine r_aload_n (j := 0) hA0 rfl dX9_init_86 ?_
  refine y_new (c := 247) (t := 246) (ci := 0) (ty := tyX0) hA rfl (by decide) ck_X0 cl_X9_61 is_X0 tyX0_ok (by decide +kernel) (by decide +kernel) (by decide) (by decide +kernel) (hD _ (by omega)) dX9_init_87 ?_
  refine r_dupR hA0 dX9_init_90 ?_
  refine y_callI (c := 248) (t := 246) (e2 := 261) (u := 259) (b := 247) (D2 := D) hA l_X9_63 kX0_init (zX0_init (fun b hb => hD b (by omega))) dX9_init_91 (by decide) (by omega) (by omega) ?_
  refine y_putR (c := 261) (t := 259) (a := 0) (b := 247) (n := 9) hA f_X9_64 (fun z => ⟨rfl, rfl⟩) ow_X9_64 (by decide +kernel) (by omega) (by decide) (by decide +kernel) dX9_init_94 ?_
  refine r_iconst hA0 dX9_init_97 ?_
  refine r_istore_n (j := 1) (lo2 := [vR 0, vI ((0 : Nat) : Int)]) hA0 dX9_init_98 (by decide) rfl rfl ?_
  refine lp_X9a (by omega) (by decide) (fun b hb => hD b (by omega)) hA ?_ 2 0 rfl
  refine r_iconst hA0 dX9_init_123 ?_
  refine r_istore_n (j := 1) (lo2 := [vR 0, vI ((0 : Nat) : Int)]) hA0 dX9_init_124 (by decide) rfl rfl ?_
  exact lp_X9b (by omega) (by decide) (fun b hb => hD b (by omega)) hA (hR 149 _ dX9_init_149) 4 0 rfl
