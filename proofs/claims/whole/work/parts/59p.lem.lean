/-! the constructor of the reference -/
def mdD (D : Dat) : Nat → Dat
  | 0 => D
  | i + 1 => upD (mdD D i) 295 (i : Int) (-1)
theorem tL_X10 : wF 303 283 15 = some 295 := by decide +kernel
set_option maxHeartbeats 4000000 in
set_option maxRecDepth 100000 in
theorem lp_X10 {g : Gm} {l : Launch} {D : Dat} {d : Nat} {K : KT} (hA : YA g l RX10 cX10_init 2 d 284 305 K) (kx : K 195 [vR 283, vI ((4 : Nat) : Int)] [] (Sx.take 305) (wF 303) (mdD D 4)) : ∀ n i : Nat, i + n = 4 → K 177 [vR 283, vI ((i : Nat) : Int)] [] (Sx.take 305) (wF 303) (mdD D i) := by
  obtain ⟨ini, hi, hA0⟩ := id hA
  intro n
  induction n with
  | zero =>
    intro i hin
    have e1 : i = 4 := by omega
    subst e1
    refine r_iload_n (j := 1) hA0 rfl dX10_init_177 ?_
    refine r_iconst hA0 dX10_init_178 ?_
    exact r_icmp_ge (tgt := 195) hA0 (by omega) (by omega) dX10_init_179 (by decide) (fun h => kx) (fun h => absurd h (by omega))
  | succ n ih =>
    intro i hin
    refine r_iload_n (j := 1) hA0 rfl dX10_init_177 ?_
    refine r_iconst hA0 dX10_init_178 ?_
    refine r_icmp_ge (tgt := 195) hA0 (by omega) (by omega) dX10_init_179 (by decide) (fun h => absurd h (by omega)) (fun h => ?_)
    refine r_aload_n (j := 0) hA0 rfl dX10_init_182 ?_
    refine y_getR (a := 283) (k := 15) (n := 26) (b := 295) hA f_X10_44 (by decide +kernel) (by omega) (by decide) tL_X10 dX10_init_183 ?_
    refine r_iload_n (j := 1) hA0 rfl dX10_init_186 ?_
    refine r_iconst hA0 dX10_init_187 ?_
    refine r_iast (n := 4) (a := 295) hA0 dX10_init_188 (by rw [tk_at (by omega)]; decide +kernel) (by omega) (by decide) ?_
    refine r_iinc (lo2 := [vR 283, vI ((i + 1 : Nat) : Int)]) hA0 dX10_init_189 rfl (by decide) rfl rfl ?_
    refine r_goto (tgt := 177) hA0 dX10_init_192 (by decide) ?_
    exact ih (i + 1) (by omega)
theorem ow_X10_7 : ∀ (C : String) (T : u_T) (N : Nat), vwCl[9]? = some (C, T, N) → Cond.fieldLink RX10 7 (T 0).1 (T 0).2.1 (T 0).2.2.1 ∈ Wd ∧ (T 0).1 = RX10 := fun C T N h => by cases h; exact ⟨inT 831 (by decide +kernel) (by decide +kernel), by decide +kernel⟩
theorem ow_X10_13 : ∀ (C : String) (T : u_T) (N : Nat), vwCl[9]? = some (C, T, N) → Cond.fieldLink RX10 13 (T 1).1 (T 1).2.1 (T 1).2.2.1 ∈ Wd ∧ (T 1).1 = RX10 := fun C T N h => by cases h; exact ⟨inT 832 (by decide +kernel) (by decide +kernel), by decide +kernel⟩
theorem ow_X10_16 : ∀ (C : String) (T : u_T) (N : Nat), vwCl[9]? = some (C, T, N) → Cond.fieldLink RX10 16 (T 4).1 (T 4).2.1 (T 4).2.2.1 ∈ Wd ∧ (T 4).1 = RX10 := fun C T N h => by cases h; exact ⟨inT 835 (by decide +kernel) (by decide +kernel), by decide +kernel⟩
theorem ow_X10_19 : ∀ (C : String) (T : u_T) (N : Nat), vwCl[9]? = some (C, T, N) → Cond.fieldLink RX10 19 (T 5).1 (T 5).2.1 (T 5).2.2.1 ∈ Wd ∧ (T 5).1 = RX10 := fun C T N h => by cases h; exact ⟨inT 836 (by decide +kernel) (by decide +kernel), by decide +kernel⟩
theorem ow_X10_22 : ∀ (C : String) (T : u_T) (N : Nat), vwCl[9]? = some (C, T, N) → Cond.fieldLink RX10 22 (T 7).1 (T 7).2.1 (T 7).2.2.1 ∈ Wd ∧ (T 7).1 = RX10 := fun C T N h => by cases h; exact ⟨inT 838 (by decide +kernel) (by decide +kernel), by decide +kernel⟩
theorem ow_X10_25 : ∀ (C : String) (T : u_T) (N : Nat), vwCl[9]? = some (C, T, N) → Cond.fieldLink RX10 25 (T 8).1 (T 8).2.1 (T 8).2.2.1 ∈ Wd ∧ (T 8).1 = RX10 := fun C T N h => by cases h; exact ⟨inT 839 (by decide +kernel) (by decide +kernel), by decide +kernel⟩
theorem ow_X10_28 : ∀ (C : String) (T : u_T) (N : Nat), vwCl[9]? = some (C, T, N) → Cond.fieldLink RX10 28 (T 9).1 (T 9).2.1 (T 9).2.2.1 ∈ Wd ∧ (T 9).1 = RX10 := fun C T N h => by cases h; exact ⟨inT 840 (by decide +kernel) (by decide +kernel), by decide +kernel⟩
theorem ow_X10_31 : ∀ (C : String) (T : u_T) (N : Nat), vwCl[9]? = some (C, T, N) → Cond.fieldLink RX10 31 (T 10).1 (T 10).2.1 (T 10).2.2.1 ∈ Wd ∧ (T 10).1 = RX10 := fun C T N h => by cases h; exact ⟨inT 841 (by decide +kernel) (by decide +kernel), by decide +kernel⟩
theorem ow_X10_35 : ∀ (C : String) (T : u_T) (N : Nat), vwCl[9]? = some (C, T, N) → Cond.fieldLink RX10 35 (T 11).1 (T 11).2.1 (T 11).2.2.1 ∈ Wd ∧ (T 11).1 = RX10 := fun C T N h => by cases h; exact ⟨inT 842 (by decide +kernel) (by decide +kernel), by decide +kernel⟩
theorem ow_X10_38 : ∀ (C : String) (T : u_T) (N : Nat), vwCl[9]? = some (C, T, N) → Cond.fieldLink RX10 38 (T 12).1 (T 12).2.1 (T 12).2.2.1 ∈ Wd ∧ (T 12).1 = RX10 := fun C T N h => by cases h; exact ⟨inT 843 (by decide +kernel) (by decide +kernel), by decide +kernel⟩
theorem ow_X10_41 : ∀ (C : String) (T : u_T) (N : Nat), vwCl[9]? = some (C, T, N) → Cond.fieldLink RX10 41 (T 14).1 (T 14).2.1 (T 14).2.2.1 ∈ Wd ∧ (T 14).1 = RX10 := fun C T N h => by cases h; exact ⟨inT 845 (by decide +kernel) (by decide +kernel), by decide +kernel⟩
theorem ow_X10_44 : ∀ (C : String) (T : u_T) (N : Nat), vwCl[9]? = some (C, T, N) → Cond.fieldLink RX10 44 (T 15).1 (T 15).2.1 (T 15).2.2.1 ∈ Wd ∧ (T 15).1 = RX10 := fun C T N h => by cases h; exact ⟨inT 846 (by decide +kernel) (by decide +kernel), by decide +kernel⟩
theorem ow_X10_47 : ∀ (C : String) (T : u_T) (N : Nat), vwCl[9]? = some (C, T, N) → Cond.fieldLink RX10 47 (T 16).1 (T 16).2.1 (T 16).2.2.1 ∈ Wd ∧ (T 16).1 = RX10 := fun C T N h => by cases h; exact ⟨inT 847 (by decide +kernel) (by decide +kernel), by decide +kernel⟩
theorem ow_X10_50 : ∀ (C : String) (T : u_T) (N : Nat), vwCl[9]? = some (C, T, N) → Cond.fieldLink RX10 50 (T 17).1 (T 17).2.1 (T 17).2.2.1 ∈ Wd ∧ (T 17).1 = RX10 := fun C T N h => by cases h; exact ⟨inT 848 (by decide +kernel) (by decide +kernel), by decide +kernel⟩
theorem ow_X10_54 : ∀ (C : String) (T : u_T) (N : Nat), vwCl[9]? = some (C, T, N) → Cond.fieldLink RX10 54 (T 18).1 (T 18).2.1 (T 18).2.2.1 ∈ Wd ∧ (T 18).1 = RX10 := fun C T N h => by cases h; exact ⟨inT 849 (by decide +kernel) (by decide +kernel), by decide +kernel⟩
theorem ow_X10_57 : ∀ (C : String) (T : u_T) (N : Nat), vwCl[9]? = some (C, T, N) → Cond.fieldLink RX10 57 (T 19).1 (T 19).2.1 (T 19).2.2.1 ∈ Wd ∧ (T 19).1 = RX10 := fun C T N h => by cases h; exact ⟨inT 850 (by decide +kernel) (by decide +kernel), by decide +kernel⟩
theorem ow_X10_60 : ∀ (C : String) (T : u_T) (N : Nat), vwCl[9]? = some (C, T, N) → Cond.fieldLink RX10 60 (T 21).1 (T 21).2.1 (T 21).2.2.1 ∈ Wd ∧ (T 21).1 = RX10 := fun C T N h => by cases h; exact ⟨inT 852 (by decide +kernel) (by decide +kernel), by decide +kernel⟩
theorem ow_X10_63 : ∀ (C : String) (T : u_T) (N : Nat), vwCl[9]? = some (C, T, N) → Cond.fieldLink RX10 63 (T 22).1 (T 22).2.1 (T 22).2.2.1 ∈ Wd ∧ (T 22).1 = RX10 := fun C T N h => by cases h; exact ⟨inT 853 (by decide +kernel) (by decide +kernel), by decide +kernel⟩
theorem ow_X10_66 : ∀ (C : String) (T : u_T) (N : Nat), vwCl[9]? = some (C, T, N) → Cond.fieldLink RX10 66 (T 23).1 (T 23).2.1 (T 23).2.2.1 ∈ Wd ∧ (T 23).1 = RX10 := fun C T N h => by cases h; exact ⟨inT 854 (by decide +kernel) (by decide +kernel), by decide +kernel⟩
theorem ow_X10_69 : ∀ (C : String) (T : u_T) (N : Nat), vwCl[9]? = some (C, T, N) → Cond.fieldLink RX10 69 (T 24).1 (T 24).2.1 (T 24).2.2.1 ∈ Wd ∧ (T 24).1 = RX10 := fun C T N h => by cases h; exact ⟨inT 855 (by decide +kernel) (by decide +kernel), by decide +kernel⟩
theorem ow_X10_72 : ∀ (C : String) (T : u_T) (N : Nat), vwCl[9]? = some (C, T, N) → Cond.fieldLink RX10 72 (T 25).1 (T 25).2.1 (T 25).2.2.1 ∈ Wd ∧ (T 25).1 = RX10 := fun C T N h => by cases h; exact ⟨inT 856 (by decide +kernel) (by decide +kernel), by decide +kernel⟩
set_option maxHeartbeats 4000000 in
set_option maxRecDepth 100000 in
theorem zX10_init {g : Gm} {l : Launch} {D : Dat} (hD : ∀ b, 283 < b → ∀ i, D b i = 0) : CnI g l 1 mX10_init 283 284 305 282 303 D (mdD D 4) := by
  refine CnI.of (lo0 := [vR 283, vN]) rfl (by decide) (Nat.le_of_ble_eq_true rfl) rfl (by decide) (fun K hA hR => ?_)
  obtain ⟨ini, hi, hA0⟩ := id hA
  refine r_aload_n (j := 0) hA0 rfl dX10_init_0 ?_
  refine r_objInit hA0 oi_X10_1 (by decide) (by omega) dX10_init_1 ?_
  refine r_aload_n (j := 0) hA0 rfl dX10_init_4 ?_
  refine r_bipush hA0 (by decide) dX10_init_5 ?_
  refine y_newaI (c := 284) (t := 282) (n := 52) hA (by decide +kernel) (by decide) (by decide) (by decide +kernel) (hD _ (by omega)) dX10_init_7 ?_
  refine y_putR (c := 285) (t := 282) (a := 283) (b := 284) (n := 26) hA f_X10_7 (fun z => ⟨rfl, rfl⟩) ow_X10_7 (by decide +kernel) (by omega) (by decide) (by decide +kernel) dX10_init_9 ?_
  refine r_aload_n (j := 0) hA0 rfl dX10_init_12 ?_
  refine r_bipush hA0 (by decide) dX10_init_13 ?_
  refine y_newaI (c := 285) (t := 283) (n := 80) hA (by decide +kernel) (by decide) (by decide) (by decide +kernel) (hD _ (by omega)) dX10_init_15 ?_
  refine y_putR (c := 286) (t := 283) (a := 283) (b := 285) (n := 26) hA f_X10_13 (fun z => ⟨rfl, rfl⟩) ow_X10_13 (by decide +kernel) (by omega) (by decide) (by decide +kernel) dX10_init_17 ?_
  refine r_aload_n (j := 0) hA0 rfl dX10_init_20 ?_
  refine r_bipush hA0 (by decide) dX10_init_21 ?_
  refine y_newaI (c := 286) (t := 284) (n := 52) hA (by decide +kernel) (by decide) (by decide) (by decide +kernel) (hD _ (by omega)) dX10_init_23 ?_
  refine y_putR (c := 287) (t := 284) (a := 283) (b := 286) (n := 26) hA f_X10_16 (fun z => ⟨rfl, rfl⟩) ow_X10_16 (by decide +kernel) (by omega) (by decide) (by decide +kernel) dX10_init_25 ?_
  refine r_aload_n (j := 0) hA0 rfl dX10_init_28 ?_
  refine r_sipush hA0 (by decide) dX10_init_29 ?_
  refine y_newaI (c := 287) (t := 285) (n := 1248) hA (by decide +kernel) (by decide) (by decide) (by decide +kernel) (hD _ (by omega)) dX10_init_32 ?_
  refine y_putR (c := 288) (t := 285) (a := 283) (b := 287) (n := 26) hA f_X10_19 (fun z => ⟨rfl, rfl⟩) ow_X10_19 (by decide +kernel) (by omega) (by decide) (by decide +kernel) dX10_init_34 ?_
  refine r_aload_n (j := 0) hA0 rfl dX10_init_37 ?_
  refine r_bipush hA0 (by decide) dX10_init_38 ?_
  refine y_newaI (c := 288) (t := 286) (n := 104) hA (by decide +kernel) (by decide) (by decide) (by decide +kernel) (hD _ (by omega)) dX10_init_40 ?_
  refine y_putR (c := 289) (t := 286) (a := 283) (b := 288) (n := 26) hA f_X10_22 (fun z => ⟨rfl, rfl⟩) ow_X10_22 (by decide +kernel) (by omega) (by decide) (by decide +kernel) dX10_init_42 ?_
  refine r_aload_n (j := 0) hA0 rfl dX10_init_45 ?_
  refine r_bipush hA0 (by decide) dX10_init_46 ?_
  refine y_newaI (c := 289) (t := 287) (n := 52) hA (by decide +kernel) (by decide) (by decide) (by decide +kernel) (hD _ (by omega)) dX10_init_48 ?_
  refine y_putR (c := 290) (t := 287) (a := 283) (b := 289) (n := 26) hA f_X10_25 (fun z => ⟨rfl, rfl⟩) ow_X10_25 (by decide +kernel) (by omega) (by decide) (by decide +kernel) dX10_init_50 ?_
  refine r_aload_n (j := 0) hA0 rfl dX10_init_53 ?_
  refine r_sipush hA0 (by decide) dX10_init_54 ?_
  refine y_newaI (c := 290) (t := 288) (n := 16384) hA (by decide +kernel) (by decide) (by decide) (by decide +kernel) (hD _ (by omega)) dX10_init_57 ?_
  refine y_putR (c := 291) (t := 288) (a := 283) (b := 290) (n := 26) hA f_X10_28 (fun z => ⟨rfl, rfl⟩) ow_X10_28 (by decide +kernel) (by omega) (by decide) (by decide +kernel) dX10_init_59 ?_
  refine r_aload_n (j := 0) hA0 rfl dX10_init_62 ?_
  refine r_sipush hA0 (by decide) dX10_init_63 ?_
  refine y_newaZ (c := 291) (t := 289) (n := 16384) hA (by decide +kernel) (by decide) (by decide) (by decide +kernel) (hD _ (by omega)) dX10_init_66 ?_
  refine y_putR (c := 292) (t := 289) (a := 283) (b := 291) (n := 26) hA f_X10_31 (fun z => ⟨rfl, rfl⟩) ow_X10_31 (by decide +kernel) (by omega) (by decide) (by decide +kernel) dX10_init_68 ?_
  refine r_aload_n (j := 0) hA0 rfl dX10_init_71 ?_
  refine r_bipush hA0 (by decide) dX10_init_72 ?_
  refine y_newaI (c := 292) (t := 290) (n := 64) hA (by decide +kernel) (by decide) (by decide) (by decide +kernel) (hD _ (by omega)) dX10_init_74 ?_
  refine y_putR (c := 293) (t := 290) (a := 283) (b := 292) (n := 26) hA f_X10_35 (fun z => ⟨rfl, rfl⟩) ow_X10_35 (by decide +kernel) (by omega) (by decide) (by decide +kernel) dX10_init_76 ?_
  refine r_aload_n (j := 0) hA0 rfl dX10_init_79 ?_
  refine r_sipush hA0 (by decide) dX10_init_80 ?_
  refine y_newaI (c := 293) (t := 291) (n := 128) hA (by decide +kernel) (by decide) (by decide) (by decide +kernel) (hD _ (by omega)) dX10_init_83 ?_
  refine y_putR (c := 294) (t := 291) (a := 283) (b := 293) (n := 26) hA f_X10_38 (fun z => ⟨rfl, rfl⟩) ow_X10_38 (by decide +kernel) (by omega) (by decide) (by decide +kernel) dX10_init_85 ?_
  refine r_aload_n (j := 0) hA0 rfl dX10_init_88 ?_
  refine r_sipush hA0 (by decide) dX10_init_89 ?_
  refine y_newaI (c := 294) (t := 292) (n := 729) hA (by decide +kernel) (by decide) (by decide) (by decide +kernel) (hD _ (by omega)) dX10_init_92 ?_
  refine y_putR (c := 295) (t := 292) (a := 283) (b := 294) (n := 26) hA f_X10_41 (fun z => ⟨rfl, rfl⟩) ow_X10_41 (by decide +kernel) (by omega) (by decide) (by decide +kernel) dX10_init_94 ?_
  refine r_aload_n (j := 0) hA0 rfl dX10_init_97 ?_
  refine r_iconst hA0 dX10_init_98 ?_
  refine y_newaI (c := 295) (t := 293) (n := 4) hA (by decide +kernel) (by decide) (by decide) (by decide +kernel) (hD _ (by omega)) dX10_init_99 ?_
  refine y_putR (c := 296) (t := 293) (a := 283) (b := 295) (n := 26) hA f_X10_44 (fun z => ⟨rfl, rfl⟩) ow_X10_44 (by decide +kernel) (by omega) (by decide) (by decide +kernel) dX10_init_101 ?_
  refine r_aload_n (j := 0) hA0 rfl dX10_init_104 ?_
  refine r_iconst hA0 dX10_init_105 ?_
  refine y_newaI (c := 296) (t := 294) (n := 4) hA (by decide +kernel) (by decide) (by decide) (by decide +kernel) (hD _ (by omega)) dX10_init_106 ?_
  refine y_putR (c := 297) (t := 294) (a := 283) (b := 296) (n := 26) hA f_X10_47 (fun z => ⟨rfl, rfl⟩) ow_X10_47 (by decide +kernel) (by omega) (by decide) (by decide +kernel) dX10_init_108 ?_
  refine r_aload_n (j := 0) hA0 rfl dX10_init_111 ?_
  refine r_bipush hA0 (by decide) dX10_init_112 ?_
  refine y_newaL (c := 297) (t := 295) (n := 96) hA (by decide +kernel) (by decide) (by decide) (by decide +kernel) (hD _ (by omega)) dX10_init_114 ?_
  refine y_putR (c := 298) (t := 295) (a := 283) (b := 297) (n := 26) hA f_X10_50 (fun z => ⟨rfl, rfl⟩) ow_X10_50 (by decide +kernel) (by omega) (by decide) (by decide +kernel) dX10_init_116 ?_
  refine r_aload_n (j := 0) hA0 rfl dX10_init_119 ?_
  refine r_bipush hA0 (by decide) dX10_init_120 ?_
  refine y_newaL (c := 298) (t := 296) (n := 24) hA (by decide +kernel) (by decide) (by decide) (by decide +kernel) (hD _ (by omega)) dX10_init_122 ?_
  refine y_putR (c := 299) (t := 296) (a := 283) (b := 298) (n := 26) hA f_X10_54 (fun z => ⟨rfl, rfl⟩) ow_X10_54 (by decide +kernel) (by omega) (by decide) (by decide +kernel) dX10_init_124 ?_
  refine r_aload_n (j := 0) hA0 rfl dX10_init_127 ?_
  refine r_sipush hA0 (by decide) dX10_init_128 ?_
  refine y_newaI (c := 299) (t := 297) (n := 1056) hA (by decide +kernel) (by decide) (by decide) (by decide +kernel) (hD _ (by omega)) dX10_init_131 ?_
  refine y_putR (c := 300) (t := 297) (a := 283) (b := 299) (n := 26) hA f_X10_57 (fun z => ⟨rfl, rfl⟩) ow_X10_57 (by decide +kernel) (by omega) (by decide) (by decide +kernel) dX10_init_133 ?_
  refine r_aload_n (j := 0) hA0 rfl dX10_init_136 ?_
  refine r_bipush hA0 (by decide) dX10_init_137 ?_
  refine y_newaI (c := 300) (t := 298) (n := 20) hA (by decide +kernel) (by decide) (by decide) (by decide +kernel) (hD _ (by omega)) dX10_init_139 ?_
  refine y_putR (c := 301) (t := 298) (a := 283) (b := 300) (n := 26) hA f_X10_60 (fun z => ⟨rfl, rfl⟩) ow_X10_60 (by decide +kernel) (by omega) (by decide) (by decide +kernel) dX10_init_141 ?_
  refine r_aload_n (j := 0) hA0 rfl dX10_init_144 ?_
  refine r_bipush hA0 (by decide) dX10_init_145 ?_
  refine y_newaI (c := 301) (t := 299) (n := 20) hA (by decide +kernel) (by decide) (by decide) (by decide +kernel) (hD _ (by omega)) dX10_init_147 ?_
  refine y_putR (c := 302) (t := 299) (a := 283) (b := 301) (n := 26) hA f_X10_63 (fun z => ⟨rfl, rfl⟩) ow_X10_63 (by decide +kernel) (by omega) (by decide) (by decide +kernel) dX10_init_149 ?_
  refine r_aload_n (j := 0) hA0 rfl dX10_init_152 ?_
  refine r_iconst hA0 dX10_init_153 ?_
  refine y_newaI (c := 302) (t := 300) (n := 5) hA (by decide +kernel) (by decide) (by decide) (by decide +kernel) (hD _ (by omega)) dX10_init_154 ?_
  refine y_putR (c := 303) (t := 300) (a := 283) (b := 302) (n := 26) hA f_X10_66 (fun z => ⟨rfl, rfl⟩) ow_X10_66 (by decide +kernel) (by omega) (by decide) (by decide +kernel) dX10_init_156 ?_
  refine r_aload_n (j := 0) hA0 rfl dX10_init_159 ?_
  refine r_bipush hA0 (by decide) dX10_init_160 ?_
  refine y_newaI (c := 303) (t := 301) (n := 8) hA (by decide +kernel) (by decide) (by decide) (by decide +kernel) (hD _ (by omega)) dX10_init_162 ?_
  refine y_putR (c := 304) (t := 301) (a := 283) (b := 303) (n := 26) hA f_X10_69 (fun z => ⟨rfl, rfl⟩) ow_X10_69 (by decide +kernel) (by omega) (by decide) (by decide +kernel) dX10_init_164 ?_
  refine r_aload_n (j := 0) hA0 rfl dX10_init_167 ?_
  refine r_bipush hA0 (by decide) dX10_init_168 ?_
  refine y_newaI (c := 304) (t := 302) (n := 9) hA (by decide +kernel) (by decide) (by decide) (by decide +kernel) (hD _ (by omega)) dX10_init_170 ?_
  refine y_putR (c := 305) (t := 302) (a := 283) (b := 304) (n := 26) hA f_X10_72 (fun z => ⟨rfl, rfl⟩) ow_X10_72 (by decide +kernel) (by omega) (by decide) (by decide +kernel) dX10_init_172 ?_
  refine r_iconst hA0 dX10_init_175 ?_
  refine r_istore_n (j := 1) (lo2 := [vR 283, vI ((0 : Nat) : Int)]) hA0 dX10_init_176 (by decide) rfl rfl ?_
  exact lp_X10 hA (hR 195 _ dX10_init_195) 4 0 rfl
/-! all made -/
theorem tk_all : Sx.take 305 = Sx := by rw [← Sx_len, List.take_length]
theorem wF_some {b k v : Nat} : ∀ t : Nat, wF t b k = some v → ∃ i, i < t ∧ wAt i = (b, k, v)
  | 0, h => by cases h
  | t + 1, h => by
    rw [wF] at h
    unfold upF at h
    by_cases e1 : b = (wAt t).1
    · rw [if_pos e1] at h
      by_cases e2 : k = (wAt t).2.1
      · rw [if_pos e2] at h
        have e3 := Option.some.inj h
        exact ⟨t, by omega, by rw [e1, e2, ← e3]⟩
      · rw [if_neg e2] at h
        obtain ⟨i, hi, he⟩ := wF_some t h
        exact ⟨i, by omega, he⟩
    · rw [if_neg e1] at h
      obtain ⟨i, hi, he⟩ := wF_some t h
      exact ⟨i, by omega, he⟩
theorem wF_none {b k : Nat} : ∀ t : Nat, wF t b k = none → ∀ i, i < t → ¬ ((wAt i).1 = b ∧ (wAt i).2.1 = k)
  | 0, h, i, hi => by omega
  | t + 1, h, i, hi => by
    rw [wF] at h
    unfold upF at h
    by_cases e1 : b = (wAt t).1
    · rw [if_pos e1] at h
      by_cases e2 : k = (wAt t).2.1
      · rw [if_pos e2] at h; cases h
      · rw [if_neg e2] at h
        by_cases q : i = t
        · rw [q]; exact fun z => e2 z.2.symm
        · exact wF_none t h i (by omega)
    · rw [if_neg e1] at h
      by_cases q : i = t
      · rw [q]; exact fun z => e1 z.1.symm
      · exact wF_none t h i (by omega)
theorem W_ok : (List.range 303).all (fun i => Fx (wAt i).1 (wAt i).2.1 == some (wAt i).2.2) = true := by decide +kernel
def fxR (b : Nat) (l : List (Option Nat)) (k : Nat) : Bool := match l with
  | [] => true
  | none :: r => fxR b r (k + 1)
  | some _ :: r => (WL.any (fun w => Nat.beq w.1 b && Nat.beq w.2.1 k)) && fxR b r (k + 1)
theorem fxR_at {b : Nat} : ∀ (l : List (Option Nat)) (k j : Nat) {v : Nat}, fxR b l k = true → l.getD j none = some v → WL.any (fun w => Nat.beq w.1 b && Nat.beq w.2.1 (k + j)) = true
  | [], k, j, v, h, hv => by rw [List.getD_eq_getElem?_getD] at hv; simp at hv
  | none :: r, k, 0, v, h, hv => by cases hv
  | none :: r, k, j + 1, v, h, hv => by
    have := fxR_at r (k + 1) j (v := v) h hv
    rw [show k + 1 + j = k + (j + 1) by omega] at this
    exact this
  | some x :: r, k, 0, v, h, hv => by
    have h2 : (WL.any (fun w => Nat.beq w.1 b && Nat.beq w.2.1 k) && fxR b r (k + 1)) = true := h
    rw [Bool.and_eq_true] at h2
    exact h2.1
  | some x :: r, k, j + 1, v, h, hv => by
    have h2 : (WL.any (fun w => Nat.beq w.1 b && Nat.beq w.2.1 k) && fxR b r (k + 1)) = true := h
    rw [Bool.and_eq_true] at h2
    have := fxR_at r (k + 1) j (v := v) h2.2 hv
    rw [show k + 1 + j = k + (j + 1) by omega] at this
    exact this
theorem Fx_ok : (List.range 305).all (fun b => fxR b (FxT.getD b []) 0) = true ∧ FxT.length ≤ 305 ∧ WL.length = 303 := by decide +kernel
theorem wF_all : wF 303 = Fx := by
  funext b k
  cases h : wF 303 b k with
  | some v =>
    obtain ⟨i, hi, he⟩ := wF_some 303 h
    have := eq_of_beq (List.all_eq_true.mp W_ok i (List.mem_range.mpr hi))
    rw [he] at this
    exact this.symm
  | none =>
    cases h2 : Fx b k with
    | none => rfl
    | some v =>
      exfalso
      have hb : b < 305 := by
        rcases Nat.lt_or_ge b 305 with q | q
        · exact q
        · unfold Fx at h2
          have e0 : FxT.getD b [] = [] := by rw [List.getD_eq_getElem?_getD, List.getElem?_eq_none (Nat.le_trans Fx_ok.2.1 q)]; rfl
          rw [e0] at h2
          simp at h2
      have h3 := fxR_at (FxT.getD b []) 0 k (List.all_eq_true.mp Fx_ok.1 b (List.mem_range.mpr hb)) h2
      obtain ⟨w, hw, hq⟩ := List.any_eq_true.mp h3
      rw [Bool.and_eq_true] at hq
      obtain ⟨i, hi, ei⟩ := List.getElem_of_mem hw
      have e : wAt i = w := by
        unfold wAt
        rw [List.getD_eq_getElem?_getD, List.getElem?_eq_getElem hi, ← ei]; rfl
      refine wF_none 303 h i (by have := Fx_ok.2.2; omega) ?_
      rw [e]
      exact ⟨Nat.eq_of_beq_eq_true hq.1, by have := Nat.eq_of_beq_eq_true hq.2; omega⟩
