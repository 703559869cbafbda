/-! the law from its begin: both are made, then the loop -/
set_option maxHeartbeats 4000000 in
set_option maxRecDepth 100000 in
theorem law_walk {g : Gm} {l : Launch} {d a : Nat} {ini : Prop} {K : KT} (hA0 : Act g l RL cL_law 4 d 0 0 305 (szS Sx) ini K) (hd : 17 ≤ d) (ha : (gX g).1 = a) (hn : (gX g).2.1 ≤ 3072) (hr : ∀ j, -2147483648 ≤ (gX g).2.2 j ∧ (gX g).2.2 j ≤ 2147483647) (kx : ∀ (lo : List MV) (D : Dat), K 1055 lo [vI 1] Sx Fx D) : K 0 [vZ a, vN, vN, vN] [] [] (fun _ _ => none) (fun _ _ => 0) := by
  have hz : szS (Sx.take 305) = szS Sx := by rw [tk_all]
  have x9 : Sx[0]? = some (8, 9) := by decide +kernel
  have x10 : Sx[283]? = some (9, 26) := by decide +kernel
  have s1 : szS (Sx.take 1) = szS (Sx.take 0) + 9 := tk_sz x9
  have s2 : szS (Sx.take 284) = szS (Sx.take 283) + 26 := tk_sz x10
  have t1 : Sx.take 0 ++ [(8, 9)] = Sx.take 1 := tk_s x9
  have t2 : Sx.take 283 ++ [(9, 26)] = Sx.take 284 := tk_s x10
  have l1 := tk_le (show 1 ≤ 283 by decide)
  have l2 := tk_le (show 284 ≤ 305 by decide)
  have z0 : szS (Sx.take 0) = 0 := rfl
  show K 0 [vZ a, vN, vN, vN] [] (Sx.take 0) (wF 0) (fun _ _ => 0)
  refine r_new (ci := 8) (ty := tyX9) hA0 rfl (by decide) ⟨ck_X9.1, cl_L_7, is_X9.1, is_X9.2⟩ tyX9_ok (by decide +kernel) (y_fresh (by decide) (by decide +kernel) (fun _ => rfl)) (by rw [tk_len (by decide)]; omega) dL_law_0 ?_
  rw [tk_len (by decide), t1]
  refine r_dupR hA0 dL_law_3 ?_
  refine r_callI (As := []) hA0 l_L_9 kX9_init (zX9_init (fun _ _ _ => rfl)) dL_law_4 rfl rfl (Nat.le_of_ble_eq_true rfl) (by omega) (by rw [tk_len (by decide)]; omega) (fun r S1 F1 D1 h => ?_)
  obtain ⟨e1, e2, e3, e4⟩ := h
  subst e1; subst e2; subst e3; subst e4
  refine r_astore_n (j := 1) (lo2 := [vZ a, vR 0, vN, vN]) hA0 dL_law_7 (by decide) rfl rfl ?_
  refine r_new (ci := 9) (ty := tyX10) hA0 rfl (by decide) ⟨ck_X10.1, cl_L_10, is_X10.1, is_X10.2⟩ tyX10_ok (by decide +kernel) (y_fresh (by decide) (by decide +kernel) (shD_z (fun _ _ _ => rfl) 4 (by decide))) (by rw [tk_len (by decide)]; omega) dL_law_8 ?_
  rw [tk_len (by decide), t2]
  refine r_dupR hA0 dL_law_11 ?_
  refine r_callI (As := []) hA0 l_L_12 kX10_init (zX10_init (fun b hb => shD_z (fun _ _ _ => rfl) 4 (by omega))) dL_law_12 rfl rfl (Nat.le_of_ble_eq_true rfl) (by omega) (by rw [tk_len (by decide)]; omega) (fun r S1 F1 D1 h => ?_)
  obtain ⟨e1, e2, e3, e4⟩ := h
  subst e1; subst e2; subst e3; subst e4
  rw [tk_all, wF_all]
  refine r_astore_n (j := 2) (lo2 := [vZ a, vR 0, vR 283, vN]) hA0 dL_law_15 (by decide) rfl rfl ?_
  refine r_iconst hA0 dL_law_16 ?_
  refine r_istore_n (j := 3) (lo2 := [vZ a, vR 0, vR 283, vI 0]) hA0 dL_law_17 (by decide) rfl rfl ?_
  have hJ : AX g l RL cL_law 4 d (fun pc lo st D => K pc lo st Sx Fx D) := ⟨K, 0, 0, 305, szS Sx, ini, hA0, ⟨by rw [Sx_len]; decide, by omega⟩, rfl⟩
  exact law_loop hJ hd ha hn hr kx 4000 0 D0 (by decide) (by decide) (by omega) I2_0
