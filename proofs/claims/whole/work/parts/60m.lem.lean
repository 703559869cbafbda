/-! the law: a call on both sides, the answers compared -/
theorem lOr_in (a b : Int) : -9223372036854775808 ≤ lOr a b ∧ lOr a b ≤ 9223372036854775807 := by
  unfold lOr
  have h1 := Int64.le_toInt (Int64.ofInt a ||| Int64.ofInt b)
  have h2 := Int64.toInt_lt (Int64.ofInt a ||| Int64.ofInt b)
  omega
theorem cmp_eq {a : Int} : cmpL a a = 0 := by unfold cmpL; rw [if_neg (by omega), if_pos rfl]
theorem item_in {D D1 : Dat} {s n i x v : Int} (hxr : -9223372036854775808 ≤ x ∧ x ≤ 9223372036854775807) (h : qX_item s n i x D v D1) : -9223372036854775808 ≤ v ∧ v ≤ 9223372036854775807 := by
  rcases h with ⟨-, e, -⟩ | ⟨-, -, e, -⟩ | ⟨-, -, e, -⟩
  · omega
  · have := refS_in (D (shAt s.toNat) 1) (D (shAt s.toNat) 2) n i 1
    rw [e]; omega
  · rw [e]; exact cutL_in hxr
abbrev sX (g : Gm) (i k : Int) : Int := (gX g).2.2 (i + k).toNat
set_option maxHeartbeats 4000000 in
set_option maxRecDepth 100000 in
theorem lc_feed {g : Gm} {l : Launch} {D : Dat} {d a : Nat} {J : JT} {i : Int} (hA : AX g l RL cL_law 4 d J) (hd : 17 ≤ d) (ha : (gX g).1 = a) (hi : 0 ≤ i ∧ i + 6 ≤ ((gX g).2.1 : Nat)) (hn : (gX g).2.1 ≤ 3072) (hr : ∀ j, -2147483648 ≤ (gX g).2.2 j ∧ (gX g).2.2 j ≤ 2147483647) (h : I2 D D) (kk : ∀ D2, I2 D2 D2 → J 1048 [vZ a, vR 0, vR 283, vI i] [] D2) : J 156 [vZ a, vR 0, vR 283, vI i] [] D := by
  refine q_aload_n (j := 1) hA rfl dL_law_156 ?_
  refine q_aload_nz (j := 0) hA rfl dL_law_157 ?_
  refine q_iload_n (j := 3) hA rfl dL_law_158 ?_
  refine q_iconst hA dL_law_159 ?_
  refine q_iadd hA dL_law_160 ?_
  refine q_ialdX (x := sX g i 1) hA ha dL_law_161 (by omega) (by omega) rfl ?_
  refine q_callVI (b := 0) (ci := 8) (k := 9) (As := [vI (sX g i 1)]) (Qc := qX_feed (sX g i 1) D) hA l_L_13 kX9_feed (zX9_feed (D := D) (ht := h.tp) (rx := hr _)) dL_law_162 rfl rfl (by decide +kernel) (by decide) rfl (Nat.le_of_ble_eq_true rfl) (by omega) (fun v0 D0 e0 => ?_)
  have h2 := h.mX (fX_feed e0)
  refine q_aload_n (j := 2) hA rfl dL_law_165 ?_
  refine q_aload_nz (j := 0) hA rfl dL_law_166 ?_
  refine q_iload_n (j := 3) hA rfl dL_law_167 ?_
  refine q_iconst hA dL_law_168 ?_
  refine q_iadd hA dL_law_169 ?_
  refine q_ialdX (x := sX g i 1) hA ha dL_law_170 (by omega) (by omega) rfl ?_
  refine q_callVI (b := 283) (ci := 9) (k := 26) (As := [vI (sX g i 1)]) (Qc := qM_feed (sX g i 1) D0) hA l_L_17 kX10_feed (zX10_feed (D := D0) (rx := hr _) (ht := h2.ht)) dL_law_171 rfl rfl (by decide +kernel) (by decide) rfl (Nat.le_of_ble_eq_true rfl) (by omega) (fun v1 D1 e1 => ?_)
  obtain ⟨ev, h3⟩ := st_feed h2 e0 e1
  have h4 := h3.xM (fM_feed e1)
  exact q_icmp_eq_t (tgt := 1048) hA ev dL_law_174 (by decide) (kk _ h4)
set_option maxHeartbeats 4000000 in
set_option maxRecDepth 100000 in
theorem lc_strip {g : Gm} {l : Launch} {D : Dat} {d a : Nat} {J : JT} {i : Int} (hA : AX g l RL cL_law 4 d J) (hd : 17 ≤ d) (ha : (gX g).1 = a) (hi : 0 ≤ i ∧ i + 6 ≤ ((gX g).2.1 : Nat)) (hn : (gX g).2.1 ≤ 3072) (hr : ∀ j, -2147483648 ≤ (gX g).2.2 j ∧ (gX g).2.2 j ≤ 2147483647) (h : I2 D D) (kk : ∀ D2, I2 D2 D2 → J 1048 [vZ a, vR 0, vR 283, vI i] [] D2) : J 179 [vZ a, vR 0, vR 283, vI i] [] D := by
  refine q_aload_n (j := 1) hA rfl dL_law_179 ?_
  refine q_callVI (b := 0) (ci := 8) (k := 9) (As := []) (Qc := qX_strip D) hA l_L_18 kX9_strip (zX9_strip (D := D) (ht := h.tp) (ho4 := h.s4)) dL_law_180 rfl rfl (by decide +kernel) (by decide) rfl (Nat.le_of_ble_eq_true rfl) (by omega) (fun v0 D0 e0 => ?_)
  have h2 := h.mX (fX_strip e0)
  refine q_aload_n (j := 2) hA rfl dL_law_183 ?_
  refine q_callVI (b := 283) (ci := 9) (k := 26) (As := []) (Qc := qM_strip D0) hA l_L_22 kX10_strip (zX10_strip (D := D0) (ht := h2.ht) (htp := h2.htp)) dL_law_184 rfl rfl (by decide +kernel) (by decide) rfl (Nat.le_of_ble_eq_true rfl) (by omega) (fun v1 D1 e1 => ?_)
  obtain ⟨ev, h3⟩ := st_strip h2 e0 e1
  have h4 := h3.xM (fM_strip e1)
  exact q_icmp_eq_t (tgt := 1048) hA ev dL_law_187 (by decide) (kk _ h4)
set_option maxHeartbeats 4000000 in
set_option maxRecDepth 100000 in
theorem lc_picture {g : Gm} {l : Launch} {D : Dat} {d a : Nat} {J : JT} {i : Int} (hA : AX g l RL cL_law 4 d J) (hd : 17 ≤ d) (ha : (gX g).1 = a) (hi : 0 ≤ i ∧ i + 6 ≤ ((gX g).2.1 : Nat)) (hn : (gX g).2.1 ≤ 3072) (hr : ∀ j, -2147483648 ≤ (gX g).2.2 j ∧ (gX g).2.2 j ≤ 2147483647) (h : I2 D D) (kk : ∀ D2, I2 D2 D2 → J 1048 [vZ a, vR 0, vR 283, vI i] [] D2) : J 192 [vZ a, vR 0, vR 283, vI i] [] D := by
  refine q_aload_n (j := 1) hA rfl dL_law_192 ?_
  refine q_aload_nz (j := 0) hA rfl dL_law_193 ?_
  refine q_iload_n (j := 3) hA rfl dL_law_194 ?_
  refine q_iconst hA dL_law_195 ?_
  refine q_iadd hA dL_law_196 ?_
  refine q_ialdX (x := sX g i 1) hA ha dL_law_197 (by omega) (by omega) rfl ?_
  refine q_aload_nz (j := 0) hA rfl dL_law_198 ?_
  refine q_iload_n (j := 3) hA rfl dL_law_199 ?_
  refine q_iconst hA dL_law_200 ?_
  refine q_iadd hA dL_law_201 ?_
  refine q_ialdX (x := sX g i 2) hA ha dL_law_202 (by omega) (by omega) rfl ?_
  refine q_callVP (b := 0) (ci := 8) (k := 9) (As := [vI (sX g i 1), vI (sX g i 2)]) (x := qX_picture (sX g i 1) (sX g i 2) D) hA l_L_23 kX9_picture (zX9_picture (D := D) (ho := h.s11) (rp := hr _) (rw := hr _)) dL_law_203 rfl rfl (by decide +kernel) (by decide) rfl (Nat.le_of_ble_eq_true rfl) (by omega) ?_
  have h2 := h
  refine q_aload_n (j := 2) hA rfl dL_law_206 ?_
  refine q_aload_nz (j := 0) hA rfl dL_law_207 ?_
  refine q_iload_n (j := 3) hA rfl dL_law_208 ?_
  refine q_iconst hA dL_law_209 ?_
  refine q_iadd hA dL_law_210 ?_
  refine q_ialdX (x := sX g i 1) hA ha dL_law_211 (by omega) (by omega) rfl ?_
  refine q_aload_nz (j := 0) hA rfl dL_law_212 ?_
  refine q_iload_n (j := 3) hA rfl dL_law_213 ?_
  refine q_iconst hA dL_law_214 ?_
  refine q_iadd hA dL_law_215 ?_
  refine q_ialdX (x := sX g i 2) hA ha dL_law_216 (by omega) (by omega) rfl ?_
  refine q_callVP (b := 283) (ci := 9) (k := 26) (As := [vI (sX g i 1), vI (sX g i 2)]) (x := qM_picture (sX g i 1) (sX g i 2) D) hA l_L_27 kX10_picture (zX10_picture (D := D) (ho := h2.m284) (rp := hr _) (rw := hr _)) dL_law_217 rfl rfl (by decide +kernel) (by decide) rfl (Nat.le_of_ble_eq_true rfl) (by omega) ?_
  exact q_icmp_eq_t (tgt := 1048) hA (st_picture h _ _) dL_law_220 (by decide) (kk _ h)
set_option maxHeartbeats 4000000 in
set_option maxRecDepth 100000 in
theorem lc_as {g : Gm} {l : Launch} {D : Dat} {d a : Nat} {J : JT} {i : Int} (hA : AX g l RL cL_law 4 d J) (hd : 17 ≤ d) (ha : (gX g).1 = a) (hi : 0 ≤ i ∧ i + 6 ≤ ((gX g).2.1 : Nat)) (hn : (gX g).2.1 ≤ 3072) (hr : ∀ j, -2147483648 ≤ (gX g).2.2 j ∧ (gX g).2.2 j ≤ 2147483647) (h : I2 D D) (kk : ∀ D2, I2 D2 D2 → J 1048 [vZ a, vR 0, vR 283, vI i] [] D2) : J 225 [vZ a, vR 0, vR 283, vI i] [] D := by
  refine q_aload_n (j := 1) hA rfl dL_law_225 ?_
  refine q_aload_nz (j := 0) hA rfl dL_law_226 ?_
  refine q_iload_n (j := 3) hA rfl dL_law_227 ?_
  refine q_iconst hA dL_law_228 ?_
  refine q_iadd hA dL_law_229 ?_
  refine q_ialdX (x := sX g i 1) hA ha dL_law_230 (by omega) (by omega) rfl ?_
  refine q_aload_nz (j := 0) hA rfl dL_law_231 ?_
  refine q_iload_n (j := 3) hA rfl dL_law_232 ?_
  refine q_iconst hA dL_law_233 ?_
  refine q_iadd hA dL_law_234 ?_
  refine q_ialdX (x := sX g i 2) hA ha dL_law_235 (by omega) (by omega) rfl ?_
  refine q_callVP (b := 0) (ci := 8) (k := 9) (As := [vI (sX g i 1), vI (sX g i 2)]) (x := qX_as (sX g i 1) (sX g i 2) D) hA l_L_28 kX9_as (zX9_as (D := D) (ho := h.s11) (rp := hr _) (rk := hr _)) dL_law_236 rfl rfl (by decide +kernel) (by decide) rfl (Nat.le_of_ble_eq_true rfl) (by omega) ?_
  have h2 := h
  refine q_aload_n (j := 2) hA rfl dL_law_239 ?_
  refine q_aload_nz (j := 0) hA rfl dL_law_240 ?_
  refine q_iload_n (j := 3) hA rfl dL_law_241 ?_
  refine q_iconst hA dL_law_242 ?_
  refine q_iadd hA dL_law_243 ?_
  refine q_ialdX (x := sX g i 1) hA ha dL_law_244 (by omega) (by omega) rfl ?_
  refine q_aload_nz (j := 0) hA rfl dL_law_245 ?_
  refine q_iload_n (j := 3) hA rfl dL_law_246 ?_
  refine q_iconst hA dL_law_247 ?_
  refine q_iadd hA dL_law_248 ?_
  refine q_ialdX (x := sX g i 2) hA ha dL_law_249 (by omega) (by omega) rfl ?_
  refine q_callVP (b := 283) (ci := 9) (k := 26) (As := [vI (sX g i 1), vI (sX g i 2)]) (x := qM_as (sX g i 1) (sX g i 2) D) hA l_L_31 kX10_as (zX10_as (D := D) (ho := h2.m284) (rp := hr _) (rk := hr _)) dL_law_250 rfl rfl (by decide +kernel) (by decide) rfl (Nat.le_of_ble_eq_true rfl) (by omega) ?_
  exact q_icmp_eq_t (tgt := 1048) hA (st_as h _ _) dL_law_253 (by decide) (kk _ h)
set_option maxHeartbeats 4000000 in
set_option maxRecDepth 100000 in
theorem lc_brings {g : Gm} {l : Launch} {D : Dat} {d a : Nat} {J : JT} {i : Int} (hA : AX g l RL cL_law 4 d J) (hd : 17 ≤ d) (ha : (gX g).1 = a) (hi : 0 ≤ i ∧ i + 6 ≤ ((gX g).2.1 : Nat)) (hn : (gX g).2.1 ≤ 3072) (hr : ∀ j, -2147483648 ≤ (gX g).2.2 j ∧ (gX g).2.2 j ≤ 2147483647) (h : I2 D D) (kk : ∀ D2, I2 D2 D2 → J 1048 [vZ a, vR 0, vR 283, vI i] [] D2) : J 258 [vZ a, vR 0, vR 283, vI i] [] D := by
  refine q_aload_n (j := 1) hA rfl dL_law_258 ?_
  refine q_aload_nz (j := 0) hA rfl dL_law_259 ?_
  refine q_iload_n (j := 3) hA rfl dL_law_260 ?_
  refine q_iconst hA dL_law_261 ?_
  refine q_iadd hA dL_law_262 ?_
  refine q_ialdX (x := sX g i 1) hA ha dL_law_263 (by omega) (by omega) rfl ?_
  refine q_callVP (b := 0) (ci := 8) (k := 9) (As := [vI (sX g i 1)]) (x := qX_brings (sX g i 1) D) hA l_L_32 kX9_brings (zX9_brings (D := D) (ho := h.s11) (hfb := h.fb) (rs := hr _)) dL_law_264 rfl rfl (by decide +kernel) (by decide) rfl (Nat.le_of_ble_eq_true rfl) (by omega) ?_
  have h2 := h
  refine q_aload_n (j := 2) hA rfl dL_law_267 ?_
  refine q_aload_nz (j := 0) hA rfl dL_law_268 ?_
  refine q_iload_n (j := 3) hA rfl dL_law_269 ?_
  refine q_iconst hA dL_law_270 ?_
  refine q_iadd hA dL_law_271 ?_
  refine q_ialdX (x := sX g i 1) hA ha dL_law_272 (by omega) (by omega) rfl ?_
  refine q_callVP (b := 283) (ci := 9) (k := 26) (As := [vI (sX g i 1)]) (x := qM_brings (sX g i 1) D) hA l_L_35 kX10_brings (zX10_brings (D := D) (ho := h2.m284) (hg := h2.fM) (rs := hr _)) dL_law_273 rfl rfl (by decide +kernel) (by decide) rfl (Nat.le_of_ble_eq_true rfl) (by omega) ?_
  exact q_icmp_eq_t (tgt := 1048) hA (st_brings h _) dL_law_276 (by decide) (kk _ h)
set_option maxHeartbeats 4000000 in
set_option maxRecDepth 100000 in
theorem lc_flex {g : Gm} {l : Launch} {D : Dat} {d a : Nat} {J : JT} {i : Int} (hA : AX g l RL cL_law 4 d J) (hd : 17 ≤ d) (ha : (gX g).1 = a) (hi : 0 ≤ i ∧ i + 6 ≤ ((gX g).2.1 : Nat)) (hn : (gX g).2.1 ≤ 3072) (hr : ∀ j, -2147483648 ≤ (gX g).2.2 j ∧ (gX g).2.2 j ≤ 2147483647) (h : I2 D D) (kk : ∀ D2, I2 D2 D2 → J 1048 [vZ a, vR 0, vR 283, vI i] [] D2) : J 281 [vZ a, vR 0, vR 283, vI i] [] D := by
  refine q_aload_n (j := 1) hA rfl dL_law_281 ?_
  refine q_aload_nz (j := 0) hA rfl dL_law_282 ?_
  refine q_iload_n (j := 3) hA rfl dL_law_283 ?_
  refine q_iconst hA dL_law_284 ?_
  refine q_iadd hA dL_law_285 ?_
  refine q_ialdX (x := sX g i 1) hA ha dL_law_286 (by omega) (by omega) rfl ?_
  refine q_callVI (b := 0) (ci := 8) (k := 9) (As := [vI (sX g i 1)]) (Qc := qX_flex (sX g i 1) D) hA l_L_36 kX9_flex (zX9_flex (D := D) (ho := h.s11) (hfb := h.fb) (hh := h.hs) (rs := hr _)) dL_law_287 rfl rfl (by decide +kernel) (by decide) rfl (Nat.le_of_ble_eq_true rfl) (by omega) (fun v0 D0 e0 => ?_)
  have h2 := h.mX (fX_flex h.hs e0)
  refine q_aload_n (j := 2) hA rfl dL_law_290 ?_
  refine q_aload_nz (j := 0) hA rfl dL_law_291 ?_
  refine q_iload_n (j := 3) hA rfl dL_law_292 ?_
  refine q_iconst hA dL_law_293 ?_
  refine q_iadd hA dL_law_294 ?_
  refine q_ialdX (x := sX g i 1) hA ha dL_law_295 (by omega) (by omega) rfl ?_
  refine q_callVI (b := 283) (ci := 9) (k := 26) (As := [vI (sX g i 1)]) (Qc := qM_flex (sX g i 1) D0) hA l_L_39 kX10_flex (zX10_flex (D := D0) (ho := h2.m284) (hg := h2.fM) (ha := h2.ha) (rs := hr _)) dL_law_296 rfl rfl (by decide +kernel) (by decide) rfl (Nat.le_of_ble_eq_true rfl) (by omega) (fun v1 D1 e1 => ?_)
  obtain ⟨ev, h3⟩ := st_flex h2 e0 e1
  have h4 := h3.xM (fM_flex e1)
  exact q_icmp_eq_t (tgt := 1048) hA ev dL_law_299 (by decide) (kk _ h4)
set_option maxHeartbeats 4000000 in
set_option maxRecDepth 100000 in
theorem lc_turn {g : Gm} {l : Launch} {D : Dat} {d a : Nat} {J : JT} {i : Int} (hA : AX g l RL cL_law 4 d J) (hd : 17 ≤ d) (ha : (gX g).1 = a) (hi : 0 ≤ i ∧ i + 6 ≤ ((gX g).2.1 : Nat)) (hn : (gX g).2.1 ≤ 3072) (hr : ∀ j, -2147483648 ≤ (gX g).2.2 j ∧ (gX g).2.2 j ≤ 2147483647) (h : I2 D D) (kk : ∀ D2, I2 D2 D2 → J 1048 [vZ a, vR 0, vR 283, vI i] [] D2) : J 304 [vZ a, vR 0, vR 283, vI i] [] D := by
  refine q_aload_n (j := 1) hA rfl dL_law_304 ?_
  refine q_callVI (b := 0) (ci := 8) (k := 9) (As := []) (Qc := qX_turn D) hA l_L_40 kX9_turn (zX9_turn (D := D) (ho := h.s11) (hfb := h.fb) (hh := h.hs)) dL_law_305 rfl rfl (by decide +kernel) (by decide) rfl (Nat.le_of_ble_eq_true rfl) (by omega) (fun v0 D0 e0 => ?_)
  have h2 := h.mX (fX_turn h.hs e0)
  refine q_aload_n (j := 2) hA rfl dL_law_308 ?_
  refine q_callVI (b := 283) (ci := 9) (k := 26) (As := []) (Qc := qM_turn D0) hA l_L_43 kX10_turn (zX10_turn (D := D0) (ho := h2.m284) (hg := h2.fM) (ha := h2.ha)) dL_law_309 rfl rfl (by decide +kernel) (by decide) rfl (Nat.le_of_ble_eq_true rfl) (by omega) (fun v1 D1 e1 => ?_)
  obtain ⟨ev, h3⟩ := st_turn h2 e0 e1
  have h4 := h3.xM (fM_turn e1)
  exact q_icmp_eq_t (tgt := 1048) hA ev dL_law_312 (by decide) (kk _ h4)
set_option maxHeartbeats 4000000 in
set_option maxRecDepth 100000 in
theorem lc_refold {g : Gm} {l : Launch} {D : Dat} {d a : Nat} {J : JT} {i : Int} (hA : AX g l RL cL_law 4 d J) (hd : 17 ≤ d) (ha : (gX g).1 = a) (hi : 0 ≤ i ∧ i + 6 ≤ ((gX g).2.1 : Nat)) (hn : (gX g).2.1 ≤ 3072) (hr : ∀ j, -2147483648 ≤ (gX g).2.2 j ∧ (gX g).2.2 j ≤ 2147483647) (h : I2 D D) (kk : ∀ D2, I2 D2 D2 → J 1048 [vZ a, vR 0, vR 283, vI i] [] D2) : J 317 [vZ a, vR 0, vR 283, vI i] [] D := by
  refine q_aload_n (j := 1) hA rfl dL_law_317 ?_
  refine q_aload_nz (j := 0) hA rfl dL_law_318 ?_
  refine q_iload_n (j := 3) hA rfl dL_law_319 ?_
  refine q_iconst hA dL_law_320 ?_
  refine q_iadd hA dL_law_321 ?_
  refine q_ialdX (x := sX g i 1) hA ha dL_law_322 (by omega) (by omega) rfl ?_
  refine q_aload_nz (j := 0) hA rfl dL_law_323 ?_
  refine q_iload_n (j := 3) hA rfl dL_law_324 ?_
  refine q_iconst hA dL_law_325 ?_
  refine q_iadd hA dL_law_326 ?_
  refine q_ialdX (x := sX g i 2) hA ha dL_law_327 (by omega) (by omega) rfl ?_
  refine q_callVI (b := 0) (ci := 8) (k := 9) (As := [vI (sX g i 1), vI (sX g i 2)]) (Qc := qX_refold (sX g i 1) (sX g i 2) D) hA l_L_44 kX9_refold (zX9_refold (D := D) (ho := h.s11) (hh := h.hs) (rp := hr _) (rq := hr _)) dL_law_328 rfl rfl (by decide +kernel) (by decide) rfl (Nat.le_of_ble_eq_true rfl) (by omega) (fun v0 D0 e0 => ?_)
  have h2 := h.mX (fX_refold h.hs e0)
  refine q_aload_n (j := 2) hA rfl dL_law_331 ?_
  refine q_aload_nz (j := 0) hA rfl dL_law_332 ?_
  refine q_iload_n (j := 3) hA rfl dL_law_333 ?_
  refine q_iconst hA dL_law_334 ?_
  refine q_iadd hA dL_law_335 ?_
  refine q_ialdX (x := sX g i 1) hA ha dL_law_336 (by omega) (by omega) rfl ?_
  refine q_aload_nz (j := 0) hA rfl dL_law_337 ?_
  refine q_iload_n (j := 3) hA rfl dL_law_338 ?_
  refine q_iconst hA dL_law_339 ?_
  refine q_iadd hA dL_law_340 ?_
  refine q_ialdX (x := sX g i 2) hA ha dL_law_341 (by omega) (by omega) rfl ?_
  refine q_callVI (b := 283) (ci := 9) (k := 26) (As := [vI (sX g i 1), vI (sX g i 2)]) (Qc := qM_refold (sX g i 1) (sX g i 2) D0) hA l_L_47 kX10_refold (zX10_refold (D := D0) (ho := h2.m284) (hg := h2.fM) (ha := h2.ha) (hsy := h2.hsy) (htr := h2.htr) (rp := hr _) (rq := hr _)) dL_law_342 rfl rfl (by decide +kernel) (by decide) rfl (Nat.le_of_ble_eq_true rfl) (by omega) (fun v1 D1 e1 => ?_)
  obtain ⟨ev, h3⟩ := st_refold h2 e0 e1
  have h4 := h3.xM (fM_refold e1)
  exact q_icmp_eq_t (tgt := 1048) hA ev dL_law_345 (by decide) (kk _ h4)
set_option maxHeartbeats 4000000 in
set_option maxRecDepth 100000 in
theorem lc_mend {g : Gm} {l : Launch} {D : Dat} {d a : Nat} {J : JT} {i : Int} (hA : AX g l RL cL_law 4 d J) (hd : 17 ≤ d) (ha : (gX g).1 = a) (hi : 0 ≤ i ∧ i + 6 ≤ ((gX g).2.1 : Nat)) (hn : (gX g).2.1 ≤ 3072) (hr : ∀ j, -2147483648 ≤ (gX g).2.2 j ∧ (gX g).2.2 j ≤ 2147483647) (h : I2 D D) (kk : ∀ D2, I2 D2 D2 → J 1048 [vZ a, vR 0, vR 283, vI i] [] D2) : J 350 [vZ a, vR 0, vR 283, vI i] [] D := by
  refine q_aload_n (j := 1) hA rfl dL_law_350 ?_
  refine q_aload_nz (j := 0) hA rfl dL_law_351 ?_
  refine q_iload_n (j := 3) hA rfl dL_law_352 ?_
  refine q_iconst hA dL_law_353 ?_
  refine q_iadd hA dL_law_354 ?_
  refine q_ialdX (x := sX g i 1) hA ha dL_law_355 (by omega) (by omega) rfl ?_
  refine q_callVI (b := 0) (ci := 8) (k := 9) (As := [vI (sX g i 1)]) (Qc := qX_mend (sX g i 1) D) hA l_L_48 kX9_mend (zX9_mend (D := D) (ho := h.s11) (hh := h.hs) (rp := hr _)) dL_law_356 rfl rfl (by decide +kernel) (by decide) rfl (Nat.le_of_ble_eq_true rfl) (by omega) (fun v0 D0 e0 => ?_)
  have h2 := h.mX (fX_mend h.hs e0)
  refine q_aload_n (j := 2) hA rfl dL_law_359 ?_
  refine q_aload_nz (j := 0) hA rfl dL_law_360 ?_
  refine q_iload_n (j := 3) hA rfl dL_law_361 ?_
  refine q_iconst hA dL_law_362 ?_
  refine q_iadd hA dL_law_363 ?_
  refine q_ialdX (x := sX g i 1) hA ha dL_law_364 (by omega) (by omega) rfl ?_
  refine q_callVI (b := 283) (ci := 9) (k := 26) (As := [vI (sX g i 1)]) (Qc := qM_mend (sX g i 1) D0) hA l_L_51 kX10_mend (zX10_mend (D := D0) (ho := h2.m284) (hg := h2.fM) (ha := h2.ha) (rp := hr _)) dL_law_365 rfl rfl (by decide +kernel) (by decide) rfl (Nat.le_of_ble_eq_true rfl) (by omega) (fun v1 D1 e1 => ?_)
  obtain ⟨ev, h3⟩ := st_mend h2 e0 e1
  have h4 := h3.xM (fM_mend e1)
  exact q_icmp_eq_t (tgt := 1048) hA ev dL_law_368 (by decide) (kk _ h4)
set_option maxHeartbeats 4000000 in
set_option maxRecDepth 100000 in
theorem lc_undo {g : Gm} {l : Launch} {D : Dat} {d a : Nat} {J : JT} {i : Int} (hA : AX g l RL cL_law 4 d J) (hd : 17 ≤ d) (ha : (gX g).1 = a) (hi : 0 ≤ i ∧ i + 6 ≤ ((gX g).2.1 : Nat)) (hn : (gX g).2.1 ≤ 3072) (hr : ∀ j, -2147483648 ≤ (gX g).2.2 j ∧ (gX g).2.2 j ≤ 2147483647) (h : I2 D D) (kk : ∀ D2, I2 D2 D2 → J 1048 [vZ a, vR 0, vR 283, vI i] [] D2) : J 373 [vZ a, vR 0, vR 283, vI i] [] D := by
  refine q_aload_n (j := 1) hA rfl dL_law_373 ?_
  refine q_callVI (b := 0) (ci := 8) (k := 9) (As := []) (Qc := qX_undo D) hA l_L_52 kX9_undo (zX9_undo (D := D) (hh := h.hs)) dL_law_374 rfl rfl (by decide +kernel) (by decide) rfl (Nat.le_of_ble_eq_true rfl) (by omega) (fun v0 D0 e0 => ?_)
  have h2 := h.mX (fX_undo e0)
  refine q_aload_n (j := 2) hA rfl dL_law_377 ?_
  refine q_callVI (b := 283) (ci := 9) (k := 26) (As := []) (Qc := qM_undo D0) hA l_L_55 kX10_undo (zX10_undo (D := D0) (ha := h2.ha)) dL_law_378 rfl rfl (by decide +kernel) (by decide) rfl (Nat.le_of_ble_eq_true rfl) (by omega) (fun v1 D1 e1 => ?_)
  obtain ⟨ev, h3⟩ := st_undo h2 e0 e1
  have h4 := h3.xM (fM_undo e1)
  exact q_icmp_eq_t (tgt := 1048) hA ev dL_law_381 (by decide) (kk _ h4)
set_option maxHeartbeats 4000000 in
set_option maxRecDepth 100000 in
theorem lc_image {g : Gm} {l : Launch} {D : Dat} {d a : Nat} {J : JT} {i : Int} (hA : AX g l RL cL_law 4 d J) (hd : 17 ≤ d) (ha : (gX g).1 = a) (hi : 0 ≤ i ∧ i + 6 ≤ ((gX g).2.1 : Nat)) (hn : (gX g).2.1 ≤ 3072) (hr : ∀ j, -2147483648 ≤ (gX g).2.2 j ∧ (gX g).2.2 j ≤ 2147483647) (h : I2 D D) (kk : ∀ D2, I2 D2 D2 → J 1048 [vZ a, vR 0, vR 283, vI i] [] D2) : J 386 [vZ a, vR 0, vR 283, vI i] [] D := by
  refine q_aload_n (j := 1) hA rfl dL_law_386 ?_
  refine q_aload_nz (j := 0) hA rfl dL_law_387 ?_
  refine q_iload_n (j := 3) hA rfl dL_law_388 ?_
  refine q_iconst hA dL_law_389 ?_
  refine q_iadd hA dL_law_390 ?_
  refine q_ialdX (x := sX g i 1) hA ha dL_law_391 (by omega) (by omega) rfl ?_
  refine q_callVI (b := 0) (ci := 8) (k := 9) (As := [vI (sX g i 1)]) (Qc := qX_image (sX g i 1) D) hA l_L_56 kX9_image (zX9_image (D := D) (ho := h.s11) (rk := hr _)) dL_law_392 rfl rfl (by decide +kernel) (by decide) rfl (Nat.le_of_ble_eq_true rfl) (by omega) (fun v0 D0 e0 => ?_)
  have h2 := h.mX (fX_image e0)
  refine q_aload_n (j := 2) hA rfl dL_law_395 ?_
  refine q_aload_nz (j := 0) hA rfl dL_law_396 ?_
  refine q_iload_n (j := 3) hA rfl dL_law_397 ?_
  refine q_iconst hA dL_law_398 ?_
  refine q_iadd hA dL_law_399 ?_
  refine q_ialdX (x := sX g i 1) hA ha dL_law_400 (by omega) (by omega) rfl ?_
  refine q_callVI (b := 283) (ci := 9) (k := 26) (As := [vI (sX g i 1)]) (Qc := qM_image (sX g i 1) D0) hA l_L_59 kX10_image (zX10_image (D := D0) (ho := h2.m284) (rs := hr _)) dL_law_401 rfl rfl (by decide +kernel) (by decide) rfl (Nat.le_of_ble_eq_true rfl) (by omega) (fun v1 D1 e1 => ?_)
  obtain ⟨ev, h3⟩ := st_image h2 e0 e1
  have h4 := h3.xM (fM_image e1)
  exact q_icmp_eq_t (tgt := 1048) hA ev dL_law_404 (by decide) (kk _ h4)
set_option maxHeartbeats 4000000 in
set_option maxRecDepth 100000 in
theorem lc_restore {g : Gm} {l : Launch} {D : Dat} {d a : Nat} {J : JT} {i : Int} (hA : AX g l RL cL_law 4 d J) (hd : 17 ≤ d) (ha : (gX g).1 = a) (hi : 0 ≤ i ∧ i + 6 ≤ ((gX g).2.1 : Nat)) (hn : (gX g).2.1 ≤ 3072) (hr : ∀ j, -2147483648 ≤ (gX g).2.2 j ∧ (gX g).2.2 j ≤ 2147483647) (h : I2 D D) (kk : ∀ D2, I2 D2 D2 → J 1048 [vZ a, vR 0, vR 283, vI i] [] D2) : J 409 [vZ a, vR 0, vR 283, vI i] [] D := by
  refine q_aload_n (j := 1) hA rfl dL_law_409 ?_
  refine q_aload_nz (j := 0) hA rfl dL_law_410 ?_
  refine q_iload_n (j := 3) hA rfl dL_law_411 ?_
  refine q_iconst hA dL_law_412 ?_
  refine q_iadd hA dL_law_413 ?_
  refine q_ialdX (x := sX g i 1) hA ha dL_law_414 (by omega) (by omega) rfl ?_
  refine q_callVI (b := 0) (ci := 8) (k := 9) (As := [vI (sX g i 1)]) (Qc := qX_restore (sX g i 1) D) hA l_L_60 kX9_restore (zX9_restore (D := D) (rk := hr _) (hoi := h.hoi)) dL_law_415 rfl rfl (by decide +kernel) (by decide) rfl (Nat.le_of_ble_eq_true rfl) (by omega) (fun v0 D0 e0 => ?_)
  have h2 := h.mX (fX_restore e0)
  refine q_aload_n (j := 2) hA rfl dL_law_418 ?_
  refine q_aload_nz (j := 0) hA rfl dL_law_419 ?_
  refine q_iload_n (j := 3) hA rfl dL_law_420 ?_
  refine q_iconst hA dL_law_421 ?_
  refine q_iadd hA dL_law_422 ?_
  refine q_ialdX (x := sX g i 1) hA ha dL_law_423 (by omega) (by omega) rfl ?_
  refine q_callVI (b := 283) (ci := 9) (k := 26) (As := [vI (sX g i 1)]) (Qc := qM_restore (sX g i 1) D0) hA l_L_63 kX10_restore (zX10_restore (D := D0) (rs := hr _) (hk2 := h2.hk2)) dL_law_424 rfl rfl (by decide +kernel) (by decide) rfl (Nat.le_of_ble_eq_true rfl) (by omega) (fun v1 D1 e1 => ?_)
  obtain ⟨ev, h3⟩ := st_restore h2 e0 e1
  have h4 := h3.xM (fM_restore e1)
  exact q_icmp_eq_t (tgt := 1048) hA ev dL_law_427 (by decide) (kk _ h4)
set_option maxHeartbeats 4000000 in
set_option maxRecDepth 100000 in
theorem lc_reach {g : Gm} {l : Launch} {D : Dat} {d a : Nat} {J : JT} {i : Int} (hA : AX g l RL cL_law 4 d J) (hd : 17 ≤ d) (ha : (gX g).1 = a) (hi : 0 ≤ i ∧ i + 6 ≤ ((gX g).2.1 : Nat)) (hn : (gX g).2.1 ≤ 3072) (hr : ∀ j, -2147483648 ≤ (gX g).2.2 j ∧ (gX g).2.2 j ≤ 2147483647) (h : I2 D D) (kk : ∀ D2, I2 D2 D2 → J 1048 [vZ a, vR 0, vR 283, vI i] [] D2) : J 432 [vZ a, vR 0, vR 283, vI i] [] D := by
  refine q_aload_n (j := 1) hA rfl dL_law_432 ?_
  refine q_callVI (b := 0) (ci := 8) (k := 9) (As := []) (Qc := qX_reach D) hA l_L_64 kX9_reach (zX9_reach (D := D) (ho := h.s11) (hg0 := h.gX)) dL_law_433 rfl rfl (by decide +kernel) (by decide) rfl (Nat.le_of_ble_eq_true rfl) (by omega) (fun v0 D0 e0 => ?_)
  have h2 := h.mX (fX_reach e0)
  refine q_aload_n (j := 2) hA rfl dL_law_436 ?_
  refine q_callVI (b := 283) (ci := 9) (k := 26) (As := []) (Qc := qM_reach D0) hA l_L_67 kX10_reach (zX10_reach (D := D0) (ho := h2.m284) (hg0 := h2.gM)) dL_law_437 rfl rfl (by decide +kernel) (by decide) rfl (Nat.le_of_ble_eq_true rfl) (by omega) (fun v1 D1 e1 => ?_)
  obtain ⟨ev, h3⟩ := st_reach h2 e0 e1
  have h4 := h3.xM (fM_reach e1)
  exact q_icmp_eq_t (tgt := 1048) hA ev dL_law_440 (by decide) (kk _ h4)
set_option maxHeartbeats 4000000 in
set_option maxRecDepth 100000 in
theorem lc_way {g : Gm} {l : Launch} {D : Dat} {d a : Nat} {J : JT} {i : Int} (hA : AX g l RL cL_law 4 d J) (hd : 17 ≤ d) (ha : (gX g).1 = a) (hi : 0 ≤ i ∧ i + 6 ≤ ((gX g).2.1 : Nat)) (hn : (gX g).2.1 ≤ 3072) (hr : ∀ j, -2147483648 ≤ (gX g).2.2 j ∧ (gX g).2.2 j ≤ 2147483647) (h : I2 D D) (kk : ∀ D2, I2 D2 D2 → J 1048 [vZ a, vR 0, vR 283, vI i] [] D2) : J 445 [vZ a, vR 0, vR 283, vI i] [] D := by
  refine q_aload_n (j := 1) hA rfl dL_law_445 ?_
  refine q_aload_nz (j := 0) hA rfl dL_law_446 ?_
  refine q_iload_n (j := 3) hA rfl dL_law_447 ?_
  refine q_iconst hA dL_law_448 ?_
  refine q_iadd hA dL_law_449 ?_
  refine q_ialdX (x := sX g i 1) hA ha dL_law_450 (by omega) (by omega) rfl ?_
  refine q_aload_nz (j := 0) hA rfl dL_law_451 ?_
  refine q_iload_n (j := 3) hA rfl dL_law_452 ?_
  refine q_iconst hA dL_law_453 ?_
  refine q_iadd hA dL_law_454 ?_
  refine q_ialdX (x := sX g i 2) hA ha dL_law_455 (by omega) (by omega) rfl ?_
  refine q_callVI (b := 0) (ci := 8) (k := 9) (As := [vI (sX g i 1), vI (sX g i 2)]) (Qc := qX_way (sX g i 1) (sX g i 2) D) hA l_L_68 kX9_way (zX9_way (D := D) (ho := h.s11) (hg0 := h.gX) (rp := hr _) (rk := hr _)) dL_law_456 rfl rfl (by decide +kernel) (by decide) rfl (Nat.le_of_ble_eq_true rfl) (by omega) (fun v0 D0 e0 => ?_)
  have h2 := h.mX (fX_way e0)
  refine q_aload_n (j := 2) hA rfl dL_law_459 ?_
  refine q_aload_nz (j := 0) hA rfl dL_law_460 ?_
  refine q_iload_n (j := 3) hA rfl dL_law_461 ?_
  refine q_iconst hA dL_law_462 ?_
  refine q_iadd hA dL_law_463 ?_
  refine q_ialdX (x := sX g i 1) hA ha dL_law_464 (by omega) (by omega) rfl ?_
  refine q_aload_nz (j := 0) hA rfl dL_law_465 ?_
  refine q_iload_n (j := 3) hA rfl dL_law_466 ?_
  refine q_iconst hA dL_law_467 ?_
  refine q_iadd hA dL_law_468 ?_
  refine q_ialdX (x := sX g i 2) hA ha dL_law_469 (by omega) (by omega) rfl ?_
  refine q_callVI (b := 283) (ci := 9) (k := 26) (As := [vI (sX g i 1), vI (sX g i 2)]) (Qc := qM_way (sX g i 1) (sX g i 2) D0) hA l_L_71 kX10_way (zX10_way (D := D0) (ho := h2.m284) (hg0 := h2.gM) (hlb0 := h2.hlb) (rp := hr _) (rk := hr _)) dL_law_470 rfl rfl (by decide +kernel) (by decide) rfl (Nat.le_of_ble_eq_true rfl) (by omega) (fun v1 D1 e1 => ?_)
  obtain ⟨ev, h3⟩ := st_way h2 e0 e1
  have h4 := h3.xM (fM_way e1)
  exact q_icmp_eq_t (tgt := 1048) hA ev dL_law_473 (by decide) (kk _ h4)
set_option maxHeartbeats 4000000 in
set_option maxRecDepth 100000 in
theorem lc_tour {g : Gm} {l : Launch} {D : Dat} {d a : Nat} {J : JT} {i : Int} (hA : AX g l RL cL_law 4 d J) (hd : 17 ≤ d) (ha : (gX g).1 = a) (hi : 0 ≤ i ∧ i + 6 ≤ ((gX g).2.1 : Nat)) (hn : (gX g).2.1 ≤ 3072) (hr : ∀ j, -2147483648 ≤ (gX g).2.2 j ∧ (gX g).2.2 j ≤ 2147483647) (h : I2 D D) (kk : ∀ D2, I2 D2 D2 → J 1048 [vZ a, vR 0, vR 283, vI i] [] D2) : J 478 [vZ a, vR 0, vR 283, vI i] [] D := by
  refine q_aload_n (j := 1) hA rfl dL_law_478 ?_
  refine q_callVI (b := 0) (ci := 8) (k := 9) (As := []) (Qc := qX_tour D) hA l_L_72 kX9_tour (zX9_tour (D := D) (ho := h.s11) (hg0 := h.gX)) dL_law_479 rfl rfl (by decide +kernel) (by decide) rfl (Nat.le_of_ble_eq_true rfl) (by omega) (fun v0 D0 e0 => ?_)
  have h2 := h.mX (fX_tour e0)
  refine q_aload_n (j := 2) hA rfl dL_law_482 ?_
  refine q_callVI (b := 283) (ci := 9) (k := 26) (As := []) (Qc := qM_tour D0) hA l_L_75 kX10_tour (zX10_tour (D := D0) (ho := h2.m284) (hg0 := h2.gM)) dL_law_483 rfl rfl (by decide +kernel) (by decide) rfl (Nat.le_of_ble_eq_true rfl) (by omega) (fun v1 D1 e1 => ?_)
  obtain ⟨ev, h3⟩ := st_tour h2 e0 e1
  have h4 := h3.xM (fM_tour e1)
  exact q_icmp_eq_t (tgt := 1048) hA ev dL_law_486 (by decide) (kk _ h4)
set_option maxHeartbeats 4000000 in
set_option maxRecDepth 100000 in
theorem lc_round {g : Gm} {l : Launch} {D : Dat} {d a : Nat} {J : JT} {i : Int} (hA : AX g l RL cL_law 4 d J) (hd : 17 ≤ d) (ha : (gX g).1 = a) (hi : 0 ≤ i ∧ i + 6 ≤ ((gX g).2.1 : Nat)) (hn : (gX g).2.1 ≤ 3072) (hr : ∀ j, -2147483648 ≤ (gX g).2.2 j ∧ (gX g).2.2 j ≤ 2147483647) (h : I2 D D) (kk : ∀ D2, I2 D2 D2 → J 1048 [vZ a, vR 0, vR 283, vI i] [] D2) : J 491 [vZ a, vR 0, vR 283, vI i] [] D := by
  refine q_aload_n (j := 1) hA rfl dL_law_491 ?_
  refine q_aload_nz (j := 0) hA rfl dL_law_492 ?_
  refine q_iload_n (j := 3) hA rfl dL_law_493 ?_
  refine q_iconst hA dL_law_494 ?_
  refine q_iadd hA dL_law_495 ?_
  refine q_ialdX (x := sX g i 1) hA ha dL_law_496 (by omega) (by omega) rfl ?_
  refine q_callVI (b := 0) (ci := 8) (k := 9) (As := [vI (sX g i 1)]) (Qc := qX_round (sX g i 1) D) hA l_L_76 kX9_round (zX9_round (D := D) (ho := h.s11) (hg0 := h.gX) (rw := hr _)) dL_law_497 rfl rfl (by decide +kernel) (by decide) rfl (Nat.le_of_ble_eq_true rfl) (by omega) (fun v0 D0 e0 => ?_)
  have h2 := h.mX (fX_round e0)
  refine q_aload_n (j := 2) hA rfl dL_law_500 ?_
  refine q_aload_nz (j := 0) hA rfl dL_law_501 ?_
  refine q_iload_n (j := 3) hA rfl dL_law_502 ?_
  refine q_iconst hA dL_law_503 ?_
  refine q_iadd hA dL_law_504 ?_
  refine q_ialdX (x := sX g i 1) hA ha dL_law_505 (by omega) (by omega) rfl ?_
  refine q_callVI (b := 283) (ci := 9) (k := 26) (As := [vI (sX g i 1)]) (Qc := qM_round (sX g i 1) D0) hA l_L_79 kX10_round (zX10_round (D := D0) (ho := h2.m284) (hg0 := h2.gM) (rw := hr _)) dL_law_506 rfl rfl (by decide +kernel) (by decide) rfl (Nat.le_of_ble_eq_true rfl) (by omega) (fun v1 D1 e1 => ?_)
  obtain ⟨ev, h3⟩ := st_round h2 e0 e1
  have h4 := h3.xM (fM_round e1)
  exact q_icmp_eq_t (tgt := 1048) hA ev dL_law_509 (by decide) (kk _ h4)
set_option maxHeartbeats 4000000 in
set_option maxRecDepth 100000 in
theorem lc_hand {g : Gm} {l : Launch} {D : Dat} {d a : Nat} {J : JT} {i : Int} (hA : AX g l RL cL_law 4 d J) (hd : 17 ≤ d) (ha : (gX g).1 = a) (hi : 0 ≤ i ∧ i + 6 ≤ ((gX g).2.1 : Nat)) (hn : (gX g).2.1 ≤ 3072) (hr : ∀ j, -2147483648 ≤ (gX g).2.2 j ∧ (gX g).2.2 j ≤ 2147483647) (h : I2 D D) (kk : ∀ D2, I2 D2 D2 → J 1048 [vZ a, vR 0, vR 283, vI i] [] D2) : J 514 [vZ a, vR 0, vR 283, vI i] [] D := by
  refine q_aload_n (j := 1) hA rfl dL_law_514 ?_
  refine q_aload_nz (j := 0) hA rfl dL_law_515 ?_
  refine q_iload_n (j := 3) hA rfl dL_law_516 ?_
  refine q_iconst hA dL_law_517 ?_
  refine q_iadd hA dL_law_518 ?_
  refine q_ialdX (x := sX g i 1) hA ha dL_law_519 (by omega) (by omega) rfl ?_
  refine q_aload_nz (j := 0) hA rfl dL_law_520 ?_
  refine q_iload_n (j := 3) hA rfl dL_law_521 ?_
  refine q_iconst hA dL_law_522 ?_
  refine q_iadd hA dL_law_523 ?_
  refine q_ialdX (x := sX g i 2) hA ha dL_law_524 (by omega) (by omega) rfl ?_
  refine q_aload_nz (j := 0) hA rfl dL_law_525 ?_
  refine q_iload_n (j := 3) hA rfl dL_law_526 ?_
  refine q_iconst hA dL_law_527 ?_
  refine q_iadd hA dL_law_528 ?_
  refine q_ialdX (x := sX g i 3) hA ha dL_law_529 (by omega) (by omega) rfl ?_
  refine q_aload_nz (j := 0) hA rfl dL_law_530 ?_
  refine q_iload_n (j := 3) hA rfl dL_law_531 ?_
  refine q_iconst hA dL_law_532 ?_
  refine q_iadd hA dL_law_533 ?_
  refine q_ialdX (x := sX g i 4) hA ha dL_law_534 (by omega) (by omega) rfl ?_
  refine q_callVI (b := 0) (ci := 8) (k := 9) (As := [vI (sX g i 1), vI (sX g i 2), vI (sX g i 3), vI (sX g i 4)]) (Qc := qX_hand (sX g i 1) (sX g i 2) (sX g i 3) (sX g i 4) D) hA l_L_80 kX9_hand (zX9_hand (D := D) (ho := h.s11) (hg0 := h.gX) (rp := hr _) (rn := hr _) (rq := hr _) (rw := hr _)) dL_law_535 rfl rfl (by decide +kernel) (by decide) rfl (Nat.le_of_ble_eq_true rfl) (by omega) (fun v0 D0 e0 => ?_)
  have h2 := h.mX (fX_hand e0)
  refine q_aload_n (j := 2) hA rfl dL_law_538 ?_
  refine q_aload_nz (j := 0) hA rfl dL_law_539 ?_
  refine q_iload_n (j := 3) hA rfl dL_law_540 ?_
  refine q_iconst hA dL_law_541 ?_
  refine q_iadd hA dL_law_542 ?_
  refine q_ialdX (x := sX g i 1) hA ha dL_law_543 (by omega) (by omega) rfl ?_
  refine q_aload_nz (j := 0) hA rfl dL_law_544 ?_
  refine q_iload_n (j := 3) hA rfl dL_law_545 ?_
  refine q_iconst hA dL_law_546 ?_
  refine q_iadd hA dL_law_547 ?_
  refine q_ialdX (x := sX g i 2) hA ha dL_law_548 (by omega) (by omega) rfl ?_
  refine q_aload_nz (j := 0) hA rfl dL_law_549 ?_
  refine q_iload_n (j := 3) hA rfl dL_law_550 ?_
  refine q_iconst hA dL_law_551 ?_
  refine q_iadd hA dL_law_552 ?_
  refine q_ialdX (x := sX g i 3) hA ha dL_law_553 (by omega) (by omega) rfl ?_
  refine q_aload_nz (j := 0) hA rfl dL_law_554 ?_
  refine q_iload_n (j := 3) hA rfl dL_law_555 ?_
  refine q_iconst hA dL_law_556 ?_
  refine q_iadd hA dL_law_557 ?_
  refine q_ialdX (x := sX g i 4) hA ha dL_law_558 (by omega) (by omega) rfl ?_
  refine q_callVI (b := 283) (ci := 9) (k := 26) (As := [vI (sX g i 1), vI (sX g i 2), vI (sX g i 3), vI (sX g i 4)]) (Qc := qM_hand (sX g i 1) (sX g i 2) (sX g i 3) (sX g i 4) D0) hA l_L_84 kX10_hand (zX10_hand (D := D0) (ho := h2.m284) (hg0 := h2.gM) (rp := hr _) (rn := hr _) (rq := hr _) (rw := hr _)) dL_law_559 rfl rfl (by decide +kernel) (by decide) rfl (Nat.le_of_ble_eq_true rfl) (by omega) (fun v1 D1 e1 => ?_)
  obtain ⟨ev, h3⟩ := st_hand h2 e0 e1
  have h4 := h3.xM (fM_hand e1)
  exact q_icmp_eq_t (tgt := 1048) hA ev dL_law_562 (by decide) (kk _ h4)
set_option maxHeartbeats 4000000 in
set_option maxRecDepth 100000 in
theorem lc_duel {g : Gm} {l : Launch} {D : Dat} {d a : Nat} {J : JT} {i : Int} (hA : AX g l RL cL_law 4 d J) (hd : 17 ≤ d) (ha : (gX g).1 = a) (hi : 0 ≤ i ∧ i + 6 ≤ ((gX g).2.1 : Nat)) (hn : (gX g).2.1 ≤ 3072) (hr : ∀ j, -2147483648 ≤ (gX g).2.2 j ∧ (gX g).2.2 j ≤ 2147483647) (h : I2 D D) (kk : ∀ D2, I2 D2 D2 → J 1048 [vZ a, vR 0, vR 283, vI i] [] D2) : J 567 [vZ a, vR 0, vR 283, vI i] [] D := by
  refine q_aload_n (j := 1) hA rfl dL_law_567 ?_
  refine q_aload_nz (j := 0) hA rfl dL_law_568 ?_
  refine q_iload_n (j := 3) hA rfl dL_law_569 ?_
  refine q_iconst hA dL_law_570 ?_
  refine q_iadd hA dL_law_571 ?_
  refine q_ialdX (x := sX g i 1) hA ha dL_law_572 (by omega) (by omega) rfl ?_
  refine q_callVI (b := 0) (ci := 8) (k := 9) (As := [vI (sX g i 1)]) (Qc := qX_duel (sX g i 1) D) hA l_L_85 kX9_duel (zX9_duel (D := D) (ho := h.s11) (hg0 := h.gX) (rn := hr _)) dL_law_573 rfl rfl (by decide +kernel) (by decide) rfl (Nat.le_of_ble_eq_true rfl) (by omega) (fun v0 D0 e0 => ?_)
  have h2 := h.mX (fX_duel e0)
  refine q_aload_n (j := 2) hA rfl dL_law_576 ?_
  refine q_aload_nz (j := 0) hA rfl dL_law_577 ?_
  refine q_iload_n (j := 3) hA rfl dL_law_578 ?_
  refine q_iconst hA dL_law_579 ?_
  refine q_iadd hA dL_law_580 ?_
  refine q_ialdX (x := sX g i 1) hA ha dL_law_581 (by omega) (by omega) rfl ?_
  refine q_callVI (b := 283) (ci := 9) (k := 26) (As := [vI (sX g i 1)]) (Qc := qM_duel (sX g i 1) D0) hA l_L_88 kX10_duel (zX10_duel (D := D0) (ho := h2.m284) (hg0 := h2.gM) (rn := hr _)) dL_law_582 rfl rfl (by decide +kernel) (by decide) rfl (Nat.le_of_ble_eq_true rfl) (by omega) (fun v1 D1 e1 => ?_)
  obtain ⟨ev, h3⟩ := st_duel h2 e0 e1
  have h4 := h3.xM (fM_duel e1)
  exact q_icmp_eq_t (tgt := 1048) hA ev dL_law_585 (by decide) (kk _ h4)
set_option maxHeartbeats 4000000 in
set_option maxRecDepth 100000 in
theorem lc_decades {g : Gm} {l : Launch} {D : Dat} {d a : Nat} {J : JT} {i : Int} (hA : AX g l RL cL_law 4 d J) (hd : 17 ≤ d) (ha : (gX g).1 = a) (hi : 0 ≤ i ∧ i + 6 ≤ ((gX g).2.1 : Nat)) (hn : (gX g).2.1 ≤ 3072) (hr : ∀ j, -2147483648 ≤ (gX g).2.2 j ∧ (gX g).2.2 j ≤ 2147483647) (h : I2 D D) (kk : ∀ D2, I2 D2 D2 → J 1048 [vZ a, vR 0, vR 283, vI i] [] D2) : J 590 [vZ a, vR 0, vR 283, vI i] [] D := by
  refine q_aload_n (j := 1) hA rfl dL_law_590 ?_
  refine q_aload_nz (j := 0) hA rfl dL_law_591 ?_
  refine q_iload_n (j := 3) hA rfl dL_law_592 ?_
  refine q_iconst hA dL_law_593 ?_
  refine q_iadd hA dL_law_594 ?_
  refine q_ialdX (x := sX g i 1) hA ha dL_law_595 (by omega) (by omega) rfl ?_
  refine q_aload_nz (j := 0) hA rfl dL_law_596 ?_
  refine q_iload_n (j := 3) hA rfl dL_law_597 ?_
  refine q_iconst hA dL_law_598 ?_
  refine q_iadd hA dL_law_599 ?_
  refine q_ialdX (x := sX g i 2) hA ha dL_law_600 (by omega) (by omega) rfl ?_
  refine q_aload_nz (j := 0) hA rfl dL_law_601 ?_
  refine q_iload_n (j := 3) hA rfl dL_law_602 ?_
  refine q_iconst hA dL_law_603 ?_
  refine q_iadd hA dL_law_604 ?_
  refine q_ialdX (x := sX g i 3) hA ha dL_law_605 (by omega) (by omega) rfl ?_
  refine q_callVI (b := 0) (ci := 8) (k := 9) (As := [vI (sX g i 1), vI (sX g i 2), vI (sX g i 3)]) (Qc := qX_decades (sX g i 1) (sX g i 2) (sX g i 3) D) hA l_L_89 kX9_decades (zX9_decades (D := D) (ho := h.s11) (hg0 := h.gX) (rn := hr _) (rx := hr _) (rw := hr _)) dL_law_606 rfl rfl (by decide +kernel) (by decide) rfl (Nat.le_of_ble_eq_true rfl) (by omega) (fun v0 D0 e0 => ?_)
  have h2 := h.mX (fX_decades e0)
  refine q_aload_n (j := 2) hA rfl dL_law_609 ?_
  refine q_aload_nz (j := 0) hA rfl dL_law_610 ?_
  refine q_iload_n (j := 3) hA rfl dL_law_611 ?_
  refine q_iconst hA dL_law_612 ?_
  refine q_iadd hA dL_law_613 ?_
  refine q_ialdX (x := sX g i 1) hA ha dL_law_614 (by omega) (by omega) rfl ?_
  refine q_aload_nz (j := 0) hA rfl dL_law_615 ?_
  refine q_iload_n (j := 3) hA rfl dL_law_616 ?_
  refine q_iconst hA dL_law_617 ?_
  refine q_iadd hA dL_law_618 ?_
  refine q_ialdX (x := sX g i 2) hA ha dL_law_619 (by omega) (by omega) rfl ?_
  refine q_aload_nz (j := 0) hA rfl dL_law_620 ?_
  refine q_iload_n (j := 3) hA rfl dL_law_621 ?_
  refine q_iconst hA dL_law_622 ?_
  refine q_iadd hA dL_law_623 ?_
  refine q_ialdX (x := sX g i 3) hA ha dL_law_624 (by omega) (by omega) rfl ?_
  refine q_callVI (b := 283) (ci := 9) (k := 26) (As := [vI (sX g i 1), vI (sX g i 2), vI (sX g i 3)]) (Qc := qM_decades (sX g i 1) (sX g i 2) (sX g i 3) D0) hA l_L_93 kX10_decades (zX10_decades (D := D0) (ho := h2.m284) (hg0 := h2.gM) (rn := hr _) (rx := hr _) (rw := hr _)) dL_law_625 rfl rfl (by decide +kernel) (by decide) rfl (Nat.le_of_ble_eq_true rfl) (by omega) (fun v1 D1 e1 => ?_)
  obtain ⟨ev, h3⟩ := st_decades h2 e0 e1
  have h4 := h3.xM (fM_decades e1)
  exact q_icmp_eq_t (tgt := 1048) hA ev dL_law_628 (by decide) (kk _ h4)
set_option maxHeartbeats 4000000 in
set_option maxRecDepth 100000 in
theorem lc_sheet {g : Gm} {l : Launch} {D : Dat} {d a : Nat} {J : JT} {i : Int} (hA : AX g l RL cL_law 4 d J) (hd : 17 ≤ d) (ha : (gX g).1 = a) (hi : 0 ≤ i ∧ i + 6 ≤ ((gX g).2.1 : Nat)) (hn : (gX g).2.1 ≤ 3072) (hr : ∀ j, -2147483648 ≤ (gX g).2.2 j ∧ (gX g).2.2 j ≤ 2147483647) (h : I2 D D) (kk : ∀ D2, I2 D2 D2 → J 1048 [vZ a, vR 0, vR 283, vI i] [] D2) : J 633 [vZ a, vR 0, vR 283, vI i] [] D := by
  refine q_aload_n (j := 1) hA rfl dL_law_633 ?_
  refine q_aload_nz (j := 0) hA rfl dL_law_634 ?_
  refine q_iload_n (j := 3) hA rfl dL_law_635 ?_
  refine q_iconst hA dL_law_636 ?_
  refine q_iadd hA dL_law_637 ?_
  refine q_ialdX (x := sX g i 1) hA ha dL_law_638 (by omega) (by omega) rfl ?_
  refine q_aload_nz (j := 0) hA rfl dL_law_639 ?_
  refine q_iload_n (j := 3) hA rfl dL_law_640 ?_
  refine q_iconst hA dL_law_641 ?_
  refine q_iadd hA dL_law_642 ?_
  refine q_ialdX (x := sX g i 2) hA ha dL_law_643 (by omega) (by omega) rfl ?_
  refine q_aload_nz (j := 0) hA rfl dL_law_644 ?_
  refine q_iload_n (j := 3) hA rfl dL_law_645 ?_
  refine q_iconst hA dL_law_646 ?_
  refine q_iadd hA dL_law_647 ?_
  refine q_ialdX (x := sX g i 3) hA ha dL_law_648 (by omega) (by omega) rfl ?_
  refine q_callVI (b := 0) (ci := 8) (k := 9) (As := [vI (sX g i 1), vI (sX g i 2), vI (sX g i 3)]) (Qc := qX_sheet (sX g i 1) (sX g i 2) (sX g i 3) D) hA l_L_94 kX9_sheet (zX9_sheet (D := D) (rs := hr _) (rn := hr _) (rk := hr _)) dL_law_649 rfl rfl (by decide +kernel) (by decide) rfl (Nat.le_of_ble_eq_true rfl) (by omega) (fun v0 D0 e0 => ?_)
  have h2 := h.mX (fX_sheet e0)
  refine q_aload_n (j := 2) hA rfl dL_law_652 ?_
  refine q_aload_nz (j := 0) hA rfl dL_law_653 ?_
  refine q_iload_n (j := 3) hA rfl dL_law_654 ?_
  refine q_iconst hA dL_law_655 ?_
  refine q_iadd hA dL_law_656 ?_
  refine q_ialdX (x := sX g i 1) hA ha dL_law_657 (by omega) (by omega) rfl ?_
  refine q_aload_nz (j := 0) hA rfl dL_law_658 ?_
  refine q_iload_n (j := 3) hA rfl dL_law_659 ?_
  refine q_iconst hA dL_law_660 ?_
  refine q_iadd hA dL_law_661 ?_
  refine q_ialdX (x := sX g i 2) hA ha dL_law_662 (by omega) (by omega) rfl ?_
  refine q_aload_nz (j := 0) hA rfl dL_law_663 ?_
  refine q_iload_n (j := 3) hA rfl dL_law_664 ?_
  refine q_iconst hA dL_law_665 ?_
  refine q_iadd hA dL_law_666 ?_
  refine q_ialdX (x := sX g i 3) hA ha dL_law_667 (by omega) (by omega) rfl ?_
  refine q_callVI (b := 283) (ci := 9) (k := 26) (As := [vI (sX g i 1), vI (sX g i 2), vI (sX g i 3)]) (Qc := qM_sheet (sX g i 1) (sX g i 2) (sX g i 3) D0) hA l_L_97 kX10_sheet (zX10_sheet (D := D0) (rs := hr _) (rn := hr _) (rk := hr _)) dL_law_668 rfl rfl (by decide +kernel) (by decide) rfl (Nat.le_of_ble_eq_true rfl) (by omega) (fun v1 D1 e1 => ?_)
  obtain ⟨ev, h3⟩ := st_sheet h2 e0 e1
  have h4 := h3.xM (fM_sheet e1)
  exact q_icmp_eq_t (tgt := 1048) hA ev dL_law_671 (by decide) (kk _ h4)
set_option maxHeartbeats 4000000 in
set_option maxRecDepth 100000 in
theorem lc_drop {g : Gm} {l : Launch} {D : Dat} {d a : Nat} {J : JT} {i : Int} (hA : AX g l RL cL_law 4 d J) (hd : 17 ≤ d) (ha : (gX g).1 = a) (hi : 0 ≤ i ∧ i + 6 ≤ ((gX g).2.1 : Nat)) (hn : (gX g).2.1 ≤ 3072) (hr : ∀ j, -2147483648 ≤ (gX g).2.2 j ∧ (gX g).2.2 j ≤ 2147483647) (h : I2 D D) (kk : ∀ D2, I2 D2 D2 → J 1048 [vZ a, vR 0, vR 283, vI i] [] D2) : J 676 [vZ a, vR 0, vR 283, vI i] [] D := by
  refine q_aload_n (j := 1) hA rfl dL_law_676 ?_
  refine q_aload_nz (j := 0) hA rfl dL_law_677 ?_
  refine q_iload_n (j := 3) hA rfl dL_law_678 ?_
  refine q_iconst hA dL_law_679 ?_
  refine q_iadd hA dL_law_680 ?_
  refine q_ialdX (x := sX g i 1) hA ha dL_law_681 (by omega) (by omega) rfl ?_
  refine q_callVI (b := 0) (ci := 8) (k := 9) (As := [vI (sX g i 1)]) (Qc := qX_drop (sX g i 1) D) hA l_L_98 kX9_drop (zX9_drop (D := D) (hos := h.hos) (rs := hr _)) dL_law_682 rfl rfl (by decide +kernel) (by decide) rfl (Nat.le_of_ble_eq_true rfl) (by omega) (fun v0 D0 e0 => ?_)
  have h2 := h.mX (fX_drop e0)
  refine q_aload_n (j := 2) hA rfl dL_law_685 ?_
  refine q_aload_nz (j := 0) hA rfl dL_law_686 ?_
  refine q_iload_n (j := 3) hA rfl dL_law_687 ?_
  refine q_iconst hA dL_law_688 ?_
  refine q_iadd hA dL_law_689 ?_
  refine q_ialdX (x := sX g i 1) hA ha dL_law_690 (by omega) (by omega) rfl ?_
  refine q_callVI (b := 283) (ci := 9) (k := 26) (As := [vI (sX g i 1)]) (Qc := qM_drop (sX g i 1) D0) hA l_L_101 kX10_drop (zX10_drop (D := D0) (rs := hr _) (hla := h2.hla)) dL_law_691 rfl rfl (by decide +kernel) (by decide) rfl (Nat.le_of_ble_eq_true rfl) (by omega) (fun v1 D1 e1 => ?_)
  obtain ⟨ev, h3⟩ := st_drop h2 e0 e1
  have h4 := h3.xM (fM_drop e1)
  exact q_icmp_eq_t (tgt := 1048) hA ev dL_law_694 (by decide) (kk _ h4)
set_option maxHeartbeats 4000000 in
set_option maxRecDepth 100000 in
theorem lc_item {g : Gm} {l : Launch} {D : Dat} {d a : Nat} {J : JT} {i : Int} (hA : AX g l RL cL_law 4 d J) (hd : 17 ≤ d) (ha : (gX g).1 = a) (hi : 0 ≤ i ∧ i + 6 ≤ ((gX g).2.1 : Nat)) (hn : (gX g).2.1 ≤ 3072) (hr : ∀ j, -2147483648 ≤ (gX g).2.2 j ∧ (gX g).2.2 j ≤ 2147483647) (h : I2 D D) (kk : ∀ D2, I2 D2 D2 → J 1048 [vZ a, vR 0, vR 283, vI i] [] D2) : J 699 [vZ a, vR 0, vR 283, vI i] [] D := by
  refine q_aload_n (j := 1) hA rfl dL_law_699 ?_
  refine q_aload_nz (j := 0) hA rfl dL_law_700 ?_
  refine q_iload_n (j := 3) hA rfl dL_law_701 ?_
  refine q_iconst hA dL_law_702 ?_
  refine q_iadd hA dL_law_703 ?_
  refine q_ialdX (x := sX g i 1) hA ha dL_law_704 (by omega) (by omega) rfl ?_
  refine q_aload_nz (j := 0) hA rfl dL_law_705 ?_
  refine q_iload_n (j := 3) hA rfl dL_law_706 ?_
  refine q_iconst hA dL_law_707 ?_
  refine q_iadd hA dL_law_708 ?_
  refine q_ialdX (x := sX g i 2) hA ha dL_law_709 (by omega) (by omega) rfl ?_
  refine q_aload_nz (j := 0) hA rfl dL_law_710 ?_
  refine q_iload_n (j := 3) hA rfl dL_law_711 ?_
  refine q_iconst hA dL_law_712 ?_
  refine q_iadd hA dL_law_713 ?_
  refine q_ialdX (x := sX g i 3) hA ha dL_law_714 (by omega) (by omega) rfl ?_
  refine q_aload_nz (j := 0) hA rfl dL_law_715 ?_
  refine q_iload_n (j := 3) hA rfl dL_law_716 ?_
  refine q_iconst hA dL_law_717 ?_
  refine q_iadd hA dL_law_718 ?_
  refine q_ialdX (x := sX g i 4) hA ha dL_law_719 (by omega) (by omega) rfl ?_
  refine q_i2l hA (hr _) dL_law_720 ?_
  refine q_bipush hA (by decide) dL_law_721 ?_
  refine q_lshl hA dL_law_723 ?_
  refine q_aload_nz (j := 0) hA rfl dL_law_724 ?_
  refine q_iload_n (j := 3) hA rfl dL_law_725 ?_
  refine q_iconst hA dL_law_726 ?_
  refine q_iadd hA dL_law_727 ?_
  refine q_ialdX (x := sX g i 5) hA ha dL_law_728 (by omega) (by omega) rfl ?_
  refine q_i2l hA (hr _) dL_law_729 ?_
  refine q_ldc2 (v := 4294967295) hA c_L_102 dL_law_730 ?_
  refine q_land hA dL_law_733 ?_
  refine q_lor hA dL_law_734 ?_
  refine q_callVL (b := 0) (ci := 8) (k := 9) (As := [vI (sX g i 1), vI (sX g i 2), vI (sX g i 3), vL (lOr (lShl (sX g i 4) 32) (lAnd (sX g i 5) 4294967295))]) (Qc := qX_item (sX g i 1) (sX g i 2) (sX g i 3) (lOr (lShl (sX g i 4) 32) (lAnd (sX g i 5) 4294967295)) D) hA l_L_104 kX9_item (zX9_item (D := D) (hos := h.hos) (rs := hr _) (rn := hr _) (ri := hr _) (hx := lOr_in _ _)) dL_law_735 rfl rfl (by decide +kernel) (by decide) rfl (Nat.le_of_ble_eq_true rfl) (by omega) (fun v0 D0 e0 => ?_)
  have h2 := h.mX (fX_item e0)
  refine q_aload_n (j := 2) hA rfl dL_law_738 ?_
  refine q_aload_nz (j := 0) hA rfl dL_law_739 ?_
  refine q_iload_n (j := 3) hA rfl dL_law_740 ?_
  refine q_iconst hA dL_law_741 ?_
  refine q_iadd hA dL_law_742 ?_
  refine q_ialdX (x := sX g i 1) hA ha dL_law_743 (by omega) (by omega) rfl ?_
  refine q_aload_nz (j := 0) hA rfl dL_law_744 ?_
  refine q_iload_n (j := 3) hA rfl dL_law_745 ?_
  refine q_iconst hA dL_law_746 ?_
  refine q_iadd hA dL_law_747 ?_
  refine q_ialdX (x := sX g i 2) hA ha dL_law_748 (by omega) (by omega) rfl ?_
  refine q_aload_nz (j := 0) hA rfl dL_law_749 ?_
  refine q_iload_n (j := 3) hA rfl dL_law_750 ?_
  refine q_iconst hA dL_law_751 ?_
  refine q_iadd hA dL_law_752 ?_
  refine q_ialdX (x := sX g i 3) hA ha dL_law_753 (by omega) (by omega) rfl ?_
  refine q_aload_nz (j := 0) hA rfl dL_law_754 ?_
  refine q_iload_n (j := 3) hA rfl dL_law_755 ?_
  refine q_iconst hA dL_law_756 ?_
  refine q_iadd hA dL_law_757 ?_
  refine q_ialdX (x := sX g i 4) hA ha dL_law_758 (by omega) (by omega) rfl ?_
  refine q_i2l hA (hr _) dL_law_759 ?_
  refine q_bipush hA (by decide) dL_law_760 ?_
  refine q_lshl hA dL_law_762 ?_
  refine q_aload_nz (j := 0) hA rfl dL_law_763 ?_
  refine q_iload_n (j := 3) hA rfl dL_law_764 ?_
  refine q_iconst hA dL_law_765 ?_
  refine q_iadd hA dL_law_766 ?_
  refine q_ialdX (x := sX g i 5) hA ha dL_law_767 (by omega) (by omega) rfl ?_
  refine q_i2l hA (hr _) dL_law_768 ?_
  refine q_ldc2 (v := 4294967295) hA c_L_102 dL_law_769 ?_
  refine q_land hA dL_law_772 ?_
  refine q_lor hA dL_law_773 ?_
  refine q_callVL (b := 283) (ci := 9) (k := 26) (As := [vI (sX g i 1), vI (sX g i 2), vI (sX g i 3), vL (lOr (lShl (sX g i 4) 32) (lAnd (sX g i 5) 4294967295))]) (Qc := qM_item (sX g i 1) (sX g i 2) (sX g i 3) (lOr (lShl (sX g i 4) 32) (lAnd (sX g i 5) 4294967295)) D0) hA l_L_108 kX10_item (zX10_item (D := D0) (rs := hr _) (rn := hr _) (ri := hr _) (hx := lOr_in _ _) (hla := h2.hla)) dL_law_774 rfl rfl (by decide +kernel) (by decide) rfl (Nat.le_of_ble_eq_true rfl) (by omega) (fun v1 D1 e1 => ?_)
  obtain ⟨ev, h3⟩ := st_item (lOr_in _ _) h2 e0 e1
  have h4 := h3.xM (fM_item e1)
  have r0 := item_in (lOr_in _ _) e0
  refine q_lcmp hA r0 (by rw [← ev]; exact r0) dL_law_777 ?_
  rw [ev]
  refine q_if_eq (tgt := 1048) hA (by rw [cmp_eq]; decide) dL_law_778 (by decide) (fun _ => kk _ h4) (fun z => absurd cmp_eq z)
set_option maxHeartbeats 4000000 in
set_option maxRecDepth 100000 in
theorem lc_copy {g : Gm} {l : Launch} {D : Dat} {d a : Nat} {J : JT} {i : Int} (hA : AX g l RL cL_law 4 d J) (hd : 17 ≤ d) (ha : (gX g).1 = a) (hi : 0 ≤ i ∧ i + 6 ≤ ((gX g).2.1 : Nat)) (hn : (gX g).2.1 ≤ 3072) (hr : ∀ j, -2147483648 ≤ (gX g).2.2 j ∧ (gX g).2.2 j ≤ 2147483647) (h : I2 D D) (kk : ∀ D2, I2 D2 D2 → J 1048 [vZ a, vR 0, vR 283, vI i] [] D2) : J 783 [vZ a, vR 0, vR 283, vI i] [] D := by
  refine q_aload_n (j := 1) hA rfl dL_law_783 ?_
  refine q_aload_nz (j := 0) hA rfl dL_law_784 ?_
  refine q_iload_n (j := 3) hA rfl dL_law_785 ?_
  refine q_iconst hA dL_law_786 ?_
  refine q_iadd hA dL_law_787 ?_
  refine q_ialdX (x := sX g i 1) hA ha dL_law_788 (by omega) (by omega) rfl ?_
  refine q_aload_nz (j := 0) hA rfl dL_law_789 ?_
  refine q_iload_n (j := 3) hA rfl dL_law_790 ?_
  refine q_iconst hA dL_law_791 ?_
  refine q_iadd hA dL_law_792 ?_
  refine q_ialdX (x := sX g i 2) hA ha dL_law_793 (by omega) (by omega) rfl ?_
  refine q_aload_nz (j := 0) hA rfl dL_law_794 ?_
  refine q_iload_n (j := 3) hA rfl dL_law_795 ?_
  refine q_iconst hA dL_law_796 ?_
  refine q_iadd hA dL_law_797 ?_
  refine q_ialdX (x := sX g i 3) hA ha dL_law_798 (by omega) (by omega) rfl ?_
  refine q_aload_nz (j := 0) hA rfl dL_law_799 ?_
  refine q_iload_n (j := 3) hA rfl dL_law_800 ?_
  refine q_iconst hA dL_law_801 ?_
  refine q_iadd hA dL_law_802 ?_
  refine q_ialdX (x := sX g i 4) hA ha dL_law_803 (by omega) (by omega) rfl ?_
  refine q_aload_nz (j := 0) hA rfl dL_law_804 ?_
  refine q_iload_n (j := 3) hA rfl dL_law_805 ?_
  refine q_iconst hA dL_law_806 ?_
  refine q_iadd hA dL_law_807 ?_
  refine q_ialdX (x := sX g i 5) hA ha dL_law_808 (by omega) (by omega) rfl ?_
  refine q_callVI (b := 0) (ci := 8) (k := 9) (As := [vI (sX g i 1), vI (sX g i 2), vI (sX g i 3), vI (sX g i 4), vI (sX g i 5)]) (Qc := qX_copy (sX g i 1) (sX g i 2) (sX g i 3) (sX g i 4) (sX g i 5) D) hA l_L_109 kX9_copy (zX9_copy (D := D) (hos := h.hos) (rf := hr _) (ri := hr _) (rt := hr _) (rj := hr _) (rn := hr _)) dL_law_809 rfl rfl (by decide +kernel) (by decide) rfl (Nat.le_of_ble_eq_true rfl) (by omega) (fun v0 D0 e0 => ?_)
  have h2 := h.mX (fX_copy e0)
  refine q_aload_n (j := 2) hA rfl dL_law_812 ?_
  refine q_aload_nz (j := 0) hA rfl dL_law_813 ?_
  refine q_iload_n (j := 3) hA rfl dL_law_814 ?_
  refine q_iconst hA dL_law_815 ?_
  refine q_iadd hA dL_law_816 ?_
  refine q_ialdX (x := sX g i 1) hA ha dL_law_817 (by omega) (by omega) rfl ?_
  refine q_aload_nz (j := 0) hA rfl dL_law_818 ?_
  refine q_iload_n (j := 3) hA rfl dL_law_819 ?_
  refine q_iconst hA dL_law_820 ?_
  refine q_iadd hA dL_law_821 ?_
  refine q_ialdX (x := sX g i 2) hA ha dL_law_822 (by omega) (by omega) rfl ?_
  refine q_aload_nz (j := 0) hA rfl dL_law_823 ?_
  refine q_iload_n (j := 3) hA rfl dL_law_824 ?_
  refine q_iconst hA dL_law_825 ?_
  refine q_iadd hA dL_law_826 ?_
  refine q_ialdX (x := sX g i 3) hA ha dL_law_827 (by omega) (by omega) rfl ?_
  refine q_aload_nz (j := 0) hA rfl dL_law_828 ?_
  refine q_iload_n (j := 3) hA rfl dL_law_829 ?_
  refine q_iconst hA dL_law_830 ?_
  refine q_iadd hA dL_law_831 ?_
  refine q_ialdX (x := sX g i 4) hA ha dL_law_832 (by omega) (by omega) rfl ?_
  refine q_aload_nz (j := 0) hA rfl dL_law_833 ?_
  refine q_iload_n (j := 3) hA rfl dL_law_834 ?_
  refine q_iconst hA dL_law_835 ?_
  refine q_iadd hA dL_law_836 ?_
  refine q_ialdX (x := sX g i 5) hA ha dL_law_837 (by omega) (by omega) rfl ?_
  refine q_callVI (b := 283) (ci := 9) (k := 26) (As := [vI (sX g i 1), vI (sX g i 2), vI (sX g i 3), vI (sX g i 4), vI (sX g i 5)]) (Qc := qM_copy (sX g i 1) (sX g i 2) (sX g i 3) (sX g i 4) (sX g i 5) D0) hA l_L_113 kX10_copy (zX10_copy (D := D0) (rf := hr _) (ri := hr _) (rt := hr _) (rj := hr _) (rn := hr _) (hla := h2.hla)) dL_law_838 rfl rfl (by decide +kernel) (by decide) rfl (Nat.le_of_ble_eq_true rfl) (by omega) (fun v1 D1 e1 => ?_)
  obtain ⟨ev, h3⟩ := st_copy h2 e0 e1
  have h4 := h3.xM (fM_copy e1)
  exact q_icmp_eq_t (tgt := 1048) hA ev dL_law_841 (by decide) (kk _ h4)
set_option maxHeartbeats 4000000 in
set_option maxRecDepth 100000 in
theorem lc_log {g : Gm} {l : Launch} {D : Dat} {d a : Nat} {J : JT} {i : Int} (hA : AX g l RL cL_law 4 d J) (hd : 17 ≤ d) (ha : (gX g).1 = a) (hi : 0 ≤ i ∧ i + 6 ≤ ((gX g).2.1 : Nat)) (hn : (gX g).2.1 ≤ 3072) (hr : ∀ j, -2147483648 ≤ (gX g).2.2 j ∧ (gX g).2.2 j ≤ 2147483647) (h : I2 D D) (kk : ∀ D2, I2 D2 D2 → J 1048 [vZ a, vR 0, vR 283, vI i] [] D2) : J 846 [vZ a, vR 0, vR 283, vI i] [] D := by
  refine q_aload_n (j := 1) hA rfl dL_law_846 ?_
  refine q_aload_nz (j := 0) hA rfl dL_law_847 ?_
  refine q_iload_n (j := 3) hA rfl dL_law_848 ?_
  refine q_iconst hA dL_law_849 ?_
  refine q_iadd hA dL_law_850 ?_
  refine q_ialdX (x := sX g i 1) hA ha dL_law_851 (by omega) (by omega) rfl ?_
  refine q_aload_nz (j := 0) hA rfl dL_law_852 ?_
  refine q_iload_n (j := 3) hA rfl dL_law_853 ?_
  refine q_iconst hA dL_law_854 ?_
  refine q_iadd hA dL_law_855 ?_
  refine q_ialdX (x := sX g i 2) hA ha dL_law_856 (by omega) (by omega) rfl ?_
  refine q_aload_nz (j := 0) hA rfl dL_law_857 ?_
  refine q_iload_n (j := 3) hA rfl dL_law_858 ?_
  refine q_iconst hA dL_law_859 ?_
  refine q_iadd hA dL_law_860 ?_
  refine q_ialdX (x := sX g i 3) hA ha dL_law_861 (by omega) (by omega) rfl ?_
  refine q_aload_nz (j := 0) hA rfl dL_law_862 ?_
  refine q_iload_n (j := 3) hA rfl dL_law_863 ?_
  refine q_iconst hA dL_law_864 ?_
  refine q_iadd hA dL_law_865 ?_
  refine q_ialdX (x := sX g i 4) hA ha dL_law_866 (by omega) (by omega) rfl ?_
  refine q_callVI (b := 0) (ci := 8) (k := 9) (As := [vI (sX g i 1), vI (sX g i 2), vI (sX g i 3), vI (sX g i 4)]) (Qc := qX_log (sX g i 1) (sX g i 2) (sX g i 3) (sX g i 4) D) hA l_L_114 kX9_log (zX9_log (D := D) (ho := h.s11) (hg0 := h.gX) (hos := h.hos) (rs := hr _) (rn := hr _) (ri := hr _) (rk := hr _)) dL_law_867 rfl rfl (by decide +kernel) (by decide) rfl (Nat.le_of_ble_eq_true rfl) (by omega) (fun v0 D0 e0 => ?_)
  have h2 := h.mX (fX_log e0)
  refine q_aload_n (j := 2) hA rfl dL_law_870 ?_
  refine q_aload_nz (j := 0) hA rfl dL_law_871 ?_
  refine q_iload_n (j := 3) hA rfl dL_law_872 ?_
  refine q_iconst hA dL_law_873 ?_
  refine q_iadd hA dL_law_874 ?_
  refine q_ialdX (x := sX g i 1) hA ha dL_law_875 (by omega) (by omega) rfl ?_
  refine q_aload_nz (j := 0) hA rfl dL_law_876 ?_
  refine q_iload_n (j := 3) hA rfl dL_law_877 ?_
  refine q_iconst hA dL_law_878 ?_
  refine q_iadd hA dL_law_879 ?_
  refine q_ialdX (x := sX g i 2) hA ha dL_law_880 (by omega) (by omega) rfl ?_
  refine q_aload_nz (j := 0) hA rfl dL_law_881 ?_
  refine q_iload_n (j := 3) hA rfl dL_law_882 ?_
  refine q_iconst hA dL_law_883 ?_
  refine q_iadd hA dL_law_884 ?_
  refine q_ialdX (x := sX g i 3) hA ha dL_law_885 (by omega) (by omega) rfl ?_
  refine q_aload_nz (j := 0) hA rfl dL_law_886 ?_
  refine q_iload_n (j := 3) hA rfl dL_law_887 ?_
  refine q_iconst hA dL_law_888 ?_
  refine q_iadd hA dL_law_889 ?_
  refine q_ialdX (x := sX g i 4) hA ha dL_law_890 (by omega) (by omega) rfl ?_
  refine q_callVI (b := 283) (ci := 9) (k := 26) (As := [vI (sX g i 1), vI (sX g i 2), vI (sX g i 3), vI (sX g i 4)]) (Qc := qM_log (sX g i 1) (sX g i 2) (sX g i 3) (sX g i 4) D0) hA l_L_117 kX10_log (zX10_log (D := D0) (ho := h2.m284) (hg0 := h2.gM) (rs := hr _) (rn := hr _) (ri := hr _) (rk := hr _) (hla := h2.hla)) dL_law_891 rfl rfl (by decide +kernel) (by decide) rfl (Nat.le_of_ble_eq_true rfl) (by omega) (fun v1 D1 e1 => ?_)
  obtain ⟨ev, h3⟩ := st_log h2 e0 e1
  have h4 := h3.xM (fM_log e1)
  exact q_icmp_eq_t (tgt := 1048) hA ev dL_law_894 (by decide) (kk _ h4)
set_option maxHeartbeats 4000000 in
set_option maxRecDepth 100000 in
theorem lc_foldings {g : Gm} {l : Launch} {D : Dat} {d a : Nat} {J : JT} {i : Int} (hA : AX g l RL cL_law 4 d J) (hd : 17 ≤ d) (ha : (gX g).1 = a) (hi : 0 ≤ i ∧ i + 6 ≤ ((gX g).2.1 : Nat)) (hn : (gX g).2.1 ≤ 3072) (hr : ∀ j, -2147483648 ≤ (gX g).2.2 j ∧ (gX g).2.2 j ≤ 2147483647) (h : I2 D D) (kk : ∀ D2, I2 D2 D2 → J 1048 [vZ a, vR 0, vR 283, vI i] [] D2) : J 899 [vZ a, vR 0, vR 283, vI i] [] D := by
  refine q_aload_n (j := 1) hA rfl dL_law_899 ?_
  refine q_aload_nz (j := 0) hA rfl dL_law_900 ?_
  refine q_iload_n (j := 3) hA rfl dL_law_901 ?_
  refine q_iconst hA dL_law_902 ?_
  refine q_iadd hA dL_law_903 ?_
  refine q_ialdX (x := sX g i 1) hA ha dL_law_904 (by omega) (by omega) rfl ?_
  refine q_aload_nz (j := 0) hA rfl dL_law_905 ?_
  refine q_iload_n (j := 3) hA rfl dL_law_906 ?_
  refine q_iconst hA dL_law_907 ?_
  refine q_iadd hA dL_law_908 ?_
  refine q_ialdX (x := sX g i 2) hA ha dL_law_909 (by omega) (by omega) rfl ?_
  refine q_aload_nz (j := 0) hA rfl dL_law_910 ?_
  refine q_iload_n (j := 3) hA rfl dL_law_911 ?_
  refine q_iconst hA dL_law_912 ?_
  refine q_iadd hA dL_law_913 ?_
  refine q_ialdX (x := sX g i 3) hA ha dL_law_914 (by omega) (by omega) rfl ?_
  refine q_aload_nz (j := 0) hA rfl dL_law_915 ?_
  refine q_iload_n (j := 3) hA rfl dL_law_916 ?_
  refine q_iconst hA dL_law_917 ?_
  refine q_iadd hA dL_law_918 ?_
  refine q_ialdX (x := sX g i 4) hA ha dL_law_919 (by omega) (by omega) rfl ?_
  refine q_aload_nz (j := 0) hA rfl dL_law_920 ?_
  refine q_iload_n (j := 3) hA rfl dL_law_921 ?_
  refine q_iconst hA dL_law_922 ?_
  refine q_iadd hA dL_law_923 ?_
  refine q_ialdX (x := sX g i 5) hA ha dL_law_924 (by omega) (by omega) rfl ?_
  refine q_callVI (b := 0) (ci := 8) (k := 9) (As := [vI (sX g i 1), vI (sX g i 2), vI (sX g i 3), vI (sX g i 4), vI (sX g i 5)]) (Qc := qX_foldings (sX g i 1) (sX g i 2) (sX g i 3) (sX g i 4) (sX g i 5) D) hA l_L_118 kX9_foldings (zX9_foldings (D := D) (ho := h.s11) (hg0 := h.gX) (hos := h.hos) (ho8 := h.s8) (rs := hr _) (rn := hr _) (ri := hr _) (rm := hr _) (rw := hr _)) dL_law_925 rfl rfl (by decide +kernel) (by decide) rfl (Nat.le_of_ble_eq_true rfl) (by omega) (fun v0 D0 e0 => ?_)
  have h2 := h.mX (fX_foldings e0)
  refine q_aload_n (j := 2) hA rfl dL_law_928 ?_
  refine q_aload_nz (j := 0) hA rfl dL_law_929 ?_
  refine q_iload_n (j := 3) hA rfl dL_law_930 ?_
  refine q_iconst hA dL_law_931 ?_
  refine q_iadd hA dL_law_932 ?_
  refine q_ialdX (x := sX g i 1) hA ha dL_law_933 (by omega) (by omega) rfl ?_
  refine q_aload_nz (j := 0) hA rfl dL_law_934 ?_
  refine q_iload_n (j := 3) hA rfl dL_law_935 ?_
  refine q_iconst hA dL_law_936 ?_
  refine q_iadd hA dL_law_937 ?_
  refine q_ialdX (x := sX g i 2) hA ha dL_law_938 (by omega) (by omega) rfl ?_
  refine q_aload_nz (j := 0) hA rfl dL_law_939 ?_
  refine q_iload_n (j := 3) hA rfl dL_law_940 ?_
  refine q_iconst hA dL_law_941 ?_
  refine q_iadd hA dL_law_942 ?_
  refine q_ialdX (x := sX g i 3) hA ha dL_law_943 (by omega) (by omega) rfl ?_
  refine q_aload_nz (j := 0) hA rfl dL_law_944 ?_
  refine q_iload_n (j := 3) hA rfl dL_law_945 ?_
  refine q_iconst hA dL_law_946 ?_
  refine q_iadd hA dL_law_947 ?_
  refine q_ialdX (x := sX g i 4) hA ha dL_law_948 (by omega) (by omega) rfl ?_
  refine q_aload_nz (j := 0) hA rfl dL_law_949 ?_
  refine q_iload_n (j := 3) hA rfl dL_law_950 ?_
  refine q_iconst hA dL_law_951 ?_
  refine q_iadd hA dL_law_952 ?_
  refine q_ialdX (x := sX g i 5) hA ha dL_law_953 (by omega) (by omega) rfl ?_
  refine q_callVI (b := 283) (ci := 9) (k := 26) (As := [vI (sX g i 1), vI (sX g i 2), vI (sX g i 3), vI (sX g i 4), vI (sX g i 5)]) (Qc := qM_foldings (sX g i 1) (sX g i 2) (sX g i 3) (sX g i 4) (sX g i 5) D0) hA l_L_121 kX10_foldings (zX10_foldings (D := D0) (ho := h2.m284) (h3 := h2.h3) (rs := hr _) (rl_ := hr _) (ri := hr _) (rn := hr _) (rw := hr _) (hla := h2.hla) (hit := h2.hit)) dL_law_954 rfl rfl (by decide +kernel) (by decide) rfl (Nat.le_of_ble_eq_true rfl) (by omega) (fun v1 D1 e1 => ?_)
  obtain ⟨ev, h3⟩ := st_foldings h2 e0 e1
  have h4 := h3.xM (fM_foldings e1)
  exact q_icmp_eq_t (tgt := 1048) hA ev dL_law_957 (by decide) (kk _ h4)
set_option maxHeartbeats 4000000 in
set_option maxRecDepth 100000 in
theorem lc_kinds {g : Gm} {l : Launch} {D : Dat} {d a : Nat} {J : JT} {i : Int} (hA : AX g l RL cL_law 4 d J) (hd : 17 ≤ d) (ha : (gX g).1 = a) (hi : 0 ≤ i ∧ i + 6 ≤ ((gX g).2.1 : Nat)) (hn : (gX g).2.1 ≤ 3072) (hr : ∀ j, -2147483648 ≤ (gX g).2.2 j ∧ (gX g).2.2 j ≤ 2147483647) (h : I2 D D) (kk : ∀ D2, I2 D2 D2 → J 1048 [vZ a, vR 0, vR 283, vI i] [] D2) : J 962 [vZ a, vR 0, vR 283, vI i] [] D := by
  refine q_aload_n (j := 1) hA rfl dL_law_962 ?_
  refine q_aload_nz (j := 0) hA rfl dL_law_963 ?_
  refine q_iload_n (j := 3) hA rfl dL_law_964 ?_
  refine q_iconst hA dL_law_965 ?_
  refine q_iadd hA dL_law_966 ?_
  refine q_ialdX (x := sX g i 1) hA ha dL_law_967 (by omega) (by omega) rfl ?_
  refine q_aload_nz (j := 0) hA rfl dL_law_968 ?_
  refine q_iload_n (j := 3) hA rfl dL_law_969 ?_
  refine q_iconst hA dL_law_970 ?_
  refine q_iadd hA dL_law_971 ?_
  refine q_ialdX (x := sX g i 2) hA ha dL_law_972 (by omega) (by omega) rfl ?_
  refine q_aload_nz (j := 0) hA rfl dL_law_973 ?_
  refine q_iload_n (j := 3) hA rfl dL_law_974 ?_
  refine q_iconst hA dL_law_975 ?_
  refine q_iadd hA dL_law_976 ?_
  refine q_ialdX (x := sX g i 3) hA ha dL_law_977 (by omega) (by omega) rfl ?_
  refine q_aload_nz (j := 0) hA rfl dL_law_978 ?_
  refine q_iload_n (j := 3) hA rfl dL_law_979 ?_
  refine q_iconst hA dL_law_980 ?_
  refine q_iadd hA dL_law_981 ?_
  refine q_ialdX (x := sX g i 4) hA ha dL_law_982 (by omega) (by omega) rfl ?_
  refine q_aload_nz (j := 0) hA rfl dL_law_983 ?_
  refine q_iload_n (j := 3) hA rfl dL_law_984 ?_
  refine q_iconst hA dL_law_985 ?_
  refine q_iadd hA dL_law_986 ?_
  refine q_ialdX (x := sX g i 5) hA ha dL_law_987 (by omega) (by omega) rfl ?_
  refine q_callVP (b := 0) (ci := 8) (k := 9) (As := [vI (sX g i 1), vI (sX g i 2), vI (sX g i 3), vI (sX g i 4), vI (sX g i 5)]) (x := qX_kinds (sX g i 1) (sX g i 2) (sX g i 3) (sX g i 4) (sX g i 5) D) hA l_L_122 kX9_kinds (zX9_kinds (D := D) (hos := h.hos) (rs := hr _) (rn := hr _) (ri := hr _) (rk := hr _) (rw := hr _)) dL_law_988 rfl rfl (by decide +kernel) (by decide) rfl (Nat.le_of_ble_eq_true rfl) (by omega) ?_
  have h2 := h
  refine q_aload_n (j := 2) hA rfl dL_law_991 ?_
  refine q_aload_nz (j := 0) hA rfl dL_law_992 ?_
  refine q_iload_n (j := 3) hA rfl dL_law_993 ?_
  refine q_iconst hA dL_law_994 ?_
  refine q_iadd hA dL_law_995 ?_
  refine q_ialdX (x := sX g i 1) hA ha dL_law_996 (by omega) (by omega) rfl ?_
  refine q_aload_nz (j := 0) hA rfl dL_law_997 ?_
  refine q_iload_n (j := 3) hA rfl dL_law_998 ?_
  refine q_iconst hA dL_law_999 ?_
  refine q_iadd hA dL_law_1000 ?_
  refine q_ialdX (x := sX g i 2) hA ha dL_law_1001 (by omega) (by omega) rfl ?_
  refine q_aload_nz (j := 0) hA rfl dL_law_1002 ?_
  refine q_iload_n (j := 3) hA rfl dL_law_1003 ?_
  refine q_iconst hA dL_law_1004 ?_
  refine q_iadd hA dL_law_1005 ?_
  refine q_ialdX (x := sX g i 3) hA ha dL_law_1006 (by omega) (by omega) rfl ?_
  refine q_aload_nz (j := 0) hA rfl dL_law_1007 ?_
  refine q_iload_n (j := 3) hA rfl dL_law_1008 ?_
  refine q_iconst hA dL_law_1009 ?_
  refine q_iadd hA dL_law_1010 ?_
  refine q_ialdX (x := sX g i 4) hA ha dL_law_1011 (by omega) (by omega) rfl ?_
  refine q_aload_nz (j := 0) hA rfl dL_law_1012 ?_
  refine q_iload_n (j := 3) hA rfl dL_law_1013 ?_
  refine q_iconst hA dL_law_1014 ?_
  refine q_iadd hA dL_law_1015 ?_
  refine q_ialdX (x := sX g i 5) hA ha dL_law_1016 (by omega) (by omega) rfl ?_
  refine q_callVP (b := 283) (ci := 9) (k := 26) (As := [vI (sX g i 1), vI (sX g i 2), vI (sX g i 3), vI (sX g i 4), vI (sX g i 5)]) (x := qM_kinds (sX g i 1) (sX g i 2) (sX g i 3) (sX g i 4) (sX g i 5) D) hA l_L_125 kX10_kinds (zX10_kinds (D := D) (rs := hr _) (rn := hr _) (ri := hr _) (rk := hr _) (rw := hr _) (hla := h2.hla) (hit := h2.hit)) dL_law_1017 rfl rfl (by decide +kernel) (by decide) rfl (Nat.le_of_ble_eq_true rfl) (by omega) ?_
  exact q_icmp_eq_t (tgt := 1048) hA (st_kinds h _ _ _ _ _) dL_law_1020 (by decide) (kk _ h)
set_option maxHeartbeats 4000000 in
set_option maxRecDepth 100000 in
theorem lc_count {g : Gm} {l : Launch} {D : Dat} {d a : Nat} {J : JT} {i : Int} (hA : AX g l RL cL_law 4 d J) (hd : 17 ≤ d) (ha : (gX g).1 = a) (hi : 0 ≤ i ∧ i + 6 ≤ ((gX g).2.1 : Nat)) (hn : (gX g).2.1 ≤ 3072) (hr : ∀ j, -2147483648 ≤ (gX g).2.2 j ∧ (gX g).2.2 j ≤ 2147483647) (h : I2 D D) (kk : ∀ D2, I2 D2 D2 → J 1048 [vZ a, vR 0, vR 283, vI i] [] D2) : J 1025 [vZ a, vR 0, vR 283, vI i] [] D := by
  refine q_aload_n (j := 1) hA rfl dL_law_1025 ?_
  refine q_aload_nz (j := 0) hA rfl dL_law_1026 ?_
  refine q_iload_n (j := 3) hA rfl dL_law_1027 ?_
  refine q_iconst hA dL_law_1028 ?_
  refine q_iadd hA dL_law_1029 ?_
  refine q_ialdX (x := sX g i 1) hA ha dL_law_1030 (by omega) (by omega) rfl ?_
  refine q_callVP (b := 0) (ci := 8) (k := 9) (As := [vI (sX g i 1)]) (x := qX_count (sX g i 1) D) hA l_L_126 kX9_count (zX9_count (D := D) (ho := h.s11) (hh := h.hs) (ht := h.tp) (rw := hr _)) dL_law_1031 rfl rfl (by decide +kernel) (by decide) rfl (Nat.le_of_ble_eq_true rfl) (by omega) ?_
  have h2 := h
  refine q_aload_n (j := 2) hA rfl dL_law_1034 ?_
  refine q_aload_nz (j := 0) hA rfl dL_law_1035 ?_
  refine q_iload_n (j := 3) hA rfl dL_law_1036 ?_
  refine q_iconst hA dL_law_1037 ?_
  refine q_iadd hA dL_law_1038 ?_
  refine q_ialdX (x := sX g i 1) hA ha dL_law_1039 (by omega) (by omega) rfl ?_
  refine q_callVP (b := 283) (ci := 9) (k := 26) (As := [vI (sX g i 1)]) (x := qM_count (sX g i 1) D) hA l_L_129 kX10_count (zX10_count (D := D) (ho := h2.m284) (rw := hr _)) dL_law_1040 rfl rfl (by decide +kernel) (by decide) rfl (Nat.le_of_ble_eq_true rfl) (by omega) ?_
  exact q_icmp_eq_t (tgt := 1048) hA (st_count h _) dL_law_1043 (by decide) (kk _ h)
