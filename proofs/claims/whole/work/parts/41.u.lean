set_option maxHeartbeats 4000000 in
set_option maxRecDepth 100000 in
theorem zX10_tour_L17 {g : Gm} {l : Launch} {D : Dat} (ho : mOk D 284) (hg0 : 0 < D 284 0 → gdR (rowM D 284 0)) {al : Int} {F : Dat} (hf11 : ∀ c, c ≠ 290 → c ≠ 291 → F c = D c) {J : JT} (hA : AX g l RX10 cX10_tour 10 6 J) (hR : ReI cX10_tour (fun v D1 => (¬ 0 < D 284 0 ∧ v = -2 ∧ D1 = D) ∨ (0 < D 284 0 ∧ (∃ al, isReach (rowM D 284 0) (8 * D 284 1 + D 284 2) al ∧ isTour (rowM D 284 0) (tS0 D) al v) ∧ ∀ c, c ≠ 290 → c ≠ 291 → D1 c = D c)) J) (hx : ∀ (k : Int) (E : Dat), (0 ≤ k ∧ k ≤ 16384) → (∀ i : Int, 0 ≤ i → i < k → E 291 i = 0) → (∀ c, c ≠ 291 → E c = F c) → (k = 16384) → J 37 [vR 283, vI al, vI k, vN, vN, vN, vN, vN, vN, vN] [] E) : ∀ (fuel : Nat) (k : Int) (E : Dat), (0 ≤ k ∧ k ≤ 16384) → (∀ i : Int, 0 ≤ i → i < k → E 291 i = 0) → (∀ c, c ≠ 291 → E c = F c) → 16384 - k < (fuel : Int) → J 17 [vR 283, vI al, vI k, vN, vN, vN, vN, vN, vN, vN] [] E := by
  intro fuel
  induction fuel with
  | zero => intro k E hk he hf hMs; exact absurd hMs (by omega)
  | succ fuel ih =>
    intro k E hk he hf hMs
    refine q_iload_n (j := 2) hA rfl dX10_tour_17 ?_
    refine q_sipush hA (by decide) dX10_tour_18 ?_
    refine q_icmp_ge (tgt := 37) hA (by omega) (by omega) dX10_tour_21 (by decide) (fun h21 => ?_) (fun h21 => ?_)
    · exact hx _ _ hk he hf (by omega)
    · refine q_aload_n (j := 0) hA rfl dX10_tour_24 ?_
      refine q_getR hA f_X10_31 dX10_tour_25 sx_283 (by decide) fx_283_10 ?_
      refine q_iload_n (j := 2) hA rfl dX10_tour_28 ?_
      refine q_iconst hA dX10_tour_29 ?_
      refine q_zast hA dX10_tour_30 sx_291 (by omega) (by decide) (by omega) ?_
      refine q_iinc (j := 2) (lo2 := [vR 283, vI al, vI (k + 1), vN, vN, vN, vN, vN, vN, vN]) hA dX10_tour_31 rfl (by decide) rfl rfl ?_
      refine q_goto (tgt := 17) hA dX10_tour_34 (by decide) ?_
      exact ih _ _ (by omega) (by intro i i1 i2; by_cases h : i = k; (subst h; exact upD_s); (rw [upD_n (Or.inr h)]; exact he i i1 (by omega))) (by exact fun c hc => (upD_other hc).trans (hf c hc)) (by omega)
set_option maxHeartbeats 4000000 in
set_option maxRecDepth 100000 in
theorem zX10_tour_L118 {g : Gm} {l : Launch} {D : Dat} (ho : mOk D 284) (hg0 : 0 < D 284 0 → gdR (rowM D 284 0)) {al b n la k : Int} (hb0 : 0 < D 284 0) (hn : 0 ≤ n) (hk : 0 ≤ k ∧ k < la) {J : JT} (hA : AX g l RX10 cX10_tour 10 6 J) (hR : ReI cX10_tour (fun v D1 => (¬ 0 < D 284 0 ∧ v = -2 ∧ D1 = D) ∨ (0 < D 284 0 ∧ (∃ al, isReach (rowM D 284 0) (8 * D 284 1 + D 284 2) al ∧ isTour (rowM D 284 0) (tS0 D) al v) ∧ ∀ c, c ≠ 290 → c ≠ 291 → D1 c = D c)) J) (hx : ∀ (e : Int) (m : Int) (E : Dat), (0 ≤ m ∧ m ≤ 3) → (bfI (rowM D 284 0) (E 290) (fun x => E 291 x = 1) e) → (bfL (rowM D 284 0) (tS0 D) al (E 290) e la n) → (bfD (rowM D 284 0) al (E 290) (fun x => E 291 x = 1) k) → (bfM (rowM D 284 0) (E 290) (fun x => E 291 x = 1) k m) → (E 290 k % 256 ≠ al) → (∀ x : Int, 0 ≤ x → x < 16384 → E 291 x = 0 ∨ E 291 x = 1) → (∀ c, c ≠ 290 → c ≠ 291 → E c = D c) → (bfM (rowM D 284 0) (E 290) (fun x => E 291 x = 1) k 3 ∧ E 290 k % 256 ≠ al) → J 224 [vR 283, vI al, vI b, vI e, vI n, vI la, vI k, vI m, vN, vN] [] E) : ∀ (fuel : Nat) (e : Int) (m : Int) (E : Dat), (0 ≤ m ∧ m ≤ 3) → (bfI (rowM D 284 0) (E 290) (fun x => E 291 x = 1) e) → (bfL (rowM D 284 0) (tS0 D) al (E 290) e la n) → (bfD (rowM D 284 0) al (E 290) (fun x => E 291 x = 1) k) → (bfM (rowM D 284 0) (E 290) (fun x => E 291 x = 1) k m) → (E 290 k % 256 ≠ al) → (∀ x : Int, 0 ≤ x → x < 16384 → E 291 x = 0 ∨ E 291 x = 1) → (∀ c, c ≠ 290 → c ≠ 291 → E c = D c) → 3 - m < (fuel : Int) → J 118 [vR 283, vI al, vI b, vI e, vI n, vI la, vI k, vI m, vN, vN] [] E := by
  intro fuel
  induction fuel with
  | zero => intro e m E hm hI hL hD hM ha h01 hf hMs; exact absurd hMs (by omega)
  | succ fuel ih =>
    intro e m E hm hI hL hD hM ha h01 hf hMs
    have hgd := hg0 hb0
    have hsy := hgd.2.1
    have hn8 := hgd.1.2.1.2.1
    have eR : rowM E 284 0 = (rowM D 284 0) := rowM_c (hf 284 (by omega) (by omega))
    have hgE := gd_c hgd eR
    have hle := hI.le
    have hll := hL.1
    have hqk := (hI.2.1 k (by omega) (by omega)).1
    have hq16 := hqk.1
    have hzE : zOk (rowM E 284 0) (E 290 k / 256) := by rw [eR]; exact hqk.2.1
    refine q_iload (j := 7) hA rfl dX10_tour_118 ?_
    refine q_iconst hA dX10_tour_120 ?_
    refine q_icmp_ge (tgt := 224) hA (by omega) (by omega) dX10_tour_121 (by decide) (fun h121 => ?_) (fun h121 => ?_)
    · exact hx _ _ _ hm hI hL hD hM ha h01 hf ⟨by rw [show (3 : Int) = m by omega]; exact hM, ha⟩
    · refine q_aload_n (j := 0) hA rfl dX10_tour_124 ?_
      refine q_aload_n (j := 0) hA rfl dX10_tour_125 ?_
      refine q_getR hA f_X10_28 dX10_tour_126 sx_283 (by decide) fx_283_9 ?_
      refine q_iload (j := 6) hA rfl dX10_tour_129 ?_
      refine q_iald (x := E 290 k) hA dX10_tour_131 sx_290 (by omega) (by decide) rfl ?_
      refine q_sipush hA (by decide) dX10_tour_132 ?_
      refine q_idiv hA (by omega) (by omega) dX10_tour_135 ?_
      refine q_iload (j := 7) hA rfl dX10_tour_136 ?_
      refine q_callVP (b := 283) (As := [vI ((E 290 k) / 256), vI m]) (st := []) hA l_X10_180 kX10_next (zX10_next hgE hzE (by omega)) dX10_tour_138 rfl rfl sx_283 (by decide) rfl (Nat.le_of_ble_eq_true rfl) (by omega) ?_
      refine q_nmI (fun y ey => ?_)
      rw [eR] at ey
      have hyi := bhR_in (r := (rowM D 284 0)) (z := E 290 k / 256) (m := m) hn8
      rw [← ey] at hyi
      refine q_istore (j := 8) (lo2 := [vR 283, vI al, vI b, vI e, vI n, vI la, vI k, vI m, vI y, vN]) hA dX10_tour_141 (by decide) rfl rfl ?_
      refine q_iload (j := 8) hA rfl dX10_tour_143 ?_
      refine q_bipush hA (by decide) dX10_tour_145 ?_
      refine q_icmp_ne (tgt := 154) hA (by omega) (by omega) dX10_tour_147 (by decide) (fun h147 => ?_) (fun h147 => ?_)
      · refine q_sipush hA (by decide) dX10_tour_154 ?_
        refine q_iload (j := 8) hA rfl dX10_tour_157 ?_
        refine q_imul hA dX10_tour_159 ?_
        refine q_aload_n (j := 0) hA rfl dX10_tour_160 ?_
        refine q_getR hA f_X10_28 dX10_tour_161 sx_283 (by decide) fx_283_9 ?_
        refine q_iload (j := 6) hA rfl dX10_tour_164 ?_
        refine q_iald (x := E 290 k) hA dX10_tour_166 sx_290 (by omega) (by decide) rfl ?_
        refine q_sipush hA (by decide) dX10_tour_167 ?_
        refine q_irem hA (by omega) (by omega) dX10_tour_170 ?_
        refine q_iconst hA dX10_tour_171 ?_
        refine q_iload (j := 8) hA rfl dX10_tour_172 ?_
        refine q_bipush hA (by decide) dX10_tour_174 ?_
        refine q_idiv hA (by omega) (by omega) dX10_tour_176 ?_
        refine q_ishl hA dX10_tour_177 ?_
        refine q_ior hA dX10_tour_178 ?_
        rw [show iOr ((E 290 k) % 256) (iShl 1 (y / 8)) = sb (E 290 k % 256) (y / 8) from or8 (by omega) (by omega)]
        refine q_iadd hA dX10_tour_179 ?_
        refine q_nmI (fun th eth => ?_)
        refine q_istore (j := 9) (lo2 := [vR 283, vI al, vI b, vI e, vI n, vI la, vI k, vI m, vI y, vI th]) hA dX10_tour_180 (by decide) rfl rfl ?_
        have hth : (y = -4 ∧ nxS (rowM D 284 0) (E 290 k) m = -4) ∨ (y ≠ -4 ∧ nxS (rowM D 284 0) (E 290 k) m = th ∧ tsOk (rowM D 284 0) th ∧ 0 ≤ th ∧ th < 16384) := by
                  have hx : nxS (rowM D 284 0) (E 290 k) m = if y < 0 then -4 else 256 * y + sb (E 290 k % 256) (y / 8) := by unfold nxS; rw [← ey]
                  have ho := nxS_ok hsy hn8 hqk (m := m) (by omega)
                  by_cases q : y = -4
                  · rw [if_pos (by omega)] at hx; exact Or.inl ⟨q, hx⟩
                  · rw [if_neg (by omega)] at hx
                    have sq := sb_in (x := E 290 k % 256) (k := y / 8) (by omega) (by omega)
                    have e2 : nxS (rowM D 284 0) (E 290 k) m = th := by first | exact hx.trans eth.symm | omega
                    rw [e2] at ho
                    rcases ho with w | w
                    · omega
                    · exact Or.inr ⟨q, e2, w, w.1.1, w.1.2⟩
        refine q_iload (j := 8) hA rfl dX10_tour_182 ?_
        refine q_bipush hA (by decide) dX10_tour_184 ?_
        refine q_icmp_eq (tgt := 218) hA (by omega) (by omega) dX10_tour_186 (by decide) (fun h186 => ?_) (fun h186 => ?_)
        · refine q_iinc (j := 7) (lo2 := [vR 283, vI al, vI b, vI e, vI n, vI la, vI k, vI (m + 1), vI y, vI th]) hA dX10_tour_218 rfl (by decide) rfl rfl ?_
          refine q_goto (tgt := 118) hA dX10_tour_221 (by decide) ?_
          refine q_fgt (lo2 := [vR 283, vI al, vI b, vI e, vI n, vI la, vI k, vI (m + 1), vN, vN]) hA ⟨Or.inr rfl, Or.inr rfl, Or.inr rfl, Or.inr rfl, Or.inr rfl, Or.inr rfl, Or.inr rfl, Or.inr rfl, Or.inl rfl, Or.inl rfl, trivial⟩ ?_
          exact ih _ _ _ (by omega) (by first | exact hI | exact hI.ad tm_ad hto (by omega)) (by first | exact hL | exact hL.ad (S := fun x => E 291 x = 1) (S2 := fun x => upD (upD E 291 th 1) 290 e th 291 x = 1) hI.1 tm_ad hk (by omega) hte (by omega)) (by first | exact hD | exact bfD.ad hsy hn8 hI hD tm_ad (by omega)) (by first | exact bfM.ad hsy hn8 hI hM tm_ad (by omega) (by omega) hte | exact hM.no (by rcases hth with q | q; (left; omega); (first | (exfalso; omega) | (right; show E 291 _ = 1; rw [q.2.1]; omega)))) (by first | exact ha | (rw [tm_ad.1 k (by omega) (by omega)]; exact ha)) (by first | exact h01 | exact tm_01 h01) (by first | exact hf | exact fun c c1 c2 => (upD_other c1).trans ((upD_other c2).trans (hf c c1 c2))) (by omega)
        · have hsr := h01 th (by omega) (by omega)
          refine q_aload_n (j := 0) hA rfl dX10_tour_189 ?_
          refine q_getR hA f_X10_31 dX10_tour_190 sx_283 (by decide) fx_283_10 ?_
          refine q_iload (j := 9) hA rfl dX10_tour_193 ?_
          refine q_zald (x := E 291 th) hA dX10_tour_195 sx_291 (by omega) (by decide) rfl ?_
          refine q_if_ne (tgt := 218) hA (by omega) dX10_tour_196 (by decide) (fun h196 => ?_) (fun h196 => ?_)
          · refine q_iinc (j := 7) (lo2 := [vR 283, vI al, vI b, vI e, vI n, vI la, vI k, vI (m + 1), vI y, vI th]) hA dX10_tour_218 rfl (by decide) rfl rfl ?_
            refine q_goto (tgt := 118) hA dX10_tour_221 (by decide) ?_
            refine q_fgt (lo2 := [vR 283, vI al, vI b, vI e, vI n, vI la, vI k, vI (m + 1), vN, vN]) hA ⟨Or.inr rfl, Or.inr rfl, Or.inr rfl, Or.inr rfl, Or.inr rfl, Or.inr rfl, Or.inr rfl, Or.inr rfl, Or.inl rfl, Or.inl rfl, trivial⟩ ?_
            exact ih _ _ _ (by omega) (by first | exact hI | exact hI.ad tm_ad hto (by omega)) (by first | exact hL | exact hL.ad (S := fun x => E 291 x = 1) (S2 := fun x => upD (upD E 291 th 1) 290 e th 291 x = 1) hI.1 tm_ad hk (by omega) hte (by omega)) (by first | exact hD | exact bfD.ad hsy hn8 hI hD tm_ad (by omega)) (by first | exact bfM.ad hsy hn8 hI hM tm_ad (by omega) (by omega) hte | exact hM.no (by rcases hth with q | q; (left; omega); (first | (exfalso; omega) | (right; show E 291 _ = 1; rw [q.2.1]; omega)))) (by first | exact ha | (rw [tm_ad.1 k (by omega) (by omega)]; exact ha)) (by first | exact h01 | exact tm_01 h01) (by first | exact hf | exact fun c c1 c2 => (upD_other c1).trans ((upD_other c2).trans (hf c c1 c2))) (by omega)
          · have hlt := hI.lt (show tsOk (rowM D 284 0) th by rcases hth with q | q; (exfalso; omega); exact q.2.2.1) (show ¬ E 291 th = 1 by omega)
            refine q_aload_n (j := 0) hA rfl dX10_tour_199 ?_
            refine q_getR hA f_X10_31 dX10_tour_200 sx_283 (by decide) fx_283_10 ?_
            refine q_iload (j := 9) hA rfl dX10_tour_203 ?_
            refine q_iconst hA dX10_tour_205 ?_
            refine q_zast hA dX10_tour_206 sx_291 (by omega) (by decide) (by omega) ?_
            refine q_aload_n (j := 0) hA rfl dX10_tour_207 ?_
            refine q_getR hA f_X10_28 dX10_tour_208 sx_283 (by decide) fx_283_9 ?_
            refine q_iload_n (j := 3) hA rfl dX10_tour_211 ?_
            refine q_iload (j := 9) hA rfl dX10_tour_212 ?_
            refine q_iast hA dX10_tour_214 sx_290 (by omega) (by decide) ?_
            have hto : tsOk (rowM D 284 0) th := by rcases hth with q | q; (exfalso; omega); exact q.2.2.1
            have hte : nxS (rowM D 284 0) (E 290 k) m = th := by rcases hth with q | q; (exfalso; omega); exact q.2.1
            refine q_iinc (j := 3) (lo2 := [vR 283, vI al, vI b, vI (e + 1), vI n, vI la, vI k, vI m, vI y, vI th]) hA dX10_tour_215 rfl (by decide) rfl rfl ?_
            refine q_iinc (j := 7) (lo2 := [vR 283, vI al, vI b, vI (e + 1), vI n, vI la, vI k, vI (m + 1), vI y, vI th]) hA dX10_tour_218 rfl (by decide) rfl rfl ?_
            refine q_goto (tgt := 118) hA dX10_tour_221 (by decide) ?_
            refine q_fgt (lo2 := [vR 283, vI al, vI b, vI (e + 1), vI n, vI la, vI k, vI (m + 1), vN, vN]) hA ⟨Or.inr rfl, Or.inr rfl, Or.inr rfl, Or.inr rfl, Or.inr rfl, Or.inr rfl, Or.inr rfl, Or.inr rfl, Or.inl rfl, Or.inl rfl, trivial⟩ ?_
            exact ih _ _ _ (by omega) (by first | exact hI | exact hI.ad tm_ad hto (by omega)) (by first | exact hL | exact hL.ad (S := fun x => E 291 x = 1) (S2 := fun x => upD (upD E 291 th 1) 290 e th 291 x = 1) hI.1 tm_ad hk (by omega) hte (by omega)) (by first | exact hD | exact bfD.ad hsy hn8 hI hD tm_ad (by omega)) (by first | exact bfM.ad hsy hn8 hI hM tm_ad (by omega) (by omega) hte | exact hM.no (by rcases hth with q | q; (left; omega); (first | (exfalso; omega) | (right; show E 291 _ = 1; rw [q.2.1]; omega)))) (by first | exact ha | (rw [tm_ad.1 k (by omega) (by omega)]; exact ha)) (by first | exact h01 | exact tm_01 h01) (by first | exact hf | exact fun c c1 c2 => (upD_other c1).trans ((upD_other c2).trans (hf c c1 c2))) (by omega)
      · refine q_iconst hA dX10_tour_150 ?_
        refine q_goto (tgt := 180) hA dX10_tour_151 (by decide) ?_
        refine q_nmI (fun th eth => ?_)
        refine q_istore (j := 9) (lo2 := [vR 283, vI al, vI b, vI e, vI n, vI la, vI k, vI m, vI y, vI th]) hA dX10_tour_180 (by decide) rfl rfl ?_
        have hth : (y = -4 ∧ nxS (rowM D 284 0) (E 290 k) m = -4) ∨ (y ≠ -4 ∧ nxS (rowM D 284 0) (E 290 k) m = th ∧ tsOk (rowM D 284 0) th ∧ 0 ≤ th ∧ th < 16384) := by
                  have hx : nxS (rowM D 284 0) (E 290 k) m = if y < 0 then -4 else 256 * y + sb (E 290 k % 256) (y / 8) := by unfold nxS; rw [← ey]
                  have ho := nxS_ok hsy hn8 hqk (m := m) (by omega)
                  by_cases q : y = -4
                  · rw [if_pos (by omega)] at hx; exact Or.inl ⟨q, hx⟩
                  · rw [if_neg (by omega)] at hx
                    have sq := sb_in (x := E 290 k % 256) (k := y / 8) (by omega) (by omega)
                    have e2 : nxS (rowM D 284 0) (E 290 k) m = th := by first | exact hx.trans eth.symm | omega
                    rw [e2] at ho
                    rcases ho with w | w
                    · omega
                    · exact Or.inr ⟨q, e2, w, w.1.1, w.1.2⟩
        refine q_iload (j := 8) hA rfl dX10_tour_182 ?_
        refine q_bipush hA (by decide) dX10_tour_184 ?_
        refine q_icmp_eq (tgt := 218) hA (by omega) (by omega) dX10_tour_186 (by decide) (fun h186 => ?_) (fun h186 => ?_)
        · refine q_iinc (j := 7) (lo2 := [vR 283, vI al, vI b, vI e, vI n, vI la, vI k, vI (m + 1), vI y, vI th]) hA dX10_tour_218 rfl (by decide) rfl rfl ?_
          refine q_goto (tgt := 118) hA dX10_tour_221 (by decide) ?_
          refine q_fgt (lo2 := [vR 283, vI al, vI b, vI e, vI n, vI la, vI k, vI (m + 1), vN, vN]) hA ⟨Or.inr rfl, Or.inr rfl, Or.inr rfl, Or.inr rfl, Or.inr rfl, Or.inr rfl, Or.inr rfl, Or.inr rfl, Or.inl rfl, Or.inl rfl, trivial⟩ ?_
          exact ih _ _ _ (by omega) (by first | exact hI | exact hI.ad tm_ad hto (by omega)) (by first | exact hL | exact hL.ad (S := fun x => E 291 x = 1) (S2 := fun x => upD (upD E 291 th 1) 290 e th 291 x = 1) hI.1 tm_ad hk (by omega) hte (by omega)) (by first | exact hD | exact bfD.ad hsy hn8 hI hD tm_ad (by omega)) (by first | exact bfM.ad hsy hn8 hI hM tm_ad (by omega) (by omega) hte | exact hM.no (by rcases hth with q | q; (left; omega); (first | (exfalso; omega) | (right; show E 291 _ = 1; rw [q.2.1]; omega)))) (by first | exact ha | (rw [tm_ad.1 k (by omega) (by omega)]; exact ha)) (by first | exact h01 | exact tm_01 h01) (by first | exact hf | exact fun c c1 c2 => (upD_other c1).trans ((upD_other c2).trans (hf c c1 c2))) (by omega)
        · have hsr := h01 th (by omega) (by omega)
          refine q_aload_n (j := 0) hA rfl dX10_tour_189 ?_
          refine q_getR hA f_X10_31 dX10_tour_190 sx_283 (by decide) fx_283_10 ?_
          refine q_iload (j := 9) hA rfl dX10_tour_193 ?_
          refine q_zald (x := E 291 th) hA dX10_tour_195 sx_291 (by omega) (by decide) rfl ?_
          refine q_if_ne (tgt := 218) hA (by omega) dX10_tour_196 (by decide) (fun h196 => ?_) (fun h196 => ?_)
          · refine q_iinc (j := 7) (lo2 := [vR 283, vI al, vI b, vI e, vI n, vI la, vI k, vI (m + 1), vI y, vI th]) hA dX10_tour_218 rfl (by decide) rfl rfl ?_
            refine q_goto (tgt := 118) hA dX10_tour_221 (by decide) ?_
            refine q_fgt (lo2 := [vR 283, vI al, vI b, vI e, vI n, vI la, vI k, vI (m + 1), vN, vN]) hA ⟨Or.inr rfl, Or.inr rfl, Or.inr rfl, Or.inr rfl, Or.inr rfl, Or.inr rfl, Or.inr rfl, Or.inr rfl, Or.inl rfl, Or.inl rfl, trivial⟩ ?_
            exact ih _ _ _ (by omega) (by first | exact hI | exact hI.ad tm_ad hto (by omega)) (by first | exact hL | exact hL.ad (S := fun x => E 291 x = 1) (S2 := fun x => upD (upD E 291 th 1) 290 e th 291 x = 1) hI.1 tm_ad hk (by omega) hte (by omega)) (by first | exact hD | exact bfD.ad hsy hn8 hI hD tm_ad (by omega)) (by first | exact bfM.ad hsy hn8 hI hM tm_ad (by omega) (by omega) hte | exact hM.no (by rcases hth with q | q; (left; omega); (first | (exfalso; omega) | (right; show E 291 _ = 1; rw [q.2.1]; omega)))) (by first | exact ha | (rw [tm_ad.1 k (by omega) (by omega)]; exact ha)) (by first | exact h01 | exact tm_01 h01) (by first | exact hf | exact fun c c1 c2 => (upD_other c1).trans ((upD_other c2).trans (hf c c1 c2))) (by omega)
          · have hlt := hI.lt (show tsOk (rowM D 284 0) th by rcases hth with q | q; (exfalso; omega); exact q.2.2.1) (show ¬ E 291 th = 1 by omega)
            refine q_aload_n (j := 0) hA rfl dX10_tour_199 ?_
            refine q_getR hA f_X10_31 dX10_tour_200 sx_283 (by decide) fx_283_10 ?_
            refine q_iload (j := 9) hA rfl dX10_tour_203 ?_
            refine q_iconst hA dX10_tour_205 ?_
            refine q_zast hA dX10_tour_206 sx_291 (by omega) (by decide) (by omega) ?_
            refine q_aload_n (j := 0) hA rfl dX10_tour_207 ?_
            refine q_getR hA f_X10_28 dX10_tour_208 sx_283 (by decide) fx_283_9 ?_
            refine q_iload_n (j := 3) hA rfl dX10_tour_211 ?_
            refine q_iload (j := 9) hA rfl dX10_tour_212 ?_
            refine q_iast hA dX10_tour_214 sx_290 (by omega) (by decide) ?_
            have hto : tsOk (rowM D 284 0) th := by rcases hth with q | q; (exfalso; omega); exact q.2.2.1
            have hte : nxS (rowM D 284 0) (E 290 k) m = th := by rcases hth with q | q; (exfalso; omega); exact q.2.1
            refine q_iinc (j := 3) (lo2 := [vR 283, vI al, vI b, vI (e + 1), vI n, vI la, vI k, vI m, vI y, vI th]) hA dX10_tour_215 rfl (by decide) rfl rfl ?_
            refine q_iinc (j := 7) (lo2 := [vR 283, vI al, vI b, vI (e + 1), vI n, vI la, vI k, vI (m + 1), vI y, vI th]) hA dX10_tour_218 rfl (by decide) rfl rfl ?_
            refine q_goto (tgt := 118) hA dX10_tour_221 (by decide) ?_
            refine q_fgt (lo2 := [vR 283, vI al, vI b, vI (e + 1), vI n, vI la, vI k, vI (m + 1), vN, vN]) hA ⟨Or.inr rfl, Or.inr rfl, Or.inr rfl, Or.inr rfl, Or.inr rfl, Or.inr rfl, Or.inr rfl, Or.inr rfl, Or.inl rfl, Or.inl rfl, trivial⟩ ?_
            exact ih _ _ _ (by omega) (by first | exact hI | exact hI.ad tm_ad hto (by omega)) (by first | exact hL | exact hL.ad (S := fun x => E 291 x = 1) (S2 := fun x => upD (upD E 291 th 1) 290 e th 291 x = 1) hI.1 tm_ad hk (by omega) hte (by omega)) (by first | exact hD | exact bfD.ad hsy hn8 hI hD tm_ad (by omega)) (by first | exact bfM.ad hsy hn8 hI hM tm_ad (by omega) (by omega) hte | exact hM.no (by rcases hth with q | q; (left; omega); (first | (exfalso; omega) | (right; show E 291 _ = 1; rw [q.2.1]; omega)))) (by first | exact ha | (rw [tm_ad.1 k (by omega) (by omega)]; exact ha)) (by first | exact h01 | exact tm_01 h01) (by first | exact hf | exact fun c c1 c2 => (upD_other c1).trans ((upD_other c2).trans (hf c c1 c2))) (by omega)
set_option maxHeartbeats 4000000 in
set_option maxRecDepth 100000 in
theorem zX10_tour_L90 {g : Gm} {l : Launch} {D : Dat} (ho : mOk D 284) (hg0 : 0 < D 284 0 → gdR (rowM D 284 0)) {al b n la : Int} (hb0 : 0 < D 284 0) (hr : isReach (rowM D 284 0) (8 * D 284 1 + D 284 2) al) (hn : 0 ≤ n) {J : JT} (hA : AX g l RX10 cX10_tour 10 6 J) (hR : ReI cX10_tour (fun v D1 => (¬ 0 < D 284 0 ∧ v = -2 ∧ D1 = D) ∨ (0 < D 284 0 ∧ (∃ al, isReach (rowM D 284 0) (8 * D 284 1 + D 284 2) al ∧ isTour (rowM D 284 0) (tS0 D) al v) ∧ ∀ c, c ≠ 290 → c ≠ 291 → D1 c = D c)) J) (hx : ∀ (e : Int) (k : Int) (E : Dat), (0 ≤ k ∧ k ≤ la) → (bfI (rowM D 284 0) (E 290) (fun x => E 291 x = 1) e) → (bfL (rowM D 284 0) (tS0 D) al (E 290) e la n) → (bfD (rowM D 284 0) al (E 290) (fun x => E 291 x = 1) k) → (∀ x : Int, 0 ≤ x → x < 16384 → E 291 x = 0 ∨ E 291 x = 1) → (∀ c, c ≠ 290 → c ≠ 291 → E c = D c) → (k = la) → J 230 [vR 283, vI al, vI b, vI e, vI n, vI la, vI k, vN, vN, vN] [] E) : ∀ (fuel : Nat) (e : Int) (k : Int) (E : Dat), (0 ≤ k ∧ k ≤ la) → (bfI (rowM D 284 0) (E 290) (fun x => E 291 x = 1) e) → (bfL (rowM D 284 0) (tS0 D) al (E 290) e la n) → (bfD (rowM D 284 0) al (E 290) (fun x => E 291 x = 1) k) → (∀ x : Int, 0 ≤ x → x < 16384 → E 291 x = 0 ∨ E 291 x = 1) → (∀ c, c ≠ 290 → c ≠ 291 → E c = D c) → la - k < (fuel : Int) → J 90 [vR 283, vI al, vI b, vI e, vI n, vI la, vI k, vN, vN, vN] [] E := by
  intro fuel
  induction fuel with
  | zero => intro e k E hk hI hL hD h01 hf hMs; exact absurd hMs (by omega)
  | succ fuel ih =>
    intro e k E hk hI hL hD h01 hf hMs
    have hgd := hg0 hb0
    have hsy := hgd.2.1
    have hn8 := hgd.1.2.1.2.1
    have eR : rowM E 284 0 = (rowM D 284 0) := rowM_c (hf 284 (by omega) (by omega))
    have hgE := gd_c hgd eR
    have hle := hI.le
    have hll := hL.1
    refine q_iload (j := 6) hA rfl dX10_tour_90 ?_
    refine q_iload (j := 5) hA rfl dX10_tour_92 ?_
    refine q_icmp_ge (tgt := 230) hA (by omega) (by omega) dX10_tour_94 (by decide) (fun h94 => ?_) (fun h94 => ?_)
    · exact hx _ _ _ hk hI hL hD h01 hf (by omega)
    · have hqk := (hI.2.1 k (by omega) (by omega)).1
      have hq16 := hqk.1
      have har := hr.1
      refine q_aload_n (j := 0) hA rfl dX10_tour_97 ?_
      refine q_getR hA f_X10_28 dX10_tour_98 sx_283 (by decide) fx_283_9 ?_
      refine q_iload (j := 6) hA rfl dX10_tour_101 ?_
      refine q_iald (x := E 290 k) hA dX10_tour_103 sx_290 (by omega) (by decide) rfl ?_
      refine q_sipush hA (by decide) dX10_tour_104 ?_
      refine q_irem hA (by omega) (by omega) dX10_tour_107 ?_
      refine q_iload_n (j := 1) hA rfl dX10_tour_108 ?_
      refine q_icmp_ne (tgt := 115) hA (by omega) (by omega) dX10_tour_109 (by decide) (fun h109 => ?_) (fun h109 => ?_)
      · refine q_iconst hA dX10_tour_115 ?_
        refine q_istore (j := 7) (lo2 := [vR 283, vI al, vI b, vI e, vI n, vI la, vI k, vI 0, vN, vN]) hA dX10_tour_116 (by decide) rfl rfl ?_
        refine zX10_tour_L118 (D := D) ho hg0 hb0 (by omega) (by omega) hA hR (fun e m E hm hI hL hD hM ha h01 hf hx => ?_) 1000 _ _ _ (by omega) (by exact hI) (by exact hL) (by exact hD) (by intro n n0 n1; omega) (by exact h109) (by exact h01) (by exact hf) (by omega)
        refine q_iinc (j := 6) (lo2 := [vR 283, vI al, vI b, vI e, vI n, vI la, vI (k + 1), vI m, vN, vN]) hA dX10_tour_224 rfl (by decide) rfl rfl ?_
        refine q_goto (tgt := 90) hA dX10_tour_227 (by decide) ?_
        refine q_fgt (lo2 := [vR 283, vI al, vI b, vI e, vI n, vI la, vI (k + 1), vN, vN, vN]) hA ⟨Or.inr rfl, Or.inr rfl, Or.inr rfl, Or.inr rfl, Or.inr rfl, Or.inr rfl, Or.inr rfl, Or.inl rfl, Or.inr rfl, Or.inr rfl, trivial⟩ ?_
        exact ih _ _ _ (by omega) (by exact hI) (by exact hL) (by exact hD.nx hx.2 hx.1) (by exact h01) (by exact hf) (by omega)
      · refine q_iload (j := 4) hA rfl dX10_tour_112 ?_
        exact hR 114 _ _ _ dX10_tour_114 (by exact Or.inr ⟨hb0, ⟨al, hr, bf_found hL (by omega) h109 hn⟩, hf⟩)
set_option maxHeartbeats 4000000 in
set_option maxRecDepth 100000 in
theorem zX10_tour_L79 {g : Gm} {l : Launch} {D : Dat} (ho : mOk D 284) (hg0 : 0 < D 284 0 → gdR (rowM D 284 0)) {al : Int} (hb0 : 0 < D 284 0) (hr : isReach (rowM D 284 0) (8 * D 284 1 + D 284 2) al) {J : JT} (hA : AX g l RX10 cX10_tour 10 6 J) (hR : ReI cX10_tour (fun v D1 => (¬ 0 < D 284 0 ∧ v = -2 ∧ D1 = D) ∨ (0 < D 284 0 ∧ (∃ al, isReach (rowM D 284 0) (8 * D 284 1 + D 284 2) al ∧ isTour (rowM D 284 0) (tS0 D) al v) ∧ ∀ c, c ≠ 290 → c ≠ 291 → D1 c = D c)) J) : ∀ (fuel : Nat) (b : Int) (e : Int) (n : Int) (E : Dat), (0 ≤ b ∧ b ≤ e ∧ 0 ≤ n) → (bfI (rowM D 284 0) (E 290) (fun x => E 291 x = 1) e) → (bfL (rowM D 284 0) (tS0 D) al (E 290) e e n) → (bfD (rowM D 284 0) al (E 290) (fun x => E 291 x = 1) b) → (∀ x : Int, 0 ≤ x → x < 16384 → E 291 x = 0 ∨ E 291 x = 1) → (∀ c, c ≠ 290 → c ≠ 291 → E c = D c) → 16385 - b < (fuel : Int) → J 79 [vR 283, vI al, vI b, vI e, vI n, vN, vN, vN, vN, vN] [] E := by
  intro fuel
  induction fuel with
  | zero => intro b e n E hb hI hL hD h01 hf hMs; exact absurd hMs (by have := hI.le; omega)
  | succ fuel ih =>
    intro b e n E hb hI hL hD h01 hf hMs
    have hgd := hg0 hb0
    have hsy := hgd.2.1
    have hn8 := hgd.1.2.1.2.1
    have eR : rowM E 284 0 = (rowM D 284 0) := rowM_c (hf 284 (by omega) (by omega))
    have hgE := gd_c hgd eR
    have hle := hI.le
    refine q_iload_n (j := 2) hA rfl dX10_tour_79 ?_
    refine q_iload_n (j := 3) hA rfl dX10_tour_80 ?_
    refine q_icmp_ge (tgt := 239) hA (by omega) (by omega) dX10_tour_81 (by decide) (fun h81 => ?_) (fun h81 => ?_)
    · refine q_bipush hA (by decide) dX10_tour_239 ?_
      exact hR 241 _ _ _ dX10_tour_241 (by exact Or.inr ⟨hb0, ⟨al, hr, bf_none hsy hn8 hI hL hD (by omega) (by omega)⟩, hf⟩)
    · refine q_iload_n (j := 3) hA rfl dX10_tour_84 ?_
      refine q_nmI (fun la ela => ?_)
      refine q_istore (j := 5) (lo2 := [vR 283, vI al, vI b, vI e, vI n, vI la, vN, vN, vN, vN]) hA dX10_tour_85 (by decide) rfl rfl ?_
      refine q_iload_n (j := 2) hA rfl dX10_tour_87 ?_
      refine q_istore (j := 6) (lo2 := [vR 283, vI al, vI b, vI e, vI n, vI la, vI b, vN, vN, vN]) hA dX10_tour_88 (by decide) rfl rfl ?_
      refine zX10_tour_L90 (D := D) ho hg0 hb0 hr (by omega) hA hR (fun e k E hk hI hL hD h01 hf hx => ?_) 20000 _ _ _ (by omega) (by exact hI) (by rw [ela]; exact hL) (by exact hD) (by exact h01) (by exact hf) (by have := hI.le; omega)
      refine q_iload (j := 5) hA rfl dX10_tour_230 ?_
      refine q_istore_n (j := 2) (lo2 := [vR 283, vI al, vI la, vI e, vI n, vI la, vI k, vN, vN, vN]) hA dX10_tour_232 (by decide) rfl rfl ?_
      refine q_iinc (j := 4) (lo2 := [vR 283, vI al, vI la, vI e, vI (n + 1), vI la, vI k, vN, vN, vN]) hA dX10_tour_233 rfl (by decide) rfl rfl ?_
      refine q_goto (tgt := 79) hA dX10_tour_236 (by decide) ?_
      refine q_fgt (lo2 := [vR 283, vI al, vI la, vI e, vI (n + 1), vN, vN, vN, vN, vN]) hA ⟨Or.inr rfl, Or.inr rfl, Or.inr rfl, Or.inr rfl, Or.inr rfl, Or.inl rfl, Or.inl rfl, Or.inr rfl, Or.inr rfl, Or.inr rfl, trivial⟩ ?_
      exact ih _ _ _ _ (by have := hI.1; have := hL.1; omega) (by exact hI) (by exact bf_up hsy hn8 hI hL (hx ▸ hD) (by omega)) (by exact hx ▸ hD) (by exact h01) (by exact hf) (by omega)
set_option maxHeartbeats 4000000 in
set_option maxRecDepth 100000 in
theorem zX10_tour {g : Gm} {l : Launch} {D : Dat} (ho : mOk D 284) (hg0 : 0 < D 284 0 → gdR (rowM D 284 0)) : CrI g l 6 mX10_tour [vR 283] D (fun v D1 => (¬ 0 < D 284 0 ∧ v = -2 ∧ D1 = D) ∨ (0 < D 284 0 ∧ (∃ al, isReach (rowM D 284 0) (8 * D 284 1 + D 284 2) al ∧ isTour (rowM D 284 0) (tS0 D) al v) ∧ ∀ c, c ≠ 290 → c ≠ 291 → D1 c = D c)) := by
  refine Cr.ofI (lo0 := [vR 283, vN, vN, vN, vN, vN, vN, vN, vN, vN]) (by decide) (Nat.le_of_ble_eq_true rfl) rfl (fun J hA hR => ?_)
  have hn := ho.n
  have hf := ho.f
  have hb := ho.b
  refine q_aload_n (j := 0) hA rfl dX10_tour_0 ?_
  refine q_callVB (b := 283) (As := []) (st := []) hA l_X10_159 kX10_isThere (zX10_isThere (by first | assumption | omega | rfl)) dX10_tour_1 rfl rfl sx_283 (by decide) rfl (Nat.le_of_ble_eq_true rfl) (by omega) (fun h1 => ?_) (fun h1 => ?_)
  · refine q_if_ne (tgt := 10) hA (by decide) dX10_tour_4 (by decide) (fun h4 => ?_) (fun h4 => absurd h4 (by decide))
    refine q_aload_n (j := 0) hA rfl dX10_tour_10 ?_
    refine q_callVI (b := 283) (As := []) (st := []) hA l_X10_191 kX10_reach (zX10_reach (by first | assumption | omega | rfl) (by first | assumption | omega | rfl)) dX10_tour_11 rfl rfl sx_283 (by decide) rfl (Nat.le_of_ble_eq_true rfl) (by omega) (fun v11 D11 q11 => ?_)
    have hre : isReach (rowM D 284 0) (8 * D 284 1 + D 284 2) v11 ∧ ∀ c, c ≠ 290 → c ≠ 291 → D11 c = D c := by rcases q11 with q | q; exact absurd h1 q.1; exact q.2
    obtain ⟨hr, hf11⟩ := hre
    refine q_nmI (fun al eal => ?_)
    refine q_istore_n (j := 1) (lo2 := [vR 283, vI al, vN, vN, vN, vN, vN, vN, vN, vN]) hA dX10_tour_14 (by decide) rfl rfl ?_
    rw [← eal] at hr
    refine q_iconst hA dX10_tour_15 ?_
    refine q_istore_n (j := 2) (lo2 := [vR 283, vI al, vI 0, vN, vN, vN, vN, vN, vN, vN]) hA dX10_tour_16 (by decide) rfl rfl ?_
    refine zX10_tour_L17 (D := D) ho hg0 hf11 hA hR (fun k E hk he hf hx => ?_) 20000 _ _ (by omega) (by intro i i1 i2; omega) (by exact fun _ _ => rfl) (by omega)
    refine q_iconst hA dX10_tour_37 ?_
    refine q_istore_n (j := 2) (lo2 := [vR 283, vI al, vI 0, vN, vN, vN, vN, vN, vN, vN]) hA dX10_tour_38 (by decide) rfl rfl ?_
    refine q_iconst hA dX10_tour_39 ?_
    refine q_istore_n (j := 3) (lo2 := [vR 283, vI al, vI 0, vI 1, vN, vN, vN, vN, vN, vN]) hA dX10_tour_40 (by decide) rfl rfl ?_
    have hgd := hg0 h1
    have e84 : E 284 = D 284 := (hf 284 (by omega)).trans (hf11 284 (by omega) (by omega))
    have hfE : 0 ≤ E 284 1 ∧ E 284 1 ≤ 7 := by rw [e84]; exact ho.f
    refine q_aload_n (j := 0) hA rfl dX10_tour_41 ?_
    refine q_getR hA f_X10_28 dX10_tour_42 sx_283 (by decide) fx_283_9 ?_
    refine q_iconst hA dX10_tour_45 ?_
    refine q_sipush hA (by decide) dX10_tour_46 ?_
    refine q_aload_n (j := 0) hA rfl dX10_tour_49 ?_
    refine q_callVP (b := 283) (As := []) (st := [vI 256, vI 0, vR 290]) hA l_X10_177 kX10_stateNow (zX10_stateNow (gd_c hgd (rowM_c e84))) dX10_tour_50 rfl rfl sx_283 (by decide) rfl (Nat.le_of_ble_eq_true rfl) (by omega) ?_
    refine q_nmI (fun zs ezs => ?_)
    rw [e84] at ezs
    have hst0 := t0_ok hgd
    have ht16 := hst0.1
    refine q_imul hA dX10_tour_53 ?_
    refine q_iconst hA dX10_tour_54 ?_
    refine q_aload_n (j := 0) hA rfl dX10_tour_55 ?_
    refine q_getR hA f_X10_7 dX10_tour_56 sx_283 (by decide) fx_283_0 ?_
    refine q_iconst hA dX10_tour_59 ?_
    refine q_iald (x := E 284 1) hA dX10_tour_60 sx_284 (by omega) (by decide) rfl ?_
    refine q_ishl hA dX10_tour_61 ?_
    rw [show iShl 1 (E 284 1) = pw (E 284 1) from shl1 (by omega)]
    refine q_iadd hA dX10_tour_62 ?_
    have eQ : 256 * zs + pw (E 284 1) = tS0 D := by unfold tS0; rw [ezs, e84]
    have hpw := pw_8 (k := E 284 1) (by omega)
    refine q_iast hA dX10_tour_63 sx_290 (by omega) (by decide) ?_
    refine q_aload_n (j := 0) hA rfl dX10_tour_64 ?_
    refine q_getR hA f_X10_31 dX10_tour_65 sx_283 (by decide) fx_283_10 ?_
    refine q_aload_n (j := 0) hA rfl dX10_tour_68 ?_
    refine q_getR hA f_X10_28 dX10_tour_69 sx_283 (by decide) fx_283_9 ?_
    refine q_iconst hA dX10_tour_72 ?_
    refine q_iald (x := (256 * zs) + (pw (E 284 1))) hA dX10_tour_73 sx_290 (by omega) (by decide) ((upD_s).trans (rfl)) ?_
    refine q_iconst hA dX10_tour_74 ?_
    refine q_zast hA dX10_tour_75 sx_291 (by omega) (by decide) (by omega) ?_
    refine q_nmD (fun B eB => ?_)
    rw [eQ] at eB
    have hB0 : B 290 0 = tS0 D := by rw [eB, upD_n (Or.inl (by omega)), upD_s]
    have hBx : ∀ x : Int, B 291 x = if x = tS0 D then 1 else E 291 x := fun x => by
      rw [eB]
      by_cases q : x = tS0 D
      · rw [if_pos q, q, upD_s]
      · rw [if_neg q, upD_n (Or.inr q), upD_other (by omega)]
    have hB := bf_0 (r := (rowM D 284 0)) (t0 := tS0 D) (Q := B 290) (S := fun x => B 291 x = 1) (al := al) hst0 hB0 (fun x x0 x1 => by
      show B 291 x = 1 ↔ _
      rw [hBx]; split
      · rename_i q; exact ⟨fun _ => q, fun _ => rfl⟩
      · rename_i q; rw [he x x0 (by omega)]; exact ⟨fun w => by omega, fun w => absurd w q⟩)
    have hB01 : ∀ x : Int, 0 ≤ x → x < 16384 → B 291 x = 0 ∨ B 291 x = 1 := fun x x0 x1 => by rw [hBx, he x x0 (by omega)]; split <;> simp
    have hBf : ∀ c, c ≠ 290 → c ≠ 291 → B c = D c := fun c c1 c2 => by rw [eB, upD_other c2, upD_other c1]; exact (hf c c2).trans (hf11 c c1 c2)
    refine q_iconst hA dX10_tour_76 ?_
    refine q_istore (j := 4) (lo2 := [vR 283, vI al, vI 0, vI 1, vI 0, vN, vN, vN, vN, vN]) hA dX10_tour_77 (by decide) rfl rfl ?_
    refine zX10_tour_L79 (D := D) ho hg0 h1 hr hA hR 20000 _ _ _ _ (by omega) (by exact hB.1) (by exact hB.2.1) (by exact hB.2.2) (by exact hB01) (by exact hBf) (by omega)
  · refine q_if_ne (tgt := 10) hA (by decide) dX10_tour_4 (by decide) (fun h4 => absurd h4 (by decide)) (fun h4 => ?_)
    refine q_bipush hA (by decide) dX10_tour_7 ?_
    exact hR 9 _ _ _ dX10_tour_9 (by exact Or.inl ⟨h1, rfl, rfl⟩)
