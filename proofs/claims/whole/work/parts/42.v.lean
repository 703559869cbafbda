set_option maxHeartbeats 4000000 in
set_option maxRecDepth 100000 in
theorem zX10_comesTo_L9 {g : Gm} {l : Launch} {D : Dat} (hgd : gdR (rowM D 284 0)) {x : Int} {a : Int} {n : Int} (hn : 0 ≤ n ∧ n ≤ 6) (ha : a = p3 n.toNat) (hx : 0 ≤ x ∧ x ≤ 1000)   {J : JT} (hA : AX g l RX10 cX10_comesTo 10 6 J) (hR : ReI cX10_comesTo (fun v D1 => v = cTo n.toNat 0 a x (rowM D 284 0) 0 ∧ ∀ c, c ≠ 284 → D1 c = D c) J) : ∀ (fuel : Nat) (u : Int) (s : Int) (t : Int) (E : Dat), (0 ≤ t ∧ t ≤ n) → (u = p3 (n - t).toNat) → (gdR (rowM E 284 0)) → (cTo n.toNat 0 a x (rowM D 284 0) 0 = cTo (n - t).toNat t u x (rowM E 284 0) s) → (∀ c, c ≠ 284 → E c = D c) → n - t < (fuel : Int) → J 9 [vR 283, vI x, vI a, vI n, vI u, vI s, vI t, vN, vN, vN] [] E := by
  intro fuel
  induction fuel with
  | zero => intro u s t E ht hu hE hv hf hMs; exact absurd hMs (by omega)
  | succ fuel ih =>
    intro u s t E ht hu hE hv hf hMs
    have oE := gd_o hE
    have gE := gd_g hE
    have hup0 := p3_pos (n - t).toNat
    have hut0 := p3_tab (n - t).toNat (by omega)
    rw [← hu] at hup0 hut0
    refine q_iload (j := 6) hA rfl dX10_comesTo_9 ?_
    refine q_iload_n (j := 3) hA rfl dX10_comesTo_11 ?_
    refine q_icmp_ge (tgt := 110) hA (by omega) (by omega) dX10_comesTo_12 (by decide) (fun h12 => ?_) (fun h12 => ?_)
    · refine q_iload (j := 5) hA rfl dX10_comesTo_110 ?_
      exact hR 112 _ _ _ dX10_comesTo_112 (⟨by rw [hv, show n - t = 0 by omega]; rfl, hf⟩)
    · refine q_iload (j := 4) hA rfl dX10_comesTo_15 ?_
      refine q_iconst hA dX10_comesTo_17 ?_
      refine q_idiv hA (by omega) (by omega) dX10_comesTo_18 ?_
      refine q_nmI (fun u2 eu2 => ?_)
      refine q_istore (j := 4) (lo2 := [vR 283, vI x, vI a, vI n, vI u2, vI s, vI t, vN, vN, vN]) hA dX10_comesTo_19 (by decide) rfl rfl ?_
      have hu2 : u2 = p3 (n - (t + 1)).toNat := by rw [eu2, hu, show (n - t).toNat = (n - (t + 1)).toNat + 1 by omega, p3_div]
      have hup := p3_pos (n - (t + 1)).toNat
      have hut := p3_tab (n - (t + 1)).toNat (by omega)
      refine q_iload_n (j := 1) hA rfl dX10_comesTo_21 ?_
      refine q_iload (j := 4) hA rfl dX10_comesTo_22 ?_
      refine q_idiv hA (by omega) (by omega) dX10_comesTo_24 ?_
      have hq1 := Int.ediv_nonneg (a := x) (b := u2) (by omega) (by omega)
      have hq2 := Int.ediv_le_self (a := x) u2 (by omega)
      refine q_iconst hA dX10_comesTo_25 ?_
      refine q_irem hA (by omega) (by omega) dX10_comesTo_26 ?_
      refine q_nmI (fun m em => ?_)
      refine q_istore (j := 7) (lo2 := [vR 283, vI x, vI a, vI n, vI u2, vI s, vI t, vI m, vN, vN]) hA dX10_comesTo_27 (by decide) rfl rfl ?_
      have hm : 0 ≤ m ∧ m ≤ 2 := by rw [em]; omega
      refine q_aload_n (j := 0) hA rfl dX10_comesTo_29 ?_
      refine q_iload (j := 7) hA rfl dX10_comesTo_30 ?_
      refine q_callVB (b := 283) (As := [vI m]) (st := []) hA l_X10_168 kX10_may (zX10_may oE gE (by omega)) dX10_comesTo_32 rfl rfl sx_283 (by decide) rfl (Nat.le_of_ble_eq_true rfl) (by omega) (fun h32 => ?_) (fun h32 => ?_)
      · refine q_if_ne (tgt := 53) hA (by decide) dX10_comesTo_35 (by decide) (fun h35 => ?_) (fun h35 => absurd h35 (by decide))
        refine q_aload_n (j := 0) hA rfl dX10_comesTo_53 ?_
        refine q_iload (j := 7) hA rfl dX10_comesTo_54 ?_
        refine q_callVI (b := 283) (As := [vI m]) (st := []) hA l_X10_174 kX10_moves (zX10_moves oE gE (by omega) (by omega)) dX10_comesTo_56 rfl rfl sx_283 (by decide) rfl (Nat.le_of_ble_eq_true rfl) (by omega) (fun v56 D56 q56 => ?_)
        have hcm := (gd_may hE hm).1 h32
        have g56 := mov_go hE hm hcm q56
        have hvi : (m = 2 ∧ v56 = -4) ∨ (m ≠ 2 ∧ v56 = comesR (rowM E 284 0) m) := by have := g56.2.1; by_cases q : m = 2; (rw [if_pos q] at this; exact Or.inl ⟨q, this⟩); (rw [if_neg q] at this; exact Or.inr ⟨q, this⟩)
        have hci := comesR_in (r := rowM E 284 0) (m := m) (by have := hE.1.2.2.1; omega) hE.1.2.2.2
        have hn8 := hE.1.2.1.2.1
        refine q_istore (j := 8) (lo2 := [vR 283, vI x, vI a, vI n, vI u2, vI s, vI t, vI m, vI v56, vN]) hA dX10_comesTo_59 (by decide) rfl rfl ?_
        refine q_iload (j := 8) hA rfl dX10_comesTo_61 ?_
        refine q_bipush hA (by decide) dX10_comesTo_63 ?_
        refine q_icmp_ne (tgt := 72) hA (by omega) (by omega) dX10_comesTo_65 (by decide) (fun h65 => ?_) (fun h65 => ?_)
        · refine q_aload_n (j := 0) hA rfl dX10_comesTo_72 ?_
          refine q_getR hA f_X10_7 dX10_comesTo_73 sx_283 (by decide) fx_283_0 ?_
          refine q_bipush hA (by decide) dX10_comesTo_76 ?_
          refine q_iload (j := 8) hA rfl dX10_comesTo_78 ?_
          refine q_iadd hA dX10_comesTo_80 ?_
          refine q_iald (x := D56 284 (12 + v56)) hA dX10_comesTo_81 sx_284 (by omega) (by decide) rfl ?_
          refine q_nmI (fun w ew => ?_)
          refine q_istore (j := 9) (lo2 := [vR 283, vI x, vI a, vI n, vI u2, vI s, vI t, vI m, vI v56, vI w]) hA dX10_comesTo_82 (by decide) rfl rfl ?_
          have hw := wrt_w hE hcm g56.1 hvi (by first | exact Or.inl ⟨by omega, ew⟩ | exact Or.inr ⟨by omega, ew⟩)
          have hwi := wrt_in hE.1 hcm
          rw [← hw] at hwi
          refine q_iload (j := 5) hA rfl dX10_comesTo_84 ?_
          refine q_iload (j := 6) hA rfl dX10_comesTo_86 ?_
          refine q_iconst hA dX10_comesTo_88 ?_
          refine q_irem hA (by omega) (by omega) dX10_comesTo_89 ?_
          refine q_if_ne (tgt := 98) hA (by omega) dX10_comesTo_90 (by decide) (fun h90 => ?_) (fun h90 => ?_)
          · refine q_iload (j := 9) hA rfl dX10_comesTo_98 ?_
            refine q_ineg hA dX10_comesTo_100 ?_
            refine q_iadd hA dX10_comesTo_101 ?_
            refine q_istore (j := 5) (lo2 := [vR 283, vI x, vI a, vI n, vI u2, vI (s + (-w)), vI t, vI m, vI v56, vI w]) hA dX10_comesTo_102 (by decide) rfl rfl ?_
            refine q_iinc (j := 6) (lo2 := [vR 283, vI x, vI a, vI n, vI u2, vI (s + (-w)), vI (t + 1), vI m, vI v56, vI w]) hA dX10_comesTo_104 rfl (by decide) rfl rfl ?_
            refine q_goto (tgt := 9) hA dX10_comesTo_107 (by decide) ?_
            refine q_fgt (lo2 := [vR 283, vI x, vI a, vI n, vI u2, vI (s + (-w)), vI (t + 1), vN, vN, vN]) hA ⟨Or.inr rfl, Or.inr rfl, Or.inr rfl, Or.inr rfl, Or.inr rfl, Or.inr rfl, Or.inr rfl, Or.inl rfl, Or.inl rfl, Or.inl rfl, trivial⟩ ?_
            exact ih _ _ _ _ (by omega) (by exact hu2) (by rw [g56.1]; exact gd_go hE) (by rw [hv, cTo_step (by omega) eu2 em, if_pos hcm, g56.1, ← hw]; unfold sgt; first | rw [if_pos (by omega)] | rw [if_neg (by omega)]) (by exact fun c hc => (g56.2.2 c hc).trans (hf c hc)) (by omega)
          · refine q_iload (j := 9) hA rfl dX10_comesTo_93 ?_
            refine q_goto (tgt := 101) hA dX10_comesTo_95 (by decide) ?_
            refine q_iadd hA dX10_comesTo_101 ?_
            refine q_istore (j := 5) (lo2 := [vR 283, vI x, vI a, vI n, vI u2, vI (s + w), vI t, vI m, vI v56, vI w]) hA dX10_comesTo_102 (by decide) rfl rfl ?_
            refine q_iinc (j := 6) (lo2 := [vR 283, vI x, vI a, vI n, vI u2, vI (s + w), vI (t + 1), vI m, vI v56, vI w]) hA dX10_comesTo_104 rfl (by decide) rfl rfl ?_
            refine q_goto (tgt := 9) hA dX10_comesTo_107 (by decide) ?_
            refine q_fgt (lo2 := [vR 283, vI x, vI a, vI n, vI u2, vI (s + w), vI (t + 1), vN, vN, vN]) hA ⟨Or.inr rfl, Or.inr rfl, Or.inr rfl, Or.inr rfl, Or.inr rfl, Or.inr rfl, Or.inr rfl, Or.inl rfl, Or.inl rfl, Or.inl rfl, trivial⟩ ?_
            exact ih _ _ _ _ (by omega) (by exact hu2) (by rw [g56.1]; exact gd_go hE) (by rw [hv, cTo_step (by omega) eu2 em, if_pos hcm, g56.1, ← hw]; unfold sgt; first | rw [if_pos (by omega)] | rw [if_neg (by omega)]) (by exact fun c hc => (g56.2.2 c hc).trans (hf c hc)) (by omega)
        · refine q_iconst hA dX10_comesTo_68 ?_
          refine q_goto (tgt := 82) hA dX10_comesTo_69 (by decide) ?_
          refine q_nmI (fun w ew => ?_)
          refine q_istore (j := 9) (lo2 := [vR 283, vI x, vI a, vI n, vI u2, vI s, vI t, vI m, vI v56, vI w]) hA dX10_comesTo_82 (by decide) rfl rfl ?_
          have hw := wrt_w hE hcm g56.1 hvi (by first | exact Or.inl ⟨by omega, ew⟩ | exact Or.inr ⟨by omega, ew⟩)
          have hwi := wrt_in hE.1 hcm
          rw [← hw] at hwi
          refine q_iload (j := 5) hA rfl dX10_comesTo_84 ?_
          refine q_iload (j := 6) hA rfl dX10_comesTo_86 ?_
          refine q_iconst hA dX10_comesTo_88 ?_
          refine q_irem hA (by omega) (by omega) dX10_comesTo_89 ?_
          refine q_if_ne (tgt := 98) hA (by omega) dX10_comesTo_90 (by decide) (fun h90 => ?_) (fun h90 => ?_)
          · refine q_iload (j := 9) hA rfl dX10_comesTo_98 ?_
            refine q_ineg hA dX10_comesTo_100 ?_
            refine q_iadd hA dX10_comesTo_101 ?_
            refine q_istore (j := 5) (lo2 := [vR 283, vI x, vI a, vI n, vI u2, vI (s + (-w)), vI t, vI m, vI v56, vI w]) hA dX10_comesTo_102 (by decide) rfl rfl ?_
            refine q_iinc (j := 6) (lo2 := [vR 283, vI x, vI a, vI n, vI u2, vI (s + (-w)), vI (t + 1), vI m, vI v56, vI w]) hA dX10_comesTo_104 rfl (by decide) rfl rfl ?_
            refine q_goto (tgt := 9) hA dX10_comesTo_107 (by decide) ?_
            refine q_fgt (lo2 := [vR 283, vI x, vI a, vI n, vI u2, vI (s + (-w)), vI (t + 1), vN, vN, vN]) hA ⟨Or.inr rfl, Or.inr rfl, Or.inr rfl, Or.inr rfl, Or.inr rfl, Or.inr rfl, Or.inr rfl, Or.inl rfl, Or.inl rfl, Or.inl rfl, trivial⟩ ?_
            exact ih _ _ _ _ (by omega) (by exact hu2) (by rw [g56.1]; exact gd_go hE) (by rw [hv, cTo_step (by omega) eu2 em, if_pos hcm, g56.1, ← hw]; unfold sgt; first | rw [if_pos (by omega)] | rw [if_neg (by omega)]) (by exact fun c hc => (g56.2.2 c hc).trans (hf c hc)) (by omega)
          · refine q_iload (j := 9) hA rfl dX10_comesTo_93 ?_
            refine q_goto (tgt := 101) hA dX10_comesTo_95 (by decide) ?_
            refine q_iadd hA dX10_comesTo_101 ?_
            refine q_istore (j := 5) (lo2 := [vR 283, vI x, vI a, vI n, vI u2, vI (s + w), vI t, vI m, vI v56, vI w]) hA dX10_comesTo_102 (by decide) rfl rfl ?_
            refine q_iinc (j := 6) (lo2 := [vR 283, vI x, vI a, vI n, vI u2, vI (s + w), vI (t + 1), vI m, vI v56, vI w]) hA dX10_comesTo_104 rfl (by decide) rfl rfl ?_
            refine q_goto (tgt := 9) hA dX10_comesTo_107 (by decide) ?_
            refine q_fgt (lo2 := [vR 283, vI x, vI a, vI n, vI u2, vI (s + w), vI (t + 1), vN, vN, vN]) hA ⟨Or.inr rfl, Or.inr rfl, Or.inr rfl, Or.inr rfl, Or.inr rfl, Or.inr rfl, Or.inr rfl, Or.inl rfl, Or.inl rfl, Or.inl rfl, trivial⟩ ?_
            exact ih _ _ _ _ (by omega) (by exact hu2) (by rw [g56.1]; exact gd_go hE) (by rw [hv, cTo_step (by omega) eu2 em, if_pos hcm, g56.1, ← hw]; unfold sgt; first | rw [if_pos (by omega)] | rw [if_neg (by omega)]) (by exact fun c hc => (g56.2.2 c hc).trans (hf c hc)) (by omega)
      · refine q_if_ne (tgt := 53) hA (by decide) dX10_comesTo_35 (by decide) (fun h35 => absurd h35 (by decide)) (fun h35 => ?_)
        refine q_iload (j := 6) hA rfl dX10_comesTo_38 ?_
        refine q_iconst hA dX10_comesTo_40 ?_
        refine q_irem hA (by omega) (by omega) dX10_comesTo_41 ?_
        refine q_if_ne (tgt := 50) hA (by omega) dX10_comesTo_42 (by decide) (fun h42 => ?_) (fun h42 => ?_)
        · refine q_ldc hA c_X10_218 dX10_comesTo_50 ?_
          exact hR 52 _ _ _ dX10_comesTo_52 (⟨by rw [hv, cTo_step (by omega) eu2 em, if_neg (fun z => h32 ((gd_may hE hm).2 z))]; first | rw [if_pos (by omega)] | rw [if_neg (by omega)], hf⟩)
        · refine q_ldc hA c_X10_217 dX10_comesTo_45 ?_
          refine q_goto (tgt := 52) hA dX10_comesTo_47 (by decide) ?_
          exact hR 52 _ _ _ dX10_comesTo_52 (⟨by rw [hv, cTo_step (by omega) eu2 em, if_neg (fun z => h32 ((gd_may hE hm).2 z))]; first | rw [if_pos (by omega)] | rw [if_neg (by omega)], hf⟩)
set_option maxHeartbeats 4000000 in
set_option maxRecDepth 100000 in
theorem zX10_comesTo {g : Gm} {l : Launch} {D : Dat} (hgd : gdR (rowM D 284 0)) {x : Int} {a : Int} {n : Int} (hn : 0 ≤ n ∧ n ≤ 6) (ha : a = p3 n.toNat) (hx : 0 ≤ x ∧ x ≤ 1000) : CrI g l 6 mX10_comesTo [vR 283, vI x, vI a, vI n] D (fun v D1 => v = cTo n.toNat 0 a x (rowM D 284 0) 0 ∧ ∀ c, c ≠ 284 → D1 c = D c) := by
  refine Cr.ofI (lo0 := [vR 283, vI x, vI a, vI n, vN, vN, vN, vN, vN, vN]) (by decide) (Nat.le_of_ble_eq_true rfl) rfl (fun J hA hR => ?_)
  refine q_iload_n (j := 2) hA rfl dX10_comesTo_0 ?_
  refine q_istore (j := 4) (lo2 := [vR 283, vI x, vI a, vI n, vI a, vN, vN, vN, vN, vN]) hA dX10_comesTo_1 (by decide) rfl rfl ?_
  refine q_iconst hA dX10_comesTo_3 ?_
  refine q_istore (j := 5) (lo2 := [vR 283, vI x, vI a, vI n, vI a, vI 0, vN, vN, vN, vN]) hA dX10_comesTo_4 (by decide) rfl rfl ?_
  refine q_iconst hA dX10_comesTo_6 ?_
  refine q_istore (j := 6) (lo2 := [vR 283, vI x, vI a, vI n, vI a, vI 0, vI 0, vN, vN, vN]) hA dX10_comesTo_7 (by decide) rfl rfl ?_
  refine zX10_comesTo_L9 (D := D) (x := x) (a := a) (n := n) hgd hn ha hx  hA hR 1000 _ _ _ _ (by omega) (by rw [ha, Int.sub_zero]) (by exact hgd) (by rw [Int.sub_zero]) (by exact fun _ _ => rfl) (by omega)
set_option maxHeartbeats 4000000 in
set_option maxRecDepth 100000 in
theorem zX10_duel_L28 {g : Gm} {l : Launch} {D : Dat} (ho : mOk D 284) (hg0 : 0 < D 284 0 → gdR (rowM D 284 0)) {n : Int} (rn : -2147483648 ≤ n ∧ n ≤ 2147483647)  (hb : 0 ≤ n ∧ n ≤ 6) {J : JT} (hA : AX g l RX10 cX10_duel 9 7 J) (hR : ReI cX10_duel (fun v D1 => (¬ (0 ≤ n ∧ n ≤ 6) ∧ v = -1 ∧ D1 = D) ∨ ((0 ≤ n ∧ n ≤ 6) ∧ ¬ 0 < D 284 0 ∧ v = -2 ∧ D1 = D) ∨ ((0 ≤ n ∧ n ≤ 6) ∧ 0 < D 284 0 ∧ v = 100 + gainR n.toNat (rowM D 284 0) ∧ bkF D D1)) J) (hx : ∀ (a : Int) (t : Int), (0 ≤ t ∧ t ≤ n) → (a = p3 t.toNat) → (a = p3 n.toNat) → J 43 [vR 283, vI n, vI a, vI t, vN, vN, vN, vN, vN] [] D) : ∀ (fuel : Nat) (a : Int) (t : Int), (0 ≤ t ∧ t ≤ n) → (a = p3 t.toNat) → n - t < (fuel : Int) → J 28 [vR 283, vI n, vI a, vI t, vN, vN, vN, vN, vN] [] D := by
  intro fuel
  induction fuel with
  | zero => intro a t ht hat hMs; exact absurd hMs (by omega)
  | succ fuel ih =>
    intro a t ht hat hMs
    refine q_iload_n (j := 3) hA rfl dX10_duel_28 ?_
    refine q_iload_n (j := 1) hA rfl dX10_duel_29 ?_
    refine q_icmp_ge (tgt := 43) hA (by omega) (by omega) dX10_duel_30 (by decide) (fun h30 => ?_) (fun h30 => ?_)
    · exact hx _ _ ht hat (by rw [hat, show t = n by omega])
    · refine q_iload_n (j := 2) hA rfl dX10_duel_33 ?_
      refine q_iconst hA dX10_duel_34 ?_
      refine q_imul hA dX10_duel_35 ?_
      refine q_istore_n (j := 2) (lo2 := [vR 283, vI n, vI (a * 3), vI t, vN, vN, vN, vN, vN]) hA dX10_duel_36 (by decide) rfl rfl ?_
      refine q_iinc (j := 3) (lo2 := [vR 283, vI n, vI (a * 3), vI (t + 1), vN, vN, vN, vN, vN]) hA dX10_duel_37 rfl (by decide) rfl rfl ?_
      refine q_goto (tgt := 28) hA dX10_duel_40 (by decide) ?_
      exact ih _ _ (by omega) (by rw [show (t + 1).toNat = t.toNat + 1 by omega, p3, hat, Int.mul_comm]) (by omega)
set_option maxHeartbeats 4000000 in
set_option maxRecDepth 100000 in
theorem zX10_duel_L49 {g : Gm} {l : Launch} {D : Dat} (ho : mOk D 284) (hg0 : 0 < D 284 0 → gdR (rowM D 284 0)) {n : Int} (rn : -2147483648 ≤ n ∧ n ≤ 2147483647) {a : Int} (hb : (0 ≤ n ∧ n ≤ 6) ∧ 0 < D 284 0) (hA1 : a = p3 n.toNat) {J : JT} (hA : AX g l RX10 cX10_duel 9 7 J) (hR : ReI cX10_duel (fun v D1 => (¬ (0 ≤ n ∧ n ≤ 6) ∧ v = -1 ∧ D1 = D) ∨ ((0 ≤ n ∧ n ≤ 6) ∧ ¬ 0 < D 284 0 ∧ v = -2 ∧ D1 = D) ∨ ((0 ≤ n ∧ n ≤ 6) ∧ 0 < D 284 0 ∧ v = 100 + gainR n.toNat (rowM D 284 0) ∧ bkF D D1)) J) (hx : ∀ (x : Int) (E : Dat), (0 ≤ x ∧ x ≤ a) → (∀ y : Int, 0 ≤ y → y < x → E 294 y = (fun y => cTo n.toNat 0 (p3 n.toNat) y (rowM D 284 0) 0) y) → (rowM E 284 0 = (rowM D 284 0)) → (asF D E) → (x = a ∧ bkF D E) → J 77 [vR 283, vI n, vI a, vI x, vN, vN, vN, vN, vN] [] E) : ∀ (fuel : Nat) (x : Int) (E : Dat), (0 ≤ x ∧ x ≤ a) → (∀ y : Int, 0 ≤ y → y < x → E 294 y = (fun y => cTo n.toNat 0 (p3 n.toNat) y (rowM D 284 0) 0) y) → (rowM E 284 0 = (rowM D 284 0)) → (asF D E) → 1000 - x < (fuel : Int) → J 49 [vR 283, vI n, vI a, vI x, vN, vN, vN, vN, vN] [] E := by
  intro fuel
  induction fuel with
  | zero => intro x E hxi hends hE haE hMs; exact absurd hMs (by have := p3_tab n.toNat (by omega); omega)
  | succ fuel ih =>
    intro x E hxi hends hE haE hMs
    have hgd := hg0 hb.2
    have hp3 := p3_tab n.toNat (by omega)
    have hp3b := p3_pos n.toNat
    refine q_iload_n (j := 3) hA rfl dX10_duel_49 ?_
    refine q_iload_n (j := 2) hA rfl dX10_duel_50 ?_
    refine q_icmp_ge (tgt := 77) hA (by omega) (by omega) dX10_duel_51 (by decide) (fun h51 => ?_) (fun h51 => ?_)
    · exact hx _ _ hxi hends hE haE ⟨by omega, hE, haE.1, haE.2.1⟩
    · refine q_aload_n (j := 0) hA rfl dX10_duel_54 ?_
      refine q_getR hA f_X10_41 dX10_duel_55 sx_283 (by decide) fx_283_14 ?_
      refine q_iload_n (j := 3) hA rfl dX10_duel_58 ?_
      refine q_aload_n (j := 0) hA rfl dX10_duel_59 ?_
      refine q_iload_n (j := 3) hA rfl dX10_duel_60 ?_
      refine q_iload_n (j := 2) hA rfl dX10_duel_61 ?_
      refine q_iload_n (j := 1) hA rfl dX10_duel_62 ?_
      refine q_callVI (b := 283) (As := [vI x, vI a, vI n]) (st := [vI x, vR 294]) hA l_X10_219 kX10_comesTo (zX10_comesTo (gd_c hgd hE) (by omega) hA1 (by omega)) dX10_duel_63 rfl rfl sx_283 (by decide) rfl (Nat.le_of_ble_eq_true rfl) (by omega) (fun v D63 q63 => ?_)
      rw [hE] at q63
      refine q_iast hA dX10_duel_66 sx_294 (by omega) (by decide) ?_
      refine q_nmD (fun G eG => ?_)
      refine q_aload_n (j := 0) hA rfl dX10_duel_67 ?_
      refine q_callVV (b := 283) (As := []) (st := []) hA l_X10_207 kX10_backs (zX10_backs) dX10_duel_68 rfl rfl sx_283 (by decide) rfl (Nat.le_of_ble_eq_true rfl) (by omega) (fun D68 q68 => ?_)
      refine q_iinc (j := 3) (lo2 := [vR 283, vI n, vI a, vI (x + 1), vN, vN, vN, vN, vN]) hA dX10_duel_71 rfl (by decide) rfl rfl ?_
      refine q_goto (tgt := 49) hA dX10_duel_74 (by decide) ?_
      exact ih _ _ (by omega) (by intro y y0 y1; rw [q68.2.2 294 (by omega), eG]; by_cases q : y = x; (rw [q, upD_s, q63.1, hA1]); (rw [upD_n (Or.inr q), q63.2 294 (by omega)]; exact hends y y0 (by omega))) (by have hb2 := (((haE.mv q63.2).en (i := x) (v := v)).bk (eG ▸ q68)); exact hb2.2.1) (by have hb2 := (((haE.mv q63.2).en (i := x) (v := v)).bk (eG ▸ q68)); exact hb2.1) (by omega)
set_option maxHeartbeats 4000000 in
set_option maxRecDepth 100000 in
theorem zX10_duel_L116 {g : Gm} {l : Launch} {D : Dat} (ho : mOk D 284) (hg0 : 0 < D 284 0 → gdR (rowM D 284 0)) {n : Int} (rn : -2147483648 ≤ n ∧ n ≤ 2147483647) {a s2 t x : Int} {E : Dat} (hgd : gdR (rowM D 284 0)) (hb : 0 ≤ n ∧ n ≤ 6) (ht : 0 ≤ t ∧ t < n) (hx : 0 ≤ x ∧ x < s2 ∧ 3 * s2 ≤ 729) (hG2 : ∀ y : Int, x ≤ y → y < 3 * s2 → E 294 y = FLv (fun y => cTo n.toNat 0 (p3 n.toNat) y (rowM D 284 0) 0) (n - 1 - t).toNat (t + 1) y) {J : JT} (hA : AX g l RX10 cX10_duel 9 7 J) (hR : ReI cX10_duel (fun v D1 => (¬ (0 ≤ n ∧ n ≤ 6) ∧ v = -1 ∧ D1 = D) ∨ ((0 ≤ n ∧ n ≤ 6) ∧ ¬ 0 < D 284 0 ∧ v = -2 ∧ D1 = D) ∨ ((0 ≤ n ∧ n ≤ 6) ∧ 0 < D 284 0 ∧ v = 100 + gainR n.toNat (rowM D 284 0) ∧ bkF D D1)) J) (hx : ∀ (ow : Int) (m : Int), ((m = 1 ∧ ow = E 294 (3 * x)) ∨ (m = 2 ∧ ow = opt2 t (E 294 (3 * x + 1)) (E 294 (3 * x))) ∨ (m = 3 ∧ ow = opt2 t (E 294 (3 * x + 2)) (opt2 t (E 294 (3 * x + 1)) (E 294 (3 * x))))) → (ow = opt2 t (E 294 (3 * x + 2)) (opt2 t (E 294 (3 * x + 1)) (E 294 (3 * x)))) → J 182 [vR 283, vI n, vI a, vI s2, vI t, vI x, vI ow, vI m, vN] [] E) : ∀ (fuel : Nat) (ow : Int) (m : Int), ((m = 1 ∧ ow = E 294 (3 * x)) ∨ (m = 2 ∧ ow = opt2 t (E 294 (3 * x + 1)) (E 294 (3 * x))) ∨ (m = 3 ∧ ow = opt2 t (E 294 (3 * x + 2)) (opt2 t (E 294 (3 * x + 1)) (E 294 (3 * x))))) → 3 - m < (fuel : Int) → J 116 [vR 283, vI n, vI a, vI s2, vI t, vI x, vI ow, vI m, vN] [] E := by
  intro fuel
  induction fuel with
  | zero => intro ow m hm hMs; exact absurd hMs (by omega)
  | succ fuel ih =>
    intro ow m hm hMs
    have hlin := fun (d : Nat) (t x : Int) => FLv_in (f := (fun y => cTo n.toNat 0 (p3 n.toNat) y (rowM D 284 0) 0)) (A := -1000054) (B := 1000054) (fun x => by have := cTo_in n.toNat (t := 0) (u := p3 n.toNat) (x := x) (s := 0) (B := 0) hgd.1 (by omega) (by omega); constructor <;> omega) d t x
    have r0 := hlin (n - 1 - t).toNat (t + 1) (3 * x)
    have r1 := hlin (n - 1 - t).toNat (t + 1) (3 * x + 1)
    have r2 := hlin (n - 1 - t).toNat (t + 1) (3 * x + 2)
    rw [← hG2 _ (by omega) (by omega)] at r0 r1 r2
    have how : -1000054 ≤ ow ∧ ow ≤ 1000054 := by rcases hm with q | q | q; (rw [q.2]; exact r0); (rw [q.2]; exact opt2_in r1 r0); (rw [q.2]; exact opt2_in r2 (opt2_in r1 r0))
    refine q_iload (j := 7) hA rfl dX10_duel_116 ?_
    refine q_iconst hA dX10_duel_118 ?_
    refine q_icmp_ge (tgt := 182) hA (by omega) (by omega) dX10_duel_119 (by decide) (fun h119 => ?_) (fun h119 => ?_)
    · exact hx _ _ hm (by rcases hm with q | q | q; omega; omega; exact q.2)
    · refine q_aload_n (j := 0) hA rfl dX10_duel_122 ?_
      refine q_getR hA f_X10_41 dX10_duel_123 sx_283 (by decide) fx_283_14 ?_
      refine q_iconst hA dX10_duel_126 ?_
      refine q_iload (j := 5) hA rfl dX10_duel_127 ?_
      refine q_imul hA dX10_duel_129 ?_
      refine q_iload (j := 7) hA rfl dX10_duel_130 ?_
      refine q_iadd hA dX10_duel_132 ?_
      refine q_iald (x := E 294 ((3 * x) + m)) hA dX10_duel_133 sx_294 (by omega) (by decide) rfl ?_
      refine q_nmI (fun vv evv => ?_)
      refine q_istore (j := 8) (lo2 := [vR 283, vI n, vI a, vI s2, vI t, vI x, vI ow, vI m, vI vv]) hA dX10_duel_134 (by decide) rfl rfl ?_
      have hvv : -1000054 ≤ vv ∧ vv ≤ 1000054 := by rw [evv, hG2 _ (by omega) (by omega)]; exact hlin _ _ _
      refine q_iload (j := 4) hA rfl dX10_duel_136 ?_
      refine q_iconst hA dX10_duel_138 ?_
      refine q_irem hA (by omega) (by omega) dX10_duel_139 ?_
      refine q_if_ne (tgt := 160) hA (by omega) dX10_duel_140 (by decide) (fun h140 => ?_) (fun h140 => ?_)
      · refine q_iload (j := 8) hA rfl dX10_duel_160 ?_
        refine q_iload (j := 6) hA rfl dX10_duel_162 ?_
        refine q_icmp_ge (tgt := 172) hA (by omega) (by omega) dX10_duel_164 (by decide) (fun h164 => ?_) (fun h164 => ?_)
        · refine q_iload (j := 6) hA rfl dX10_duel_172 ?_
          refine q_nmI (fun o2 eo2 => ?_)
          refine q_istore (j := 6) (lo2 := [vR 283, vI n, vI a, vI s2, vI t, vI x, vI o2, vI m, vI vv]) hA dX10_duel_174 (by decide) rfl rfl ?_
          have ho2 : o2 = opt2 t vv ow := by unfold opt2; rw [eo2]; first | (rw [if_pos (by omega), if_pos (by omega)]; done) | (rw [if_pos (by omega), if_neg (by omega)]; done) | (rw [if_neg (by omega), if_pos (by omega)]; done) | (rw [if_neg (by omega), if_neg (by omega)]; done)
          refine q_iinc (j := 7) (lo2 := [vR 283, vI n, vI a, vI s2, vI t, vI x, vI o2, vI (m + 1), vI vv]) hA dX10_duel_176 rfl (by decide) rfl rfl ?_
          refine q_goto (tgt := 116) hA dX10_duel_179 (by decide) ?_
          refine q_fgt (lo2 := [vR 283, vI n, vI a, vI s2, vI t, vI x, vI o2, vI (m + 1), vN]) hA ⟨Or.inr rfl, Or.inr rfl, Or.inr rfl, Or.inr rfl, Or.inr rfl, Or.inr rfl, Or.inr rfl, Or.inr rfl, Or.inl rfl, trivial⟩ ?_
          exact ih _ _ (by rcases hm with q | q | q; (right; left; exact ⟨by omega, by rw [ho2, evv, q.1, q.2]⟩); (right; right; exact ⟨by omega, by rw [ho2, evv, q.1, q.2]⟩); omega) (by omega)
        · refine q_iload (j := 8) hA rfl dX10_duel_167 ?_
          refine q_goto (tgt := 174) hA dX10_duel_169 (by decide) ?_
          refine q_nmI (fun o2 eo2 => ?_)
          refine q_istore (j := 6) (lo2 := [vR 283, vI n, vI a, vI s2, vI t, vI x, vI o2, vI m, vI vv]) hA dX10_duel_174 (by decide) rfl rfl ?_
          have ho2 : o2 = opt2 t vv ow := by unfold opt2; rw [eo2]; first | (rw [if_pos (by omega), if_pos (by omega)]; done) | (rw [if_pos (by omega), if_neg (by omega)]; done) | (rw [if_neg (by omega), if_pos (by omega)]; done) | (rw [if_neg (by omega), if_neg (by omega)]; done)
          refine q_iinc (j := 7) (lo2 := [vR 283, vI n, vI a, vI s2, vI t, vI x, vI o2, vI (m + 1), vI vv]) hA dX10_duel_176 rfl (by decide) rfl rfl ?_
          refine q_goto (tgt := 116) hA dX10_duel_179 (by decide) ?_
          refine q_fgt (lo2 := [vR 283, vI n, vI a, vI s2, vI t, vI x, vI o2, vI (m + 1), vN]) hA ⟨Or.inr rfl, Or.inr rfl, Or.inr rfl, Or.inr rfl, Or.inr rfl, Or.inr rfl, Or.inr rfl, Or.inr rfl, Or.inl rfl, trivial⟩ ?_
          exact ih _ _ (by rcases hm with q | q | q; (right; left; exact ⟨by omega, by rw [ho2, evv, q.1, q.2]⟩); (right; right; exact ⟨by omega, by rw [ho2, evv, q.1, q.2]⟩); omega) (by omega)
      · refine q_iload (j := 8) hA rfl dX10_duel_143 ?_
        refine q_iload (j := 6) hA rfl dX10_duel_145 ?_
        refine q_icmp_le (tgt := 155) hA (by omega) (by omega) dX10_duel_147 (by decide) (fun h147 => ?_) (fun h147 => ?_)
        · refine q_iload (j := 6) hA rfl dX10_duel_155 ?_
          refine q_goto (tgt := 174) hA dX10_duel_157 (by decide) ?_
          refine q_nmI (fun o2 eo2 => ?_)
          refine q_istore (j := 6) (lo2 := [vR 283, vI n, vI a, vI s2, vI t, vI x, vI o2, vI m, vI vv]) hA dX10_duel_174 (by decide) rfl rfl ?_
          have ho2 : o2 = opt2 t vv ow := by unfold opt2; rw [eo2]; first | (rw [if_pos (by omega), if_pos (by omega)]; done) | (rw [if_pos (by omega), if_neg (by omega)]; done) | (rw [if_neg (by omega), if_pos (by omega)]; done) | (rw [if_neg (by omega), if_neg (by omega)]; done)
          refine q_iinc (j := 7) (lo2 := [vR 283, vI n, vI a, vI s2, vI t, vI x, vI o2, vI (m + 1), vI vv]) hA dX10_duel_176 rfl (by decide) rfl rfl ?_
          refine q_goto (tgt := 116) hA dX10_duel_179 (by decide) ?_
          refine q_fgt (lo2 := [vR 283, vI n, vI a, vI s2, vI t, vI x, vI o2, vI (m + 1), vN]) hA ⟨Or.inr rfl, Or.inr rfl, Or.inr rfl, Or.inr rfl, Or.inr rfl, Or.inr rfl, Or.inr rfl, Or.inr rfl, Or.inl rfl, trivial⟩ ?_
          exact ih _ _ (by rcases hm with q | q | q; (right; left; exact ⟨by omega, by rw [ho2, evv, q.1, q.2]⟩); (right; right; exact ⟨by omega, by rw [ho2, evv, q.1, q.2]⟩); omega) (by omega)
        · refine q_iload (j := 8) hA rfl dX10_duel_150 ?_
          refine q_goto (tgt := 174) hA dX10_duel_152 (by decide) ?_
          refine q_nmI (fun o2 eo2 => ?_)
          refine q_istore (j := 6) (lo2 := [vR 283, vI n, vI a, vI s2, vI t, vI x, vI o2, vI m, vI vv]) hA dX10_duel_174 (by decide) rfl rfl ?_
          have ho2 : o2 = opt2 t vv ow := by unfold opt2; rw [eo2]; first | (rw [if_pos (by omega), if_pos (by omega)]; done) | (rw [if_pos (by omega), if_neg (by omega)]; done) | (rw [if_neg (by omega), if_pos (by omega)]; done) | (rw [if_neg (by omega), if_neg (by omega)]; done)
          refine q_iinc (j := 7) (lo2 := [vR 283, vI n, vI a, vI s2, vI t, vI x, vI o2, vI (m + 1), vI vv]) hA dX10_duel_176 rfl (by decide) rfl rfl ?_
          refine q_goto (tgt := 116) hA dX10_duel_179 (by decide) ?_
          refine q_fgt (lo2 := [vR 283, vI n, vI a, vI s2, vI t, vI x, vI o2, vI (m + 1), vN]) hA ⟨Or.inr rfl, Or.inr rfl, Or.inr rfl, Or.inr rfl, Or.inr rfl, Or.inr rfl, Or.inr rfl, Or.inr rfl, Or.inl rfl, trivial⟩ ?_
          exact ih _ _ (by rcases hm with q | q | q; (right; left; exact ⟨by omega, by rw [ho2, evv, q.1, q.2]⟩); (right; right; exact ⟨by omega, by rw [ho2, evv, q.1, q.2]⟩); omega) (by omega)
set_option maxHeartbeats 4000000 in
set_option maxRecDepth 100000 in
theorem zX10_duel_L96 {g : Gm} {l : Launch} {D : Dat} (ho : mOk D 284) (hg0 : 0 < D 284 0 → gdR (rowM D 284 0)) {n : Int} (rn : -2147483648 ≤ n ∧ n ≤ 2147483647) {a s2 t : Int} (hb : (0 ≤ n ∧ n ≤ 6) ∧ 0 < D 284 0) (ht : 0 ≤ t ∧ t < n) (hs2 : s2 = p3 t.toNat) {J : JT} (hA : AX g l RX10 cX10_duel 9 7 J) (hR : ReI cX10_duel (fun v D1 => (¬ (0 ≤ n ∧ n ≤ 6) ∧ v = -1 ∧ D1 = D) ∨ ((0 ≤ n ∧ n ≤ 6) ∧ ¬ 0 < D 284 0 ∧ v = -2 ∧ D1 = D) ∨ ((0 ≤ n ∧ n ≤ 6) ∧ 0 < D 284 0 ∧ v = 100 + gainR n.toNat (rowM D 284 0) ∧ bkF D D1)) J) (hx : ∀ (x : Int) (E : Dat), (0 ≤ x ∧ x ≤ s2) → (∀ y : Int, 0 ≤ y → y < x → E 294 y = FLv (fun y => cTo n.toNat 0 (p3 n.toNat) y (rowM D 284 0) 0) (n - t).toNat t y) → (∀ y : Int, x ≤ y → y < 3 * s2 → E 294 y = FLv (fun y => cTo n.toNat 0 (p3 n.toNat) y (rowM D 284 0) 0) (n - 1 - t).toNat (t + 1) y) → (bkF D E) → (x = s2) → J 197 [vR 283, vI n, vI a, vI s2, vI t, vI x, vN, vN, vN] [] E) : ∀ (fuel : Nat) (x : Int) (E : Dat), (0 ≤ x ∧ x ≤ s2) → (∀ y : Int, 0 ≤ y → y < x → E 294 y = FLv (fun y => cTo n.toNat 0 (p3 n.toNat) y (rowM D 284 0) 0) (n - t).toNat t y) → (∀ y : Int, x ≤ y → y < 3 * s2 → E 294 y = FLv (fun y => cTo n.toNat 0 (p3 n.toNat) y (rowM D 284 0) 0) (n - 1 - t).toNat (t + 1) y) → (bkF D E) → s2 - x < (fuel : Int) → J 96 [vR 283, vI n, vI a, vI s2, vI t, vI x, vN, vN, vN] [] E := by
  intro fuel
  induction fuel with
  | zero => intro x E hxi hG1 hG2 hbE hMs; exact absurd hMs (by omega)
  | succ fuel ih =>
    intro x E hxi hG1 hG2 hbE hMs
    have hgd := hg0 hb.2
    have hp3 := p3_tab (t + 1).toNat (by omega)
    have hp3c : p3 (t + 1).toNat = 3 * s2 := by rw [show (t + 1).toNat = t.toNat + 1 by omega, p3, hs2]
    have hlin := fun (d : Nat) (t x : Int) => FLv_in (f := (fun y => cTo n.toNat 0 (p3 n.toNat) y (rowM D 284 0) 0)) (A := -1000054) (B := 1000054) (fun x => by have := cTo_in n.toNat (t := 0) (u := p3 n.toNat) (x := x) (s := 0) (B := 0) hgd.1 (by omega) (by omega); constructor <;> omega) d t x
    refine q_iload (j := 5) hA rfl dX10_duel_96 ?_
    refine q_iload_n (j := 3) hA rfl dX10_duel_98 ?_
    refine q_icmp_ge (tgt := 197) hA (by omega) (by omega) dX10_duel_99 (by decide) (fun h99 => ?_) (fun h99 => ?_)
    · exact hx _ _ hxi hG1 hG2 hbE (by omega)
    · have hx3 : 0 ≤ 3 * x ∧ 3 * x + 2 < 729 := by omega
      refine q_aload_n (j := 0) hA rfl dX10_duel_102 ?_
      refine q_getR hA f_X10_41 dX10_duel_103 sx_283 (by decide) fx_283_14 ?_
      refine q_iconst hA dX10_duel_106 ?_
      refine q_iload (j := 5) hA rfl dX10_duel_107 ?_
      refine q_imul hA dX10_duel_109 ?_
      refine q_iald (x := E 294 (3 * x)) hA dX10_duel_110 sx_294 (by omega) (by decide) rfl ?_
      refine q_nmI (fun o1 eo1 => ?_)
      refine q_istore (j := 6) (lo2 := [vR 283, vI n, vI a, vI s2, vI t, vI x, vI o1, vN, vN]) hA dX10_duel_111 (by decide) rfl rfl ?_
      refine q_iconst hA dX10_duel_113 ?_
      refine q_istore (j := 7) (lo2 := [vR 283, vI n, vI a, vI s2, vI t, vI x, vI o1, vI 1, vN]) hA dX10_duel_114 (by decide) rfl rfl ?_
      refine zX10_duel_L116 (D := D) (n := n) ho hg0 rn hgd hb.1 ht (by omega) hG2 hA hR (fun ow m hm hxo => ?_) 1000 _ _ (by left; exact ⟨rfl, eo1⟩) (by omega)
      refine q_aload_n (j := 0) hA rfl dX10_duel_182 ?_
      refine q_getR hA f_X10_41 dX10_duel_183 sx_283 (by decide) fx_283_14 ?_
      refine q_iload (j := 5) hA rfl dX10_duel_186 ?_
      refine q_iload (j := 6) hA rfl dX10_duel_188 ?_
      refine q_iast hA dX10_duel_190 sx_294 (by omega) (by decide) ?_
      have hx3o : ow = opt2 t (FLv (fun y => cTo n.toNat 0 (p3 n.toNat) y (rowM D 284 0) 0) (n - 1 - t).toNat (t + 1) (3 * x + 2)) (opt2 t (FLv (fun y => cTo n.toNat 0 (p3 n.toNat) y (rowM D 284 0) 0) (n - 1 - t).toNat (t + 1) (3 * x + 1)) (FLv (fun y => cTo n.toNat 0 (p3 n.toNat) y (rowM D 284 0) 0) (n - 1 - t).toNat (t + 1) (3 * x))) := by rw [hxo, hG2 _ (by omega) (by omega), hG2 _ (by omega) (by omega), hG2 _ (by omega) (by omega)]
      refine q_iinc (j := 5) (lo2 := [vR 283, vI n, vI a, vI s2, vI t, vI (x + 1), vI ow, vI m, vN]) hA dX10_duel_191 rfl (by decide) rfl rfl ?_
      refine q_goto (tgt := 96) hA dX10_duel_194 (by decide) ?_
      refine q_fgt (lo2 := [vR 283, vI n, vI a, vI s2, vI t, vI (x + 1), vN, vN, vN]) hA ⟨Or.inr rfl, Or.inr rfl, Or.inr rfl, Or.inr rfl, Or.inr rfl, Or.inr rfl, Or.inl rfl, Or.inl rfl, Or.inr rfl, trivial⟩ ?_
      exact ih _ _ (by omega) (by intro y y0 y1; by_cases q : y = x; (rw [q, upD_s, hx3o, show (n - t).toNat = (n - 1 - t).toNat + 1 by omega, FLv]); (rw [upD_n (Or.inr q)]; exact hG1 y y0 (by omega))) (by intro y y0 y1; rw [upD_n (Or.inr (by omega))]; exact hG2 y (by omega) y1) (by exact ⟨by rw [rowM_up_o (Or.inl (by omega))]; exact hbE.1, fun c c1 c2 c3 c4 => (upD_other c4).trans (hbE.2.1 c c1 c2 c3 c4), fun j hj => (upD_n (Or.inl (by omega))).trans (hbE.2.2 j hj)⟩) (by omega)
set_option maxHeartbeats 4000000 in
set_option maxRecDepth 100000 in
theorem zX10_duel_L84 {g : Gm} {l : Launch} {D : Dat} (ho : mOk D 284) (hg0 : 0 < D 284 0 → gdR (rowM D 284 0)) {n : Int} (rn : -2147483648 ≤ n ∧ n ≤ 2147483647) {a : Int} (hb : (0 ≤ n ∧ n ≤ 6) ∧ 0 < D 284 0) {J : JT} (hA : AX g l RX10 cX10_duel 9 7 J) (hR : ReI cX10_duel (fun v D1 => (¬ (0 ≤ n ∧ n ≤ 6) ∧ v = -1 ∧ D1 = D) ∨ ((0 ≤ n ∧ n ≤ 6) ∧ ¬ 0 < D 284 0 ∧ v = -2 ∧ D1 = D) ∨ ((0 ≤ n ∧ n ≤ 6) ∧ 0 < D 284 0 ∧ v = 100 + gainR n.toNat (rowM D 284 0) ∧ bkF D D1)) J) : ∀ (fuel : Nat) (z : Int) (t : Int) (E : Dat), (-1 ≤ t ∧ t < n) → (z = p3 (t + 1).toNat) → (∀ y : Int, 0 ≤ y → y < z → E 294 y = FLv (fun y => cTo n.toNat 0 (p3 n.toNat) y (rowM D 284 0) 0) (n - 1 - t).toNat (t + 1) y) → (bkF D E) → t + 1 < (fuel : Int) → J 84 [vR 283, vI n, vI a, vI z, vI t, vN, vN, vN, vN] [] E := by
  intro fuel
  induction fuel with
  | zero => intro z t E ht hz hends hbE hMs; exact absurd hMs (by omega)
  | succ fuel ih =>
    intro z t E ht hz hends hbE hMs
    have hgd := hg0 hb.2
    have hp3 := p3_tab (t + 1).toNat (by omega)
    have hp3b := p3_pos (t + 1).toNat
    have hlin := fun (d : Nat) (t x : Int) => FLv_in (f := (fun y => cTo n.toNat 0 (p3 n.toNat) y (rowM D 284 0) 0)) (A := -1000054) (B := 1000054) (fun x => by have := cTo_in n.toNat (t := 0) (u := p3 n.toNat) (x := x) (s := 0) (B := 0) hgd.1 (by omega) (by omega); constructor <;> omega) d t x
    refine q_iload (j := 4) hA rfl dX10_duel_84 ?_
    refine q_if_lt (tgt := 203) hA (by omega) dX10_duel_86 (by decide) (fun h86 => ?_) (fun h86 => ?_)
    · refine q_bipush hA (by decide) dX10_duel_203 ?_
      refine q_aload_n (j := 0) hA rfl dX10_duel_205 ?_
      refine q_getR hA f_X10_41 dX10_duel_206 sx_283 (by decide) fx_283_14 ?_
      refine q_iconst hA dX10_duel_209 ?_
      refine q_iald (x := E 294 0) hA dX10_duel_210 sx_294 (by omega) (by decide) rfl ?_
      refine q_iadd hA dX10_duel_211 ?_
      exact hR 212 _ _ _ dX10_duel_212 (Or.inr (Or.inr ⟨hb.1, hb.2, by rw [hends 0 (by omega) (by omega), show n - 1 - t = n by omega, show t + 1 = 0 by omega, FLv_g n.toNat 0 0 0 (rowM D 284 0) (by omega) (by omega) (by omega) hgd.1 (by omega) (fun y _ _ => rfl), Int.zero_add]; rfl, hbE⟩))
    · refine q_iload_n (j := 3) hA rfl dX10_duel_89 ?_
      refine q_iconst hA dX10_duel_90 ?_
      refine q_idiv hA (by omega) (by omega) dX10_duel_91 ?_
      refine q_nmI (fun s2 es2 => ?_)
      refine q_istore_n (j := 3) (lo2 := [vR 283, vI n, vI a, vI s2, vI t, vN, vN, vN, vN]) hA dX10_duel_92 (by decide) rfl rfl ?_
      have hs2 : s2 = p3 t.toNat := by rw [es2, hz, show (t + 1).toNat = t.toNat + 1 by omega, p3_div]
      refine q_iconst hA dX10_duel_93 ?_
      refine q_istore (j := 5) (lo2 := [vR 283, vI n, vI a, vI s2, vI t, vI 0, vN, vN, vN]) hA dX10_duel_94 (by decide) rfl rfl ?_
      refine zX10_duel_L96 (D := D) (n := n) ho hg0 rn hb (by omega) hs2 hA hR (fun x E hxi hG1 hG2 hbE hxs => ?_) 1000 _ _ (by have := p3_pos t.toNat; omega) (by intro y y0 y1; omega) (by intro y y0 y1; exact hends y y0 (by rw [hz, show (t + 1).toNat = t.toNat + 1 by omega, p3, ← hs2]; exact y1)) (by exact hbE) (by (have := p3_tab t.toNat (by omega); omega))
      refine q_iinc (j := 4) (lo2 := [vR 283, vI n, vI a, vI s2, vI (t + (-1)), vI x, vN, vN, vN]) hA dX10_duel_197 rfl (by decide) rfl rfl ?_
      refine q_goto (tgt := 84) hA dX10_duel_200 (by decide) ?_
      refine q_fgt (lo2 := [vR 283, vI n, vI a, vI s2, vI (t + (-1)), vN, vN, vN, vN]) hA ⟨Or.inr rfl, Or.inr rfl, Or.inr rfl, Or.inr rfl, Or.inr rfl, Or.inl rfl, Or.inr rfl, Or.inr rfl, Or.inr rfl, trivial⟩ ?_
      exact ih _ _ _ (by omega) (by rw [show t + -1 + 1 = t by omega]; exact hs2) (by intro y y0 y1; rw [show n - 1 - (t + -1) = n - t by omega, show t + -1 + 1 = t by omega]; exact hG1 y y0 (by omega)) (by exact hbE) (by omega)
set_option maxHeartbeats 4000000 in
set_option maxRecDepth 100000 in
theorem zX10_duel {g : Gm} {l : Launch} {D : Dat} (ho : mOk D 284) (hg0 : 0 < D 284 0 → gdR (rowM D 284 0)) {n : Int} (rn : -2147483648 ≤ n ∧ n ≤ 2147483647) : CrI g l 7 mX10_duel [vR 283, vI n] D (fun v D1 => (¬ (0 ≤ n ∧ n ≤ 6) ∧ v = -1 ∧ D1 = D) ∨ ((0 ≤ n ∧ n ≤ 6) ∧ ¬ 0 < D 284 0 ∧ v = -2 ∧ D1 = D) ∨ ((0 ≤ n ∧ n ≤ 6) ∧ 0 < D 284 0 ∧ v = 100 + gainR n.toNat (rowM D 284 0) ∧ bkF D D1)) := by
  refine Cr.ofI (lo0 := [vR 283, vI n, vN, vN, vN, vN, vN, vN, vN]) (by decide) (Nat.le_of_ble_eq_true rfl) rfl (fun J hA hR => ?_)
  have hn := ho.n
  have hf := ho.f
  have hb := ho.b
  refine q_iload_n (j := 1) hA rfl dX10_duel_0 ?_
  refine q_i2l hA (by omega) dX10_duel_1 ?_
  refine q_lconst hA dX10_duel_2 ?_
  show J _ _ (vL 0 :: _) _
  refine q_ldc2 hA c_X10_197 dX10_duel_3 ?_
  refine q_callSB (As := [vL n, vL 0, vL 6]) (st := []) hA l_X10_77 kX10_in (zX10_in (by first | assumption | omega | rfl) (by first | assumption | omega | rfl) (by first | assumption | omega | rfl)) dX10_duel_6 rfl rfl (Nat.le_of_ble_eq_true rfl) (by omega) (fun h6 => ?_) (fun h6 => ?_)
  · refine q_if_ne (tgt := 14) hA (by decide) dX10_duel_9 (by decide) (fun h9 => ?_) (fun h9 => absurd h9 (by decide))
    refine q_aload_n (j := 0) hA rfl dX10_duel_14 ?_
    refine q_callVB (b := 283) (As := []) (st := []) hA l_X10_159 kX10_isThere (zX10_isThere (by first | assumption | omega | rfl)) dX10_duel_15 rfl rfl sx_283 (by decide) rfl (Nat.le_of_ble_eq_true rfl) (by omega) (fun h15 => ?_) (fun h15 => ?_)
    · refine q_if_ne (tgt := 24) hA (by decide) dX10_duel_18 (by decide) (fun h18 => ?_) (fun h18 => absurd h18 (by decide))
      refine q_iconst hA dX10_duel_24 ?_
      refine q_istore_n (j := 2) (lo2 := [vR 283, vI n, vI 1, vN, vN, vN, vN, vN, vN]) hA dX10_duel_25 (by decide) rfl rfl ?_
      refine q_iconst hA dX10_duel_26 ?_
      refine q_istore_n (j := 3) (lo2 := [vR 283, vI n, vI 1, vI 0, vN, vN, vN, vN, vN]) hA dX10_duel_27 (by decide) rfl rfl ?_
      refine zX10_duel_L28 (D := D) (n := n) ho hg0 rn h6 hA hR (fun a t ht hat hA0 => ?_) 1000 _ _ (by omega) (by rfl) (by omega)
      have hgd := hg0 h15
      refine q_aload_n (j := 0) hA rfl dX10_duel_43 ?_
      refine q_callVV (b := 283) (As := []) (st := []) hA l_X10_201 kX10_asides (zX10_asides) dX10_duel_44 rfl rfl sx_283 (by decide) rfl (Nat.le_of_ble_eq_true rfl) (by omega) (fun D44 q44 => ?_)
      refine q_iconst hA dX10_duel_47 ?_
      refine q_istore_n (j := 3) (lo2 := [vR 283, vI n, vI a, vI 0, vN, vN, vN, vN, vN]) hA dX10_duel_48 (by decide) rfl rfl ?_
      refine zX10_duel_L49 (D := D) (n := n) ho hg0 rn (by omega) hA0 hA hR (fun x E hxi hends hE haE hxa => ?_) 2000 _ _ (by have := p3_pos n.toNat; omega) (by intro y y0 y1; omega) (by rw [rowM_c (q44.2.2 284 (by omega))]) (by exact asF.of q44) (by omega)
      refine q_iload_n (j := 2) hA rfl dX10_duel_77 ?_
      refine q_istore_n (j := 3) (lo2 := [vR 283, vI n, vI a, vI a, vN, vN, vN, vN, vN]) hA dX10_duel_78 (by decide) rfl rfl ?_
      refine q_iload_n (j := 1) hA rfl dX10_duel_79 ?_
      refine q_iconst hA dX10_duel_80 ?_
      refine q_isub hA dX10_duel_81 ?_
      refine q_istore (j := 4) (lo2 := [vR 283, vI n, vI a, vI a, vI (n - 1), vN, vN, vN, vN]) hA dX10_duel_82 (by decide) rfl rfl ?_
      refine zX10_duel_L84 (D := D) (n := n) ho hg0 rn (by omega) hA hR 1000 _ _ _ (by omega) (by rw [hA0, show n - 1 + 1 = n by omega]) (by intro y y0 y1; rw [show n - 1 - (n - 1) = 0 by omega]; exact hends y y0 (by rw [hxa.1]; exact y1)) (by exact hxa.2) (by omega)
    · refine q_if_ne (tgt := 24) hA (by decide) dX10_duel_18 (by decide) (fun h18 => absurd h18 (by decide)) (fun h18 => ?_)
      refine q_bipush hA (by decide) dX10_duel_21 ?_
      exact hR 23 _ _ _ dX10_duel_23 (by exact Or.inr (Or.inl ⟨h6, h15, rfl, rfl⟩))
  · refine q_if_ne (tgt := 14) hA (by decide) dX10_duel_9 (by decide) (fun h9 => absurd h9 (by decide)) (fun h9 => ?_)
    refine q_iconst hA dX10_duel_12 ?_
    exact hR 13 _ _ _ dX10_duel_13 (by exact Or.inl ⟨h6, rfl, rfl⟩)
set_option maxHeartbeats 4000000 in
set_option maxRecDepth 100000 in
theorem zX10_tried_L39 {g : Gm} {l : Launch} {D : Dat} {t : Int} (ht : 0 ≤ t ∧ t ≤ 63) {b le sh mo a : Int} (hs : 0 ≤ sh ∧ sh ≤ 9) (ha : 1 ≤ a ∧ a ≤ 5) {J : JT} (hA : AX g l RX10 cX10_tried 10 2 J) (hR : ReI cX10_tried (fun v D1 => v = (tryK t) ∧ D1 = D) J) (hx : ∀ (al : Int) (c : Int), (1 ≤ c ∧ c ≤ 6) → (al = alkM t sh a (c - 1).toNat) → (al = alkM t sh a 5) → J 106 [vR 283, vI t, vI b, vI le, vI sh, vI mo, vI a, vI al, vI c, vN] [] D) : ∀ (fuel : Nat) (al : Int) (c : Int), (1 ≤ c ∧ c ≤ 6) → (al = alkM t sh a (c - 1).toNat) → 6 - c < (fuel : Int) → J 39 [vR 283, vI t, vI b, vI le, vI sh, vI mo, vI a, vI al, vI c, vN] [] D := by
  intro fuel
  induction fuel with
  | zero => intro al c hc hl hMs; exact absurd hMs (by omega)
  | succ fuel ih =>
    intro al c hc hl hMs
    have hli := alk_in t sh a (c - 1).toNat
    rw [← hl] at hli
    refine q_iload (j := 8) hA rfl dX10_tried_39 ?_
    refine q_bipush hA (by decide) dX10_tried_41 ?_
    refine q_icmp_ge (tgt := 106) hA (by omega) (by omega) dX10_tried_43 (by decide) (fun h43 => ?_) (fun h43 => ?_)
    · exact hx _ _ hc hl (by rw [hl, show c - 1 = 5 by omega]; rfl)
    · refine q_iload_n (j := 1) hA rfl dX10_tried_46 ?_
      refine q_iload (j := 6) hA rfl dX10_tried_47 ?_
      refine q_ishr hA dX10_tried_49 ?_
      refine q_iload_n (j := 1) hA rfl dX10_tried_50 ?_
      refine q_iload (j := 8) hA rfl dX10_tried_51 ?_
      refine q_ishr hA dX10_tried_53 ?_
      refine q_iand hA dX10_tried_54 ?_
      refine q_iconst hA dX10_tried_55 ?_
      refine q_iand hA dX10_tried_56 ?_
      rw [show iAnd (iAnd (iShr t a) (iShr t c)) 1 = b01 (tb t a && tb t c) from and3 (by omega) (by omega) (by omega)]
      have hb3 := b01_in (tb t a && tb t c)
      refine q_iconst hA dX10_tried_57 ?_
      refine q_icmp_ne (tgt := 65) hA (by omega) (by omega) dX10_tried_58 (by decide) (fun h58 => ?_) (fun h58 => ?_)
      · refine q_iconst hA dX10_tried_65 ?_
        refine q_nmI (fun bo ebo => ?_)
        refine q_istore (j := 9) (lo2 := [vR 283, vI t, vI b, vI le, vI sh, vI mo, vI a, vI al, vI c, vI bo]) hA dX10_tried_66 (by decide) rfl rfl ?_
        have hbo : (bo = 1 ∧ (tb t a && tb t c) = true) ∨ (bo = 0 ∧ ¬ (tb t a && tb t c) = true) := by first | exact Or.inl ⟨ebo, b01_t.1 (by omega)⟩ | exact Or.inr ⟨ebo, fun z => by have := b01_t.2 z; omega⟩
        refine q_iload (j := 7) hA rfl dX10_tried_68 ?_
        refine q_iload (j := 9) hA rfl dX10_tried_70 ?_
        refine q_if_eq (tgt := 96) hA (by omega) dX10_tried_72 (by decide) (fun h72 => ?_) (fun h72 => ?_)
        · refine q_iconst hA dX10_tried_96 ?_
          refine q_iadd hA dX10_tried_97 ?_
          refine q_istore (j := 7) (lo2 := [vR 283, vI t, vI b, vI le, vI sh, vI mo, vI a, vI (al + 0), vI c, vI bo]) hA dX10_tried_98 (by decide) rfl rfl ?_
          refine q_iinc (j := 8) (lo2 := [vR 283, vI t, vI b, vI le, vI sh, vI mo, vI a, vI (al + 0), vI (c + 1), vI bo]) hA dX10_tried_100 rfl (by decide) rfl rfl ?_
          refine q_goto (tgt := 39) hA dX10_tried_103 (by decide) ?_
          refine q_fgt (lo2 := [vR 283, vI t, vI b, vI le, vI sh, vI mo, vI a, vI (al + 0), vI (c + 1), vN]) hA ⟨Or.inr rfl, Or.inr rfl, Or.inr rfl, Or.inr rfl, Or.inr rfl, Or.inr rfl, Or.inr rfl, Or.inr rfl, Or.inr rfl, Or.inl rfl, trivial⟩ ?_
          exact ih _ _ (by omega) (by rw [alk_step (by omega), ← hl]; first | rw [if_pos ⟨(by rcases hbo with q | q; exact q.2; omega), (by rw [← ev79, ← ev86]; exact h89)⟩] | rw [if_neg (fun z => by rw [← ev79, ← ev86] at z; exact h89 z.2)] | rw [if_neg (fun z => by rcases hbo with q | q; omega; exact q.2 z.1)]) (by omega)
        · refine q_iload (j := 6) hA rfl dX10_tried_75 ?_
          refine q_iload (j := 4) hA rfl dX10_tried_77 ?_
          refine q_callSP (As := [vI a, vI sh]) (st := [vI al]) hA l_X10_133 kX10_effortOf (zX10_effortOf (by first | assumption | omega | rfl) (by first | assumption | omega | rfl)) dX10_tried_79 rfl rfl (Nat.le_of_ble_eq_true rfl) (by omega) ?_
          refine q_nmI (fun v79 ev79 => ?_)
          refine q_iload (j := 8) hA rfl dX10_tried_82 ?_
          refine q_iload (j := 4) hA rfl dX10_tried_84 ?_
          refine q_callSP (As := [vI c, vI sh]) (st := [vI v79, vI al]) hA l_X10_133 kX10_effortOf (zX10_effortOf (by first | assumption | omega | rfl) (by first | assumption | omega | rfl)) dX10_tried_86 rfl rfl (Nat.le_of_ble_eq_true rfl) (by omega) ?_
          refine q_nmI (fun v86 ev86 => ?_)
          have he1 := effK_in (k := a) (s := sh) (by omega)
          have he2 := effK_in (k := c) (s := sh) (by omega)
          rw [← ev79] at he1
          rw [← ev86] at he2
          refine q_icmp_ne (tgt := 96) hA (by omega) (by omega) dX10_tried_89 (by decide) (fun h89 => ?_) (fun h89 => ?_)
          · refine q_iconst hA dX10_tried_96 ?_
            refine q_iadd hA dX10_tried_97 ?_
            refine q_istore (j := 7) (lo2 := [vR 283, vI t, vI b, vI le, vI sh, vI mo, vI a, vI (al + 0), vI c, vI bo]) hA dX10_tried_98 (by decide) rfl rfl ?_
            refine q_iinc (j := 8) (lo2 := [vR 283, vI t, vI b, vI le, vI sh, vI mo, vI a, vI (al + 0), vI (c + 1), vI bo]) hA dX10_tried_100 rfl (by decide) rfl rfl ?_
            refine q_goto (tgt := 39) hA dX10_tried_103 (by decide) ?_
            refine q_fgt (lo2 := [vR 283, vI t, vI b, vI le, vI sh, vI mo, vI a, vI (al + 0), vI (c + 1), vN]) hA ⟨Or.inr rfl, Or.inr rfl, Or.inr rfl, Or.inr rfl, Or.inr rfl, Or.inr rfl, Or.inr rfl, Or.inr rfl, Or.inr rfl, Or.inl rfl, trivial⟩ ?_
            exact ih _ _ (by omega) (by rw [alk_step (by omega), ← hl]; first | rw [if_pos ⟨(by rcases hbo with q | q; exact q.2; omega), (by rw [← ev79, ← ev86]; exact h89)⟩] | rw [if_neg (fun z => by rw [← ev79, ← ev86] at z; exact h89 z.2)] | rw [if_neg (fun z => by rcases hbo with q | q; omega; exact q.2 z.1)]) (by omega)
          · refine q_iconst hA dX10_tried_92 ?_
            refine q_goto (tgt := 97) hA dX10_tried_93 (by decide) ?_
            refine q_iadd hA dX10_tried_97 ?_
            refine q_istore (j := 7) (lo2 := [vR 283, vI t, vI b, vI le, vI sh, vI mo, vI a, vI (al + 1), vI c, vI bo]) hA dX10_tried_98 (by decide) rfl rfl ?_
            refine q_iinc (j := 8) (lo2 := [vR 283, vI t, vI b, vI le, vI sh, vI mo, vI a, vI (al + 1), vI (c + 1), vI bo]) hA dX10_tried_100 rfl (by decide) rfl rfl ?_
            refine q_goto (tgt := 39) hA dX10_tried_103 (by decide) ?_
            refine q_fgt (lo2 := [vR 283, vI t, vI b, vI le, vI sh, vI mo, vI a, vI (al + 1), vI (c + 1), vN]) hA ⟨Or.inr rfl, Or.inr rfl, Or.inr rfl, Or.inr rfl, Or.inr rfl, Or.inr rfl, Or.inr rfl, Or.inr rfl, Or.inr rfl, Or.inl rfl, trivial⟩ ?_
            exact ih _ _ (by omega) (by rw [alk_step (by omega), ← hl]; first | rw [if_pos ⟨(by rcases hbo with q | q; exact q.2; omega), (by rw [← ev79, ← ev86]; exact h89)⟩] | rw [if_neg (fun z => by rw [← ev79, ← ev86] at z; exact h89 z.2)] | rw [if_neg (fun z => by rcases hbo with q | q; omega; exact q.2 z.1)]) (by omega)
      · refine q_iconst hA dX10_tried_61 ?_
        refine q_goto (tgt := 66) hA dX10_tried_62 (by decide) ?_
        refine q_nmI (fun bo ebo => ?_)
        refine q_istore (j := 9) (lo2 := [vR 283, vI t, vI b, vI le, vI sh, vI mo, vI a, vI al, vI c, vI bo]) hA dX10_tried_66 (by decide) rfl rfl ?_
        have hbo : (bo = 1 ∧ (tb t a && tb t c) = true) ∨ (bo = 0 ∧ ¬ (tb t a && tb t c) = true) := by first | exact Or.inl ⟨ebo, b01_t.1 (by omega)⟩ | exact Or.inr ⟨ebo, fun z => by have := b01_t.2 z; omega⟩
        refine q_iload (j := 7) hA rfl dX10_tried_68 ?_
        refine q_iload (j := 9) hA rfl dX10_tried_70 ?_
        refine q_if_eq (tgt := 96) hA (by omega) dX10_tried_72 (by decide) (fun h72 => ?_) (fun h72 => ?_)
        · refine q_iconst hA dX10_tried_96 ?_
          refine q_iadd hA dX10_tried_97 ?_
          refine q_istore (j := 7) (lo2 := [vR 283, vI t, vI b, vI le, vI sh, vI mo, vI a, vI (al + 0), vI c, vI bo]) hA dX10_tried_98 (by decide) rfl rfl ?_
          refine q_iinc (j := 8) (lo2 := [vR 283, vI t, vI b, vI le, vI sh, vI mo, vI a, vI (al + 0), vI (c + 1), vI bo]) hA dX10_tried_100 rfl (by decide) rfl rfl ?_
          refine q_goto (tgt := 39) hA dX10_tried_103 (by decide) ?_
          refine q_fgt (lo2 := [vR 283, vI t, vI b, vI le, vI sh, vI mo, vI a, vI (al + 0), vI (c + 1), vN]) hA ⟨Or.inr rfl, Or.inr rfl, Or.inr rfl, Or.inr rfl, Or.inr rfl, Or.inr rfl, Or.inr rfl, Or.inr rfl, Or.inr rfl, Or.inl rfl, trivial⟩ ?_
          exact ih _ _ (by omega) (by rw [alk_step (by omega), ← hl]; first | rw [if_pos ⟨(by rcases hbo with q | q; exact q.2; omega), (by rw [← ev79, ← ev86]; exact h89)⟩] | rw [if_neg (fun z => by rw [← ev79, ← ev86] at z; exact h89 z.2)] | rw [if_neg (fun z => by rcases hbo with q | q; omega; exact q.2 z.1)]) (by omega)
        · refine q_iload (j := 6) hA rfl dX10_tried_75 ?_
          refine q_iload (j := 4) hA rfl dX10_tried_77 ?_
          refine q_callSP (As := [vI a, vI sh]) (st := [vI al]) hA l_X10_133 kX10_effortOf (zX10_effortOf (by first | assumption | omega | rfl) (by first | assumption | omega | rfl)) dX10_tried_79 rfl rfl (Nat.le_of_ble_eq_true rfl) (by omega) ?_
          refine q_nmI (fun v79 ev79 => ?_)
          refine q_iload (j := 8) hA rfl dX10_tried_82 ?_
          refine q_iload (j := 4) hA rfl dX10_tried_84 ?_
          refine q_callSP (As := [vI c, vI sh]) (st := [vI v79, vI al]) hA l_X10_133 kX10_effortOf (zX10_effortOf (by first | assumption | omega | rfl) (by first | assumption | omega | rfl)) dX10_tried_86 rfl rfl (Nat.le_of_ble_eq_true rfl) (by omega) ?_
          refine q_nmI (fun v86 ev86 => ?_)
          have he1 := effK_in (k := a) (s := sh) (by omega)
          have he2 := effK_in (k := c) (s := sh) (by omega)
          rw [← ev79] at he1
          rw [← ev86] at he2
          refine q_icmp_ne (tgt := 96) hA (by omega) (by omega) dX10_tried_89 (by decide) (fun h89 => ?_) (fun h89 => ?_)
          · refine q_iconst hA dX10_tried_96 ?_
            refine q_iadd hA dX10_tried_97 ?_
            refine q_istore (j := 7) (lo2 := [vR 283, vI t, vI b, vI le, vI sh, vI mo, vI a, vI (al + 0), vI c, vI bo]) hA dX10_tried_98 (by decide) rfl rfl ?_
            refine q_iinc (j := 8) (lo2 := [vR 283, vI t, vI b, vI le, vI sh, vI mo, vI a, vI (al + 0), vI (c + 1), vI bo]) hA dX10_tried_100 rfl (by decide) rfl rfl ?_
            refine q_goto (tgt := 39) hA dX10_tried_103 (by decide) ?_
            refine q_fgt (lo2 := [vR 283, vI t, vI b, vI le, vI sh, vI mo, vI a, vI (al + 0), vI (c + 1), vN]) hA ⟨Or.inr rfl, Or.inr rfl, Or.inr rfl, Or.inr rfl, Or.inr rfl, Or.inr rfl, Or.inr rfl, Or.inr rfl, Or.inr rfl, Or.inl rfl, trivial⟩ ?_
            exact ih _ _ (by omega) (by rw [alk_step (by omega), ← hl]; first | rw [if_pos ⟨(by rcases hbo with q | q; exact q.2; omega), (by rw [← ev79, ← ev86]; exact h89)⟩] | rw [if_neg (fun z => by rw [← ev79, ← ev86] at z; exact h89 z.2)] | rw [if_neg (fun z => by rcases hbo with q | q; omega; exact q.2 z.1)]) (by omega)
          · refine q_iconst hA dX10_tried_92 ?_
            refine q_goto (tgt := 97) hA dX10_tried_93 (by decide) ?_
            refine q_iadd hA dX10_tried_97 ?_
            refine q_istore (j := 7) (lo2 := [vR 283, vI t, vI b, vI le, vI sh, vI mo, vI a, vI (al + 1), vI c, vI bo]) hA dX10_tried_98 (by decide) rfl rfl ?_
            refine q_iinc (j := 8) (lo2 := [vR 283, vI t, vI b, vI le, vI sh, vI mo, vI a, vI (al + 1), vI (c + 1), vI bo]) hA dX10_tried_100 rfl (by decide) rfl rfl ?_
            refine q_goto (tgt := 39) hA dX10_tried_103 (by decide) ?_
            refine q_fgt (lo2 := [vR 283, vI t, vI b, vI le, vI sh, vI mo, vI a, vI (al + 1), vI (c + 1), vN]) hA ⟨Or.inr rfl, Or.inr rfl, Or.inr rfl, Or.inr rfl, Or.inr rfl, Or.inr rfl, Or.inr rfl, Or.inr rfl, Or.inr rfl, Or.inl rfl, trivial⟩ ?_
            exact ih _ _ (by omega) (by rw [alk_step (by omega), ← hl]; first | rw [if_pos ⟨(by rcases hbo with q | q; exact q.2; omega), (by rw [← ev79, ← ev86]; exact h89)⟩] | rw [if_neg (fun z => by rw [← ev79, ← ev86] at z; exact h89 z.2)] | rw [if_neg (fun z => by rcases hbo with q | q; omega; exact q.2 z.1)]) (by omega)
set_option maxHeartbeats 4000000 in
set_option maxRecDepth 100000 in
theorem zX10_tried_L26 {g : Gm} {l : Launch} {D : Dat} {t : Int} (ht : 0 ≤ t ∧ t ≤ 63) {b le sh : Int} (hs : 0 ≤ sh ∧ sh ≤ 9) {J : JT} (hA : AX g l RX10 cX10_tried 10 2 J) (hR : ReI cX10_tried (fun v D1 => v = (tryK t) ∧ D1 = D) J) (hx : ∀ (mo : Int) (a : Int), (1 ≤ a ∧ a ≤ 6) → (mo = mstM t sh (a - 1).toNat) → (mo = mstM t sh 5) → J 128 [vR 283, vI t, vI b, vI le, vI sh, vI mo, vI a, vN, vN, vN] [] D) : ∀ (fuel : Nat) (mo : Int) (a : Int), (1 ≤ a ∧ a ≤ 6) → (mo = mstM t sh (a - 1).toNat) → 6 - a < (fuel : Int) → J 26 [vR 283, vI t, vI b, vI le, vI sh, vI mo, vI a, vN, vN, vN] [] D := by
  intro fuel
  induction fuel with
  | zero => intro mo a ha hm hMs; exact absurd hMs (by omega)
  | succ fuel ih =>
    intro mo a ha hm hMs
    have hmi := mst_in t sh (a - 1).toNat
    rw [← hm] at hmi
    refine q_iload (j := 6) hA rfl dX10_tried_26 ?_
    refine q_bipush hA (by decide) dX10_tried_28 ?_
    refine q_icmp_ge (tgt := 128) hA (by omega) (by omega) dX10_tried_30 (by decide) (fun h30 => ?_) (fun h30 => ?_)
    · exact hx _ _ ha hm (by rw [hm, show a - 1 = 5 by omega]; rfl)
    · refine q_iconst hA dX10_tried_33 ?_
      refine q_istore (j := 7) (lo2 := [vR 283, vI t, vI b, vI le, vI sh, vI mo, vI a, vI 0, vN, vN]) hA dX10_tried_34 (by decide) rfl rfl ?_
      refine q_iconst hA dX10_tried_36 ?_
      refine q_istore (j := 8) (lo2 := [vR 283, vI t, vI b, vI le, vI sh, vI mo, vI a, vI 0, vI 1, vN]) hA dX10_tried_37 (by decide) rfl rfl ?_
      refine zX10_tried_L39 (D := D) (t := t) ht hs (by omega) hA hR (fun al c hc hl hx => ?_) 1000 _ _ (by omega) (by rfl) (by omega)
      have hli2 := alk_in t sh a 5
      rw [← hx] at hli2
      refine q_iload (j := 7) hA rfl dX10_tried_106 ?_
      refine q_iload (j := 5) hA rfl dX10_tried_108 ?_
      refine q_icmp_le (tgt := 118) hA (by omega) (by omega) dX10_tried_110 (by decide) (fun h110 => ?_) (fun h110 => ?_)
      · refine q_iload (j := 5) hA rfl dX10_tried_118 ?_
        refine q_nmI (fun mo2 emo2 => ?_)
        refine q_istore (j := 5) (lo2 := [vR 283, vI t, vI b, vI le, vI sh, vI mo2, vI a, vI al, vI c, vN]) hA dX10_tried_120 (by decide) rfl rfl ?_
        refine q_iinc (j := 6) (lo2 := [vR 283, vI t, vI b, vI le, vI sh, vI mo2, vI (a + 1), vI al, vI c, vN]) hA dX10_tried_122 rfl (by decide) rfl rfl ?_
        refine q_goto (tgt := 26) hA dX10_tried_125 (by decide) ?_
        refine q_fgt (lo2 := [vR 283, vI t, vI b, vI le, vI sh, vI mo2, vI (a + 1), vN, vN, vN]) hA ⟨Or.inr rfl, Or.inr rfl, Or.inr rfl, Or.inr rfl, Or.inr rfl, Or.inr rfl, Or.inr rfl, Or.inl rfl, Or.inl rfl, Or.inr rfl, trivial⟩ ?_
        exact ih _ _ (by omega) (by rw [mst_step (by omega), ← hm, ← hx, emo2]; first | rw [if_pos (by omega)] | rw [if_neg (by omega)]) (by omega)
      · refine q_iload (j := 7) hA rfl dX10_tried_113 ?_
        refine q_goto (tgt := 120) hA dX10_tried_115 (by decide) ?_
        refine q_nmI (fun mo2 emo2 => ?_)
        refine q_istore (j := 5) (lo2 := [vR 283, vI t, vI b, vI le, vI sh, vI mo2, vI a, vI al, vI c, vN]) hA dX10_tried_120 (by decide) rfl rfl ?_
        refine q_iinc (j := 6) (lo2 := [vR 283, vI t, vI b, vI le, vI sh, vI mo2, vI (a + 1), vI al, vI c, vN]) hA dX10_tried_122 rfl (by decide) rfl rfl ?_
        refine q_goto (tgt := 26) hA dX10_tried_125 (by decide) ?_
        refine q_fgt (lo2 := [vR 283, vI t, vI b, vI le, vI sh, vI mo2, vI (a + 1), vN, vN, vN]) hA ⟨Or.inr rfl, Or.inr rfl, Or.inr rfl, Or.inr rfl, Or.inr rfl, Or.inr rfl, Or.inr rfl, Or.inl rfl, Or.inl rfl, Or.inr rfl, trivial⟩ ?_
        exact ih _ _ (by omega) (by rw [mst_step (by omega), ← hm, ← hx, emo2]; first | rw [if_pos (by omega)] | rw [if_neg (by omega)]) (by omega)
set_option maxHeartbeats 4000000 in
set_option maxRecDepth 100000 in
theorem zX10_tried_L9 {g : Gm} {l : Launch} {D : Dat} {t : Int} (ht : 0 ≤ t ∧ t ≤ 63)   {J : JT} (hA : AX g l RX10 cX10_tried 10 2 J) (hR : ReI cX10_tried (fun v D1 => v = (tryK t) ∧ D1 = D) J) : ∀ (fuel : Nat) (b : Int) (le : Int) (sh : Int), (0 ≤ sh ∧ sh ≤ 10) → (t = 0 → sh = 0) → ((b, le) = bstM t sh.toNat) → 10 - sh < (fuel : Int) → J 9 [vR 283, vI t, vI b, vI le, vI sh, vN, vN, vN, vN, vN] [] D := by
  intro fuel
  induction fuel with
  | zero => intro b le sh hs h0 hbl hMs; exact absurd hMs (by omega)
  | succ fuel ih =>
    intro b le sh hs h0 hbl hMs
    have hbi := bst_in t sh.toNat
    rw [← hbl] at hbi
    have hb1 : -4 ≤ b ∧ b ≤ 10 := by have := hbi.1; simp only at this; omega
    have hl1 : 0 ≤ le ∧ le ≤ 99 := hbi.2
    refine q_iload (j := 4) hA rfl dX10_tried_9 ?_
    refine q_bipush hA (by decide) dX10_tried_11 ?_
    refine q_icmp_ge (tgt := 160) hA (by omega) (by omega) dX10_tried_13 (by decide) (fun h13 => ?_) (fun h13 => ?_)
    · refine q_iload_n (j := 2) hA rfl dX10_tried_160 ?_
      exact hR 161 _ _ _ dX10_tried_161 ⟨(by exact tried_fin ht hs h0 hbl (by omega)), rfl⟩
    · refine q_iload_n (j := 1) hA rfl dX10_tried_16 ?_
      refine q_if_eq (tgt := 160) hA (by omega) dX10_tried_17 (by decide) (fun h17 => ?_) (fun h17 => ?_)
      · refine q_iload_n (j := 2) hA rfl dX10_tried_160 ?_
        exact hR 161 _ _ _ dX10_tried_161 ⟨(by exact tried_fin ht hs h0 hbl (by omega)), rfl⟩
      · refine q_iconst hA dX10_tried_20 ?_
        refine q_istore (j := 5) (lo2 := [vR 283, vI t, vI b, vI le, vI sh, vI 0, vN, vN, vN, vN]) hA dX10_tried_21 (by decide) rfl rfl ?_
        refine q_iconst hA dX10_tried_23 ?_
        refine q_istore (j := 6) (lo2 := [vR 283, vI t, vI b, vI le, vI sh, vI 0, vI 1, vN, vN, vN]) hA dX10_tried_24 (by decide) rfl rfl ?_
        refine zX10_tried_L26 (D := D) (t := t) ht (by omega) hA hR (fun mo a ha hm hx => ?_) 1000 _ _ (by omega) (by rfl) (by omega)
        have hmi2 := mst_in t sh 5
        rw [← hx] at hmi2
        refine q_iload (j := 5) hA rfl dX10_tried_128 ?_
        refine q_iload_n (j := 3) hA rfl dX10_tried_130 ?_
        refine q_icmp_ge (tgt := 139) hA (by omega) (by omega) dX10_tried_131 (by decide) (fun h131 => ?_) (fun h131 => ?_)
        · refine q_iload_n (j := 2) hA rfl dX10_tried_139 ?_
          refine q_nmI (fun b2 eb2 => ?_)
          refine q_istore_n (j := 2) (lo2 := [vR 283, vI t, vI b2, vI le, vI sh, vI mo, vI a, vN, vN, vN]) hA dX10_tried_140 (by decide) rfl rfl ?_
          refine q_iload (j := 5) hA rfl dX10_tried_141 ?_
          refine q_iload_n (j := 3) hA rfl dX10_tried_143 ?_
          refine q_icmp_ge (tgt := 152) hA (by omega) (by omega) dX10_tried_144 (by decide) (fun h144 => ?_) (fun h144 => ?_)
          · refine q_iload_n (j := 3) hA rfl dX10_tried_152 ?_
            refine q_nmI (fun l2 el2 => ?_)
            refine q_istore_n (j := 3) (lo2 := [vR 283, vI t, vI b2, vI l2, vI sh, vI mo, vI a, vN, vN, vN]) hA dX10_tried_153 (by decide) rfl rfl ?_
            refine q_iinc (j := 4) (lo2 := [vR 283, vI t, vI b2, vI l2, vI (sh + 1), vI mo, vI a, vN, vN, vN]) hA dX10_tried_154 rfl (by decide) rfl rfl ?_
            refine q_goto (tgt := 9) hA dX10_tried_157 (by decide) ?_
            refine q_fgt (lo2 := [vR 283, vI t, vI b2, vI l2, vI (sh + 1), vN, vN, vN, vN, vN]) hA ⟨Or.inr rfl, Or.inr rfl, Or.inr rfl, Or.inr rfl, Or.inr rfl, Or.inl rfl, Or.inl rfl, Or.inr rfl, Or.inr rfl, Or.inr rfl, trivial⟩ ?_
            exact ih _ _ _ (by omega) (by omega) (by rw [bst_step (by omega), ← hbl, ← hx, eb2, el2]; first | (exfalso; omega) | rw [if_pos (show mo < le by omega)] | rw [if_neg (show ¬ mo < le by omega)]) (by omega)
          · refine q_iload (j := 5) hA rfl dX10_tried_147 ?_
            refine q_goto (tgt := 153) hA dX10_tried_149 (by decide) ?_
            refine q_nmI (fun l2 el2 => ?_)
            refine q_istore_n (j := 3) (lo2 := [vR 283, vI t, vI b2, vI l2, vI sh, vI mo, vI a, vN, vN, vN]) hA dX10_tried_153 (by decide) rfl rfl ?_
            refine q_iinc (j := 4) (lo2 := [vR 283, vI t, vI b2, vI l2, vI (sh + 1), vI mo, vI a, vN, vN, vN]) hA dX10_tried_154 rfl (by decide) rfl rfl ?_
            refine q_goto (tgt := 9) hA dX10_tried_157 (by decide) ?_
            refine q_fgt (lo2 := [vR 283, vI t, vI b2, vI l2, vI (sh + 1), vN, vN, vN, vN, vN]) hA ⟨Or.inr rfl, Or.inr rfl, Or.inr rfl, Or.inr rfl, Or.inr rfl, Or.inl rfl, Or.inl rfl, Or.inr rfl, Or.inr rfl, Or.inr rfl, trivial⟩ ?_
            exact ih _ _ _ (by omega) (by omega) (by rw [bst_step (by omega), ← hbl, ← hx, eb2, el2]; first | (exfalso; omega) | rw [if_pos (show mo < le by omega)] | rw [if_neg (show ¬ mo < le by omega)]) (by omega)
        · refine q_iload (j := 4) hA rfl dX10_tried_134 ?_
          refine q_goto (tgt := 140) hA dX10_tried_136 (by decide) ?_
          refine q_nmI (fun b2 eb2 => ?_)
          refine q_istore_n (j := 2) (lo2 := [vR 283, vI t, vI b2, vI le, vI sh, vI mo, vI a, vN, vN, vN]) hA dX10_tried_140 (by decide) rfl rfl ?_
          refine q_iload (j := 5) hA rfl dX10_tried_141 ?_
          refine q_iload_n (j := 3) hA rfl dX10_tried_143 ?_
          refine q_icmp_ge (tgt := 152) hA (by omega) (by omega) dX10_tried_144 (by decide) (fun h144 => ?_) (fun h144 => ?_)
          · refine q_iload_n (j := 3) hA rfl dX10_tried_152 ?_
            refine q_nmI (fun l2 el2 => ?_)
            refine q_istore_n (j := 3) (lo2 := [vR 283, vI t, vI b2, vI l2, vI sh, vI mo, vI a, vN, vN, vN]) hA dX10_tried_153 (by decide) rfl rfl ?_
            refine q_iinc (j := 4) (lo2 := [vR 283, vI t, vI b2, vI l2, vI (sh + 1), vI mo, vI a, vN, vN, vN]) hA dX10_tried_154 rfl (by decide) rfl rfl ?_
            refine q_goto (tgt := 9) hA dX10_tried_157 (by decide) ?_
            refine q_fgt (lo2 := [vR 283, vI t, vI b2, vI l2, vI (sh + 1), vN, vN, vN, vN, vN]) hA ⟨Or.inr rfl, Or.inr rfl, Or.inr rfl, Or.inr rfl, Or.inr rfl, Or.inl rfl, Or.inl rfl, Or.inr rfl, Or.inr rfl, Or.inr rfl, trivial⟩ ?_
            exact ih _ _ _ (by omega) (by omega) (by rw [bst_step (by omega), ← hbl, ← hx, eb2, el2]; first | (exfalso; omega) | rw [if_pos (show mo < le by omega)] | rw [if_neg (show ¬ mo < le by omega)]) (by omega)
          · refine q_iload (j := 5) hA rfl dX10_tried_147 ?_
            refine q_goto (tgt := 153) hA dX10_tried_149 (by decide) ?_
            refine q_nmI (fun l2 el2 => ?_)
            refine q_istore_n (j := 3) (lo2 := [vR 283, vI t, vI b2, vI l2, vI sh, vI mo, vI a, vN, vN, vN]) hA dX10_tried_153 (by decide) rfl rfl ?_
            refine q_iinc (j := 4) (lo2 := [vR 283, vI t, vI b2, vI l2, vI (sh + 1), vI mo, vI a, vN, vN, vN]) hA dX10_tried_154 rfl (by decide) rfl rfl ?_
            refine q_goto (tgt := 9) hA dX10_tried_157 (by decide) ?_
            refine q_fgt (lo2 := [vR 283, vI t, vI b2, vI l2, vI (sh + 1), vN, vN, vN, vN, vN]) hA ⟨Or.inr rfl, Or.inr rfl, Or.inr rfl, Or.inr rfl, Or.inr rfl, Or.inl rfl, Or.inl rfl, Or.inr rfl, Or.inr rfl, Or.inr rfl, trivial⟩ ?_
            exact ih _ _ _ (by omega) (by omega) (by rw [bst_step (by omega), ← hbl, ← hx, eb2, el2]; first | (exfalso; omega) | rw [if_pos (show mo < le by omega)] | rw [if_neg (show ¬ mo < le by omega)]) (by omega)
set_option maxHeartbeats 4000000 in
set_option maxRecDepth 100000 in
theorem zX10_tried {g : Gm} {l : Launch} {D : Dat} {t : Int} (ht : 0 ≤ t ∧ t ≤ 63) : CrP g l 2 mX10_tried [vR 283, vI t] D (tryK t) := by
  unfold CrP
  refine Cr.ofI (lo0 := [vR 283, vI t, vN, vN, vN, vN, vN, vN, vN, vN]) (by decide) (Nat.le_of_ble_eq_true rfl) rfl (fun J hA hR => ?_)
  refine q_bipush hA (by decide) dX10_tried_0 ?_
  refine q_istore_n (j := 2) (lo2 := [vR 283, vI t, vI (-4), vN, vN, vN, vN, vN, vN, vN]) hA dX10_tried_2 (by decide) rfl rfl ?_
  refine q_bipush hA (by decide) dX10_tried_3 ?_
  refine q_istore_n (j := 3) (lo2 := [vR 283, vI t, vI (-4), vI 99, vN, vN, vN, vN, vN, vN]) hA dX10_tried_5 (by decide) rfl rfl ?_
  refine q_iconst hA dX10_tried_6 ?_
  refine q_istore (j := 4) (lo2 := [vR 283, vI t, vI (-4), vI 99, vI 0, vN, vN, vN, vN, vN]) hA dX10_tried_7 (by decide) rfl rfl ?_
  refine zX10_tried_L9 (D := D) (t := t) ht  hA hR 1000 _ _ _ (by omega) (by omega) (by rfl) (by omega)
set_option maxHeartbeats 4000000 in
set_option maxRecDepth 100000 in
theorem zX10_kinds_L77 {g : Gm} {l : Launch} {D : Dat} {s : Int} {n : Int} {i : Int} {k : Int} {w : Int} (rs : -2147483648 ≤ s ∧ s ≤ 2147483647) (rn : -2147483648 ≤ n ∧ n ≤ 2147483647) (ri : -2147483648 ≤ i ∧ i ≤ 2147483647) (rk : -2147483648 ≤ k ∧ k ≤ 2147483647) (rw : -2147483648 ≤ w ∧ w ≤ 2147483647) (hla : ∀ j : Int, 0 ≤ j → j ≤ 3 → (-1 ≤ D 295 j ∧ D 295 j ≤ 3) ∧ (0 ≤ D 296 j ∧ D 296 j ≤ 24)) (hit : ∀ i : Int, 0 ≤ i → i < 96 → -9223372036854775808 ≤ D 297 i ∧ D 297 i ≤ 9223372036854775807) {y : Int} (hKB : (((((0 ≤ s ∧ s ≤ 3) ∧ (0 ≤ n ∧ n ≤ 3)) ∧ (1 ≤ k ∧ k ≤ 10)) ∧ (0 ≤ w ∧ w ≤ 1)) ∧ refS (D 295 s) (D 296 s) n i (2 * k) = 0)) {J : JT} (hA : AX g l RX10 cX10_kinds 12 3 J) (hR : ReI cX10_kinds (fun v D1 => v = (if ((((0 ≤ s ∧ s ≤ 3) ∧ (0 ≤ n ∧ n ≤ 3)) ∧ (1 ≤ k ∧ k ≤ 10)) ∧ (0 ≤ w ∧ w ≤ 1)) then (if refS (D 295 s) (D 296 s) n i (2 * k) < 0 then refS (D 295 s) (D 296 s) n i (2 * k) else kndA (D 297) (24 * s + i) k w) else -1) ∧ D1 = D) J) (hx : ∀ (j : Int), (0 ≤ j ∧ j ≤ k) → (okM (D 297) (24 * s + i) j.toNat = true) → (okM (D 297) (24 * s + i) k.toNat = true) → J 115 [vR 283, vI s, vI n, vI i, vI k, vI w, vI y, vI (24 * s + i), vI j, vN, vN, vN] [] D) : ∀ (fuel : Nat) (j : Int), (0 ≤ j ∧ j ≤ k) → (okM (D 297) (24 * s + i) j.toNat = true) → k - j < (fuel : Int) → J 77 [vR 283, vI s, vI n, vI i, vI k, vI w, vI y, vI (24 * s + i), vI j, vN, vN, vN] [] D := by
  intro fuel
  induction fuel with
  | zero => intro j hj ho hMs; exact absurd hMs (by omega)
  | succ fuel ih =>
    intro j hj ho hMs
    have hr0 := refS_0 hKB.2
    have hq := hla s (by omega) (by omega)
    refine q_iload (j := 8) hA rfl dX10_kinds_77 ?_
    refine q_iload (j := 4) hA rfl dX10_kinds_79 ?_
    refine q_icmp_ge (tgt := 115) hA (by omega) (by omega) dX10_kinds_81 (by decide) (fun h81 => ?_) (fun h81 => ?_)
    · exact hx _ hj ho (by rw [show k = j by omega]; exact ho)
    · refine q_aload_n (j := 0) hA rfl dX10_kinds_84 ?_
      refine q_getR hA f_X10_50 dX10_kinds_85 sx_283 (by decide) fx_283_17 ?_
      refine q_iload (j := 7) hA rfl dX10_kinds_88 ?_
      refine q_iconst hA dX10_kinds_90 ?_
      refine q_iload (j := 8) hA rfl dX10_kinds_91 ?_
      refine q_imul hA dX10_kinds_93 ?_
      refine q_iadd hA dX10_kinds_94 ?_
      have hij := hit (24 * s + i + 2 * j) (by omega) (by omega)
      refine q_lald (x := D 297 ((24 * s + i) + (2 * j))) hA dX10_kinds_95 sx_297 (by omega) (by decide) rfl ?_
      refine q_lconst hA dX10_kinds_96 ?_
      show J _ _ (vL 0 :: _) _
      refine q_ldc2 hA c_X10_275 dX10_kinds_97 ?_
      refine q_callSB (As := [vL (D 297 ((24 * s + i) + (2 * j))), vL 0, vL 99]) (st := []) hA l_X10_77 kX10_in (zX10_in (by first | assumption | omega | rfl) (by first | assumption | omega | rfl) (by first | assumption | omega | rfl)) dX10_kinds_100 rfl rfl (Nat.le_of_ble_eq_true rfl) (by omega) (fun h100 => ?_) (fun h100 => ?_)
      · refine q_if_ne (tgt := 109) hA (by decide) dX10_kinds_103 (by decide) (fun h103 => ?_) (fun h103 => absurd h103 (by decide))
        refine q_iinc (j := 8) (lo2 := [vR 283, vI s, vI n, vI i, vI k, vI w, vI y, vI (24 * s + i), vI (j + 1), vN, vN, vN]) hA dX10_kinds_109 rfl (by decide) rfl rfl ?_
        refine q_goto (tgt := 77) hA dX10_kinds_112 (by decide) ?_
        exact ih _ (by omega) (by rw [okM_step (by omega), ho, Bool.true_and]; exact decide_eq_true h100) (by omega)
      · refine q_if_ne (tgt := 109) hA (by decide) dX10_kinds_103 (by decide) (fun h103 => absurd h103 (by decide)) (fun h103 => ?_)
        refine q_bipush hA (by decide) dX10_kinds_106 ?_
        exact hR 108 _ _ _ dX10_kinds_108 ⟨(by rw [if_pos hKB.1, if_neg (by omega)]; unfold kndA; rw [if_pos (okM_f (k := j) (by omega) h100)]), rfl⟩
set_option maxHeartbeats 4000000 in
set_option maxRecDepth 100000 in
theorem zX10_kinds_L134 {g : Gm} {l : Launch} {D : Dat} {s : Int} {n : Int} {i : Int} {k : Int} {w : Int} (rs : -2147483648 ≤ s ∧ s ≤ 2147483647) (rn : -2147483648 ≤ n ∧ n ≤ 2147483647) (ri : -2147483648 ≤ i ∧ i ≤ 2147483647) (rk : -2147483648 ≤ k ∧ k ≤ 2147483647) (rw : -2147483648 ≤ w ∧ w ≤ 2147483647) (hla : ∀ j : Int, 0 ≤ j → j ≤ 3 → (-1 ≤ D 295 j ∧ D 295 j ≤ 3) ∧ (0 ≤ D 296 j ∧ D 296 j ≤ 24)) (hit : ∀ i : Int, 0 ≤ i → i < 96 → -9223372036854775808 ≤ D 297 i ∧ D 297 i ≤ 9223372036854775807) {y st kd : Int} (hKB : (((((0 ≤ s ∧ s ≤ 3) ∧ (0 ≤ n ∧ n ≤ 3)) ∧ (1 ≤ k ∧ k ≤ 10)) ∧ (0 ≤ w ∧ w ≤ 1)) ∧ refS (D 295 s) (D 296 s) n i (2 * k) = 0)) (hok2 : okM (D 297) (24 * s + i) k.toNat = true) (hkd : 1 ≤ kd ∧ kd ≤ 5) {J : JT} (hA : AX g l RX10 cX10_kinds 12 3 J) (hR : ReI cX10_kinds (fun v D1 => v = (if ((((0 ≤ s ∧ s ≤ 3) ∧ (0 ≤ n ∧ n ≤ 3)) ∧ (1 ≤ k ∧ k ≤ 10)) ∧ (0 ≤ w ∧ w ≤ 1)) then (if refS (D 295 s) (D 296 s) n i (2 * k) < 0 then refS (D 295 s) (D 296 s) n i (2 * k) else kndA (D 297) (24 * s + i) k w) else -1) ∧ D1 = D) J) (hx : ∀ (is_ : Int) (j : Int), (0 ≤ j ∧ j ≤ k) → (is_ = b01 (isM (D 297) kd (24 * s + i) j.toNat)) → (is_ = b01 (isM (D 297) kd (24 * s + i) k.toNat)) → J 198 [vR 283, vI s, vI n, vI i, vI k, vI w, vI y, vI (24 * s + i), vI st, vI kd, vI is_, vI j] [] D) : ∀ (fuel : Nat) (is_ : Int) (j : Int), (0 ≤ j ∧ j ≤ k) → (is_ = b01 (isM (D 297) kd (24 * s + i) j.toNat)) → k - j < (fuel : Int) → J 134 [vR 283, vI s, vI n, vI i, vI k, vI w, vI y, vI (24 * s + i), vI st, vI kd, vI is_, vI j] [] D := by
  intro fuel
  induction fuel with
  | zero => intro is_ j hj his hMs; exact absurd hMs (by omega)
  | succ fuel ih =>
    intro is_ j hj his hMs
    have hr0 := refS_0 hKB.2
    have hq := hla s (by omega) (by omega)
    have hib := b01_in (isM (D 297) kd (24 * s + i) j.toNat)
    rw [← his] at hib
    refine q_iload (j := 11) hA rfl dX10_kinds_134 ?_
    refine q_iload (j := 4) hA rfl dX10_kinds_136 ?_
    refine q_icmp_ge (tgt := 198) hA (by omega) (by omega) dX10_kinds_138 (by decide) (fun h138 => ?_) (fun h138 => ?_)
    · exact hx _ _ hj his (by rw [show k = j by omega]; exact his)
    · refine q_iload (j := 10) hA rfl dX10_kinds_141 ?_
      refine q_if_eq (tgt := 189) hA (by omega) dX10_kinds_143 (by decide) (fun h143 => ?_) (fun h143 => ?_)
      · refine q_iconst hA dX10_kinds_189 ?_
        refine q_istore (j := 10) (lo2 := [vR 283, vI s, vI n, vI i, vI k, vI w, vI y, vI (24 * s + i), vI st, vI kd, vI 0, vI j]) hA dX10_kinds_190 (by decide) rfl rfl ?_
        refine q_iinc (j := 11) (lo2 := [vR 283, vI s, vI n, vI i, vI k, vI w, vI y, vI (24 * s + i), vI st, vI kd, vI 0, vI (j + 1)]) hA dX10_kinds_192 rfl (by decide) rfl rfl ?_
        refine q_goto (tgt := 134) hA dX10_kinds_195 (by decide) ?_
        exact ih _ _ (by omega) (by first | exact isM_0 hj.1 his (Or.inl h143) | exact isM_1 hj.1 his h143 (by rw [← eso, ← eef]; omega) | exact isM_0 hj.1 his (Or.inr (by rw [← eso, ← eef]; omega))) (by omega)
      · refine q_iload (j := 9) hA rfl dX10_kinds_146 ?_
        refine q_aload_n (j := 0) hA rfl dX10_kinds_148 ?_
        refine q_getR hA f_X10_50 dX10_kinds_149 sx_283 (by decide) fx_283_17 ?_
        refine q_iload (j := 7) hA rfl dX10_kinds_152 ?_
        refine q_iconst hA dX10_kinds_154 ?_
        refine q_iload (j := 11) hA rfl dX10_kinds_155 ?_
        refine q_imul hA dX10_kinds_157 ?_
        refine q_iadd hA dX10_kinds_158 ?_
        have hij := okM_at hok2 j (by omega) (by omega)
        refine q_lald (x := D 297 ((24 * s + i) + (2 * j))) hA dX10_kinds_159 sx_297 (by omega) (by decide) rfl ?_
        refine q_callSP (As := [vL (D 297 ((24 * s + i) + (2 * j)))]) (st := [vI kd]) hA l_X10_277 kX10_shownOf (zX10_shownOf (by first | assumption | omega | rfl)) dX10_kinds_160 rfl rfl (Nat.le_of_ble_eq_true rfl) (by omega) ?_
        refine q_nmI (fun so eso => ?_)
        rw [← eso] at hij
        refine q_callSP (As := [vI kd, vI so]) (st := []) hA l_X10_133 kX10_effortOf (zX10_effortOf (by first | assumption | omega | rfl) (by first | assumption | omega | rfl)) dX10_kinds_163 rfl rfl (Nat.le_of_ble_eq_true rfl) (by omega) ?_
        refine q_nmI (fun ef eef => ?_)
        have hef := effK_in (k := kd) (s := so) (by omega)
        rw [← eef] at hef
        refine q_i2l hA (by omega) dX10_kinds_166 ?_
        refine q_aload_n (j := 0) hA rfl dX10_kinds_167 ?_
        refine q_getR hA f_X10_50 dX10_kinds_168 sx_283 (by decide) fx_283_17 ?_
        refine q_iload (j := 7) hA rfl dX10_kinds_171 ?_
        refine q_iconst hA dX10_kinds_173 ?_
        refine q_iload (j := 11) hA rfl dX10_kinds_174 ?_
        refine q_imul hA dX10_kinds_176 ?_
        refine q_iadd hA dX10_kinds_177 ?_
        refine q_iconst hA dX10_kinds_178 ?_
        refine q_iadd hA dX10_kinds_179 ?_
        have hij2 := hit (24 * s + i + 2 * j + 1) (by omega) (by omega)
        refine q_lald (x := D 297 (((24 * s + i) + (2 * j)) + 1)) hA dX10_kinds_180 sx_297 (by omega) (by decide) rfl ?_
        refine q_lcmp hA (by omega) (by omega) dX10_kinds_181 ?_
        have hc181 := cmpL_spec ef (D 297 (((24 * s + i) + (2 * j)) + 1))
        refine q_if_ne (tgt := 189) hA (by omega) dX10_kinds_182 (by decide) (fun h182 => ?_) (fun h182 => ?_)
        · refine q_iconst hA dX10_kinds_189 ?_
          refine q_istore (j := 10) (lo2 := [vR 283, vI s, vI n, vI i, vI k, vI w, vI y, vI (24 * s + i), vI st, vI kd, vI 0, vI j]) hA dX10_kinds_190 (by decide) rfl rfl ?_
          refine q_iinc (j := 11) (lo2 := [vR 283, vI s, vI n, vI i, vI k, vI w, vI y, vI (24 * s + i), vI st, vI kd, vI 0, vI (j + 1)]) hA dX10_kinds_192 rfl (by decide) rfl rfl ?_
          refine q_goto (tgt := 134) hA dX10_kinds_195 (by decide) ?_
          exact ih _ _ (by omega) (by first | exact isM_0 hj.1 his (Or.inl h143) | exact isM_1 hj.1 his h143 (by rw [← eso, ← eef]; omega) | exact isM_0 hj.1 his (Or.inr (by rw [← eso, ← eef]; omega))) (by omega)
        · refine q_iconst hA dX10_kinds_185 ?_
          refine q_goto (tgt := 190) hA dX10_kinds_186 (by decide) ?_
          refine q_istore (j := 10) (lo2 := [vR 283, vI s, vI n, vI i, vI k, vI w, vI y, vI (24 * s + i), vI st, vI kd, vI 1, vI j]) hA dX10_kinds_190 (by decide) rfl rfl ?_
          refine q_iinc (j := 11) (lo2 := [vR 283, vI s, vI n, vI i, vI k, vI w, vI y, vI (24 * s + i), vI st, vI kd, vI 1, vI (j + 1)]) hA dX10_kinds_192 rfl (by decide) rfl rfl ?_
          refine q_goto (tgt := 134) hA dX10_kinds_195 (by decide) ?_
          exact ih _ _ (by omega) (by first | exact isM_0 hj.1 his (Or.inl h143) | exact isM_1 hj.1 his h143 (by rw [← eso, ← eef]; omega) | exact isM_0 hj.1 his (Or.inr (by rw [← eso, ← eef]; omega))) (by omega)
set_option maxHeartbeats 4000000 in
set_option maxRecDepth 100000 in
theorem zX10_kinds_L121 {g : Gm} {l : Launch} {D : Dat} {s : Int} {n : Int} {i : Int} {k : Int} {w : Int} (rs : -2147483648 ≤ s ∧ s ≤ 2147483647) (rn : -2147483648 ≤ n ∧ n ≤ 2147483647) (ri : -2147483648 ≤ i ∧ i ≤ 2147483647) (rk : -2147483648 ≤ k ∧ k ≤ 2147483647) (rw : -2147483648 ≤ w ∧ w ≤ 2147483647) (hla : ∀ j : Int, 0 ≤ j → j ≤ 3 → (-1 ≤ D 295 j ∧ D 295 j ≤ 3) ∧ (0 ≤ D 296 j ∧ D 296 j ≤ 24)) (hit : ∀ i : Int, 0 ≤ i → i < 96 → -9223372036854775808 ≤ D 297 i ∧ D 297 i ≤ 9223372036854775807) {y : Int} (hKB : (((((0 ≤ s ∧ s ≤ 3) ∧ (0 ≤ n ∧ n ≤ 3)) ∧ (1 ≤ k ∧ k ≤ 10)) ∧ (0 ≤ w ∧ w ≤ 1)) ∧ refS (D 295 s) (D 296 s) n i (2 * k) = 0)) (hok2 : okM (D 297) (24 * s + i) k.toNat = true) {J : JT} (hA : AX g l RX10 cX10_kinds 12 3 J) (hR : ReI cX10_kinds (fun v D1 => v = (if ((((0 ≤ s ∧ s ≤ 3) ∧ (0 ≤ n ∧ n ≤ 3)) ∧ (1 ≤ k ∧ k ≤ 10)) ∧ (0 ≤ w ∧ w ≤ 1)) then (if refS (D 295 s) (D 296 s) n i (2 * k) < 0 then refS (D 295 s) (D 296 s) n i (2 * k) else kndA (D 297) (24 * s + i) k w) else -1) ∧ D1 = D) J) : ∀ (fuel : Nat) (st : Int) (kd : Int), (1 ≤ kd ∧ kd ≤ 6) → (st = setOf (kdF (D 297) (24 * s + i) k.toNat) kd.toNat) → 6 - kd < (fuel : Int) → J 121 [vR 283, vI s, vI n, vI i, vI k, vI w, vI y, vI (24 * s + i), vI st, vI kd, vN, vN] [] D := by
  intro fuel
  induction fuel with
  | zero => intro st kd hkd hst hMs; exact absurd hMs (by omega)
  | succ fuel ih =>
    intro st kd hkd hst hMs
    have hr0 := refS_0 hKB.2
    have hq := hla s (by omega) (by omega)
    have hin := setOf_in6 (kdF (D 297) (24 * s + i) k.toNat) rfl kd.toNat (by omega)
    rw [← hst] at hin
    refine q_iload (j := 9) hA rfl dX10_kinds_121 ?_
    refine q_bipush hA (by decide) dX10_kinds_123 ?_
    refine q_icmp_ge (tgt := 222) hA (by omega) (by omega) dX10_kinds_125 (by decide) (fun h125 => ?_) (fun h125 => ?_)
    · refine q_iload (j := 5) hA rfl dX10_kinds_222 ?_
      refine q_if_ne (tgt := 232) hA (by omega) dX10_kinds_224 (by decide) (fun h224 => ?_) (fun h224 => ?_)
      · refine q_aload_n (j := 0) hA rfl dX10_kinds_232 ?_
        refine q_iload (j := 8) hA rfl dX10_kinds_233 ?_
        refine q_callVP (b := 283) (As := [vI st]) (st := []) hA l_X10_281 kX10_tried (zX10_tried (by first | assumption | omega | rfl)) dX10_kinds_235 rfl rfl sx_283 (by decide) rfl (Nat.le_of_ble_eq_true rfl) (by omega) ?_
        refine q_nmI (fun tr etr => ?_)
        exact hR 238 _ _ _ dX10_kinds_238 ⟨(by rw [if_pos hKB.1, if_neg (by omega)]; unfold kndA; rw [if_neg (by rw [hok2]; decide)]; have e : st = stK (D 297) (24 * s + i) k.toNat := (by rw [hst, show kd = 6 by omega]; rfl); rw [← e]; first | rw [if_pos (by omega)] | (rw [if_neg (by omega)]; exact etr)), rfl⟩
      · refine q_iload (j := 8) hA rfl dX10_kinds_227 ?_
        refine q_goto (tgt := 238) hA dX10_kinds_229 (by decide) ?_
        exact hR 238 _ _ _ dX10_kinds_238 ⟨(by rw [if_pos hKB.1, if_neg (by omega)]; unfold kndA; rw [if_neg (by rw [hok2]; decide)]; have e : st = stK (D 297) (24 * s + i) k.toNat := (by rw [hst, show kd = 6 by omega]; rfl); rw [← e]; first | rw [if_pos (by omega)] | (rw [if_neg (by omega)]; exact etr)), rfl⟩
    · refine q_iconst hA dX10_kinds_128 ?_
      refine q_istore (j := 10) (lo2 := [vR 283, vI s, vI n, vI i, vI k, vI w, vI y, vI (24 * s + i), vI st, vI kd, vI 1, vN]) hA dX10_kinds_129 (by decide) rfl rfl ?_
      refine q_iconst hA dX10_kinds_131 ?_
      refine q_istore (j := 11) (lo2 := [vR 283, vI s, vI n, vI i, vI k, vI w, vI y, vI (24 * s + i), vI st, vI kd, vI 1, vI 0]) hA dX10_kinds_132 (by decide) rfl rfl ?_
      refine zX10_kinds_L134 (D := D) (s := s) (n := n) (i := i) (k := k) (w := w) rs rn ri rk rw hla hit hKB hok2 (by omega) hA hR (fun is_ j hj his hx => ?_) 1000 _ _ (by omega) (by rfl) (by omega)
      refine q_iload (j := 8) hA rfl dX10_kinds_198 ?_
      refine q_iload (j := 10) hA rfl dX10_kinds_200 ?_
      have hib2 := b01_in (isM (D 297) kd (24 * s + i) k.toNat)
      rw [← hx] at hib2
      refine q_if_eq (tgt := 212) hA (by omega) dX10_kinds_202 (by decide) (fun h202 => ?_) (fun h202 => ?_)
      · refine q_iconst hA dX10_kinds_212 ?_
        refine q_nmI (fun y2 ey2 => ?_)
        have hyi : 0 ≤ y2 ∧ y2 ≤ 255 := by rw [ey2]; omega
        refine q_ior hA dX10_kinds_213 ?_
        rw [show iOr st y2 = bor st y2 from iOrB (by omega) hyi]
        refine q_istore (j := 8) (lo2 := [vR 283, vI s, vI n, vI i, vI k, vI w, vI y, vI (24 * s + i), vI (bor st y2), vI kd, vI is_, vI j]) hA dX10_kinds_214 (by decide) rfl rfl ?_
        refine q_iinc (j := 9) (lo2 := [vR 283, vI s, vI n, vI i, vI k, vI w, vI y, vI (24 * s + i), vI (bor st y2), vI (kd + 1), vI is_, vI j]) hA dX10_kinds_216 rfl (by decide) rfl rfl ?_
        refine q_goto (tgt := 121) hA dX10_kinds_219 (by decide) ?_
        refine q_fgt (lo2 := [vR 283, vI s, vI n, vI i, vI k, vI w, vI y, vI (24 * s + i), vI (bor st y2), vI (kd + 1), vN, vN]) hA ⟨Or.inr rfl, Or.inr rfl, Or.inr rfl, Or.inr rfl, Or.inr rfl, Or.inr rfl, Or.inr rfl, Or.inr rfl, Or.inr rfl, Or.inr rfl, Or.inl rfl, Or.inl rfl, trivial⟩ ?_
        exact ih _ _ (by omega) (by first | exact kd_1 (by omega) hst hx h202 ey2 | exact kd_0 (by omega) (by omega) hst hx h202 ey2) (by omega)
      · have hpw := pw_8 (k := kd) (by omega)
        refine q_iconst hA dX10_kinds_205 ?_
        refine q_iload (j := 9) hA rfl dX10_kinds_206 ?_
        refine q_ishl hA dX10_kinds_208 ?_
        rw [show iShl 1 kd = pw kd from shl1 (by omega)]
        refine q_goto (tgt := 213) hA dX10_kinds_209 (by decide) ?_
        refine q_nmI (fun y2 ey2 => ?_)
        have hyi : 0 ≤ y2 ∧ y2 ≤ 255 := by rw [ey2]; omega
        refine q_ior hA dX10_kinds_213 ?_
        rw [show iOr st y2 = bor st y2 from iOrB (by omega) hyi]
        refine q_istore (j := 8) (lo2 := [vR 283, vI s, vI n, vI i, vI k, vI w, vI y, vI (24 * s + i), vI (bor st y2), vI kd, vI is_, vI j]) hA dX10_kinds_214 (by decide) rfl rfl ?_
        refine q_iinc (j := 9) (lo2 := [vR 283, vI s, vI n, vI i, vI k, vI w, vI y, vI (24 * s + i), vI (bor st y2), vI (kd + 1), vI is_, vI j]) hA dX10_kinds_216 rfl (by decide) rfl rfl ?_
        refine q_goto (tgt := 121) hA dX10_kinds_219 (by decide) ?_
        refine q_fgt (lo2 := [vR 283, vI s, vI n, vI i, vI k, vI w, vI y, vI (24 * s + i), vI (bor st y2), vI (kd + 1), vN, vN]) hA ⟨Or.inr rfl, Or.inr rfl, Or.inr rfl, Or.inr rfl, Or.inr rfl, Or.inr rfl, Or.inr rfl, Or.inr rfl, Or.inr rfl, Or.inr rfl, Or.inl rfl, Or.inl rfl, trivial⟩ ?_
        exact ih _ _ (by omega) (by first | exact kd_1 (by omega) hst hx h202 ey2 | exact kd_0 (by omega) (by omega) hst hx h202 ey2) (by omega)
set_option maxHeartbeats 4000000 in
set_option maxRecDepth 100000 in
theorem zX10_kinds {g : Gm} {l : Launch} {D : Dat} {s : Int} {n : Int} {i : Int} {k : Int} {w : Int} (rs : -2147483648 ≤ s ∧ s ≤ 2147483647) (rn : -2147483648 ≤ n ∧ n ≤ 2147483647) (ri : -2147483648 ≤ i ∧ i ≤ 2147483647) (rk : -2147483648 ≤ k ∧ k ≤ 2147483647) (rw : -2147483648 ≤ w ∧ w ≤ 2147483647) (hla : ∀ j : Int, 0 ≤ j → j ≤ 3 → (-1 ≤ D 295 j ∧ D 295 j ≤ 3) ∧ (0 ≤ D 296 j ∧ D 296 j ≤ 24)) (hit : ∀ i : Int, 0 ≤ i → i < 96 → -9223372036854775808 ≤ D 297 i ∧ D 297 i ≤ 9223372036854775807) : CrP g l 3 mX10_kinds [vR 283, vI s, vI n, vI i, vI k, vI w] D (if ((((0 ≤ s ∧ s ≤ 3) ∧ (0 ≤ n ∧ n ≤ 3)) ∧ (1 ≤ k ∧ k ≤ 10)) ∧ (0 ≤ w ∧ w ≤ 1)) then (if refS (D 295 s) (D 296 s) n i (2 * k) < 0 then refS (D 295 s) (D 296 s) n i (2 * k) else kndA (D 297) (24 * s + i) k w) else -1) := by
  unfold CrP
  refine Cr.ofI (lo0 := [vR 283, vI s, vI n, vI i, vI k, vI w, vN, vN, vN, vN, vN, vN]) (by decide) (Nat.le_of_ble_eq_true rfl) rfl (fun J hA hR => ?_)
  refine q_iload_n (j := 1) hA rfl dX10_kinds_0 ?_
  refine q_callSB (As := [vI s]) (st := []) hA l_X10_235 kX10_isSheet (zX10_isSheet (by first | assumption | omega | rfl)) dX10_kinds_1 rfl rfl (Nat.le_of_ble_eq_true rfl) (by omega) (fun h1 => ?_) (fun h1 => ?_)
  · refine q_if_eq (tgt := 43) hA (by decide) dX10_kinds_4 (by decide) (fun h4 => absurd h4 (by decide)) (fun h4 => ?_)
    refine q_iload_n (j := 2) hA rfl dX10_kinds_7 ?_
    refine q_i2l hA (by omega) dX10_kinds_8 ?_
    refine q_lconst hA dX10_kinds_9 ?_
    show J _ _ (vL 0 :: _) _
    refine q_ldc2 hA c_X10_233 dX10_kinds_10 ?_
    refine q_callSB (As := [vL n, vL 0, vL 3]) (st := []) hA l_X10_77 kX10_in (zX10_in (by first | assumption | omega | rfl) (by first | assumption | omega | rfl) (by first | assumption | omega | rfl)) dX10_kinds_13 rfl rfl (Nat.le_of_ble_eq_true rfl) (by omega) (fun h13 => ?_) (fun h13 => ?_)
    · refine q_if_eq (tgt := 43) hA (by decide) dX10_kinds_16 (by decide) (fun h16 => absurd h16 (by decide)) (fun h16 => ?_)
      refine q_iload (j := 4) hA rfl dX10_kinds_19 ?_
      refine q_i2l hA (by omega) dX10_kinds_21 ?_
      refine q_lconst hA dX10_kinds_22 ?_
      show J _ _ (vL 1 :: _) _
      refine q_ldc2 hA c_X10_199 dX10_kinds_23 ?_
      refine q_callSB (As := [vL k, vL 1, vL 10]) (st := []) hA l_X10_77 kX10_in (zX10_in (by first | assumption | omega | rfl) (by first | assumption | omega | rfl) (by first | assumption | omega | rfl)) dX10_kinds_26 rfl rfl (Nat.le_of_ble_eq_true rfl) (by omega) (fun h26 => ?_) (fun h26 => ?_)
      · refine q_if_eq (tgt := 43) hA (by decide) dX10_kinds_29 (by decide) (fun h29 => absurd h29 (by decide)) (fun h29 => ?_)
        refine q_iload (j := 5) hA rfl dX10_kinds_32 ?_
        refine q_i2l hA (by omega) dX10_kinds_34 ?_
        refine q_lconst hA dX10_kinds_35 ?_
        show J _ _ (vL 0 :: _) _
        refine q_lconst hA dX10_kinds_36 ?_
        show J _ _ (vL 1 :: _) _
        refine q_callSB (As := [vL w, vL 0, vL 1]) (st := []) hA l_X10_77 kX10_in (zX10_in (by first | assumption | omega | rfl) (by first | assumption | omega | rfl) (by first | assumption | omega | rfl)) dX10_kinds_37 rfl rfl (Nat.le_of_ble_eq_true rfl) (by omega) (fun h37 => ?_) (fun h37 => ?_)
        · refine q_if_ne (tgt := 45) hA (by decide) dX10_kinds_40 (by decide) (fun h40 => ?_) (fun h40 => absurd h40 (by decide))
          refine q_aload_n (j := 0) hA rfl dX10_kinds_45 ?_
          refine q_iload_n (j := 1) hA rfl dX10_kinds_46 ?_
          refine q_iload_n (j := 2) hA rfl dX10_kinds_47 ?_
          refine q_iload_n (j := 3) hA rfl dX10_kinds_48 ?_
          refine q_iconst hA dX10_kinds_49 ?_
          refine q_iload (j := 4) hA rfl dX10_kinds_50 ?_
          refine q_imul hA dX10_kinds_52 ?_
          refine q_callVP (b := 283) (As := [vI s, vI n, vI i, vI (2 * k)]) (st := []) hA l_X10_240 kX10_why (zX10_why (by first | assumption | omega | rfl) (by first | assumption | omega | rfl) (by first | assumption | omega | rfl) (by first | assumption | omega | rfl) (by first | assumption | omega | rfl)) dX10_kinds_53 rfl rfl sx_283 (by decide) rfl (Nat.le_of_ble_eq_true rfl) (by omega) ?_
          refine q_nmI (fun y ey => ?_)
          have hw := refS_in (D 295 s) (D 296 s) n i (2 * k)
          rw [← ey] at hw
          refine q_istore (j := 6) (lo2 := [vR 283, vI s, vI n, vI i, vI k, vI w, vI y, vN, vN, vN, vN, vN]) hA dX10_kinds_56 (by decide) rfl rfl ?_
          refine q_iload (j := 6) hA rfl dX10_kinds_58 ?_
          refine q_if_ge (tgt := 66) hA (by omega) dX10_kinds_60 (by decide) (fun h60 => ?_) (fun h60 => ?_)
          · refine q_bipush hA (by decide) dX10_kinds_66 ?_
            refine q_iload_n (j := 1) hA rfl dX10_kinds_68 ?_
            refine q_imul hA dX10_kinds_69 ?_
            refine q_iload_n (j := 3) hA rfl dX10_kinds_70 ?_
            refine q_iadd hA dX10_kinds_71 ?_
            refine q_istore (j := 7) (lo2 := [vR 283, vI s, vI n, vI i, vI k, vI w, vI y, vI ((24 * s) + i), vN, vN, vN, vN]) hA dX10_kinds_72 (by decide) rfl rfl ?_
            have hKB : (((((0 ≤ s ∧ s ≤ 3) ∧ (0 ≤ n ∧ n ≤ 3)) ∧ (1 ≤ k ∧ k ≤ 10)) ∧ (0 ≤ w ∧ w ≤ 1)) ∧ refS (D 295 s) (D 296 s) n i (2 * k) = 0) := ⟨by omega, by rw [← ey]; omega⟩
            refine q_iconst hA dX10_kinds_74 ?_
            refine q_istore (j := 8) (lo2 := [vR 283, vI s, vI n, vI i, vI k, vI w, vI y, vI ((24 * s) + i), vI 0, vN, vN, vN]) hA dX10_kinds_75 (by decide) rfl rfl ?_
            refine zX10_kinds_L77 (D := D) (s := s) (n := n) (i := i) (k := k) (w := w) rs rn ri rk rw hla hit hKB hA hR (fun j hj ho hok2 => ?_) 1000 _ (by omega) (by rfl) (by omega)
            refine q_iconst hA dX10_kinds_115 ?_
            refine q_istore (j := 8) (lo2 := [vR 283, vI s, vI n, vI i, vI k, vI w, vI y, vI (24 * s + i), vI 0, vN, vN, vN]) hA dX10_kinds_116 (by decide) rfl rfl ?_
            refine q_iconst hA dX10_kinds_118 ?_
            refine q_istore (j := 9) (lo2 := [vR 283, vI s, vI n, vI i, vI k, vI w, vI y, vI (24 * s + i), vI 0, vI 1, vN, vN]) hA dX10_kinds_119 (by decide) rfl rfl ?_
            refine zX10_kinds_L121 (D := D) (s := s) (n := n) (i := i) (k := k) (w := w) rs rn ri rk rw hla hit hKB hok2 hA hR 1000 _ _ (by omega) (by rfl) (by omega)
          · refine q_iload (j := 6) hA rfl dX10_kinds_63 ?_
            exact hR 65 _ _ _ dX10_kinds_65 ⟨(by rw [if_pos (by omega), if_pos (by omega)]; exact ey), rfl⟩
        · refine q_if_ne (tgt := 45) hA (by decide) dX10_kinds_40 (by decide) (fun h40 => absurd h40 (by decide)) (fun h40 => ?_)
          refine q_iconst hA dX10_kinds_43 ?_
          exact hR 44 _ _ _ dX10_kinds_44 ⟨(by rw [if_neg (by omega)]), rfl⟩
      · refine q_if_eq (tgt := 43) hA (by decide) dX10_kinds_29 (by decide) (fun h29 => ?_) (fun h29 => absurd h29 (by decide))
        refine q_iconst hA dX10_kinds_43 ?_
        exact hR 44 _ _ _ dX10_kinds_44 ⟨(by rw [if_neg (by omega)]), rfl⟩
    · refine q_if_eq (tgt := 43) hA (by decide) dX10_kinds_16 (by decide) (fun h16 => ?_) (fun h16 => absurd h16 (by decide))
      refine q_iconst hA dX10_kinds_43 ?_
      exact hR 44 _ _ _ dX10_kinds_44 ⟨(by rw [if_neg (by omega)]), rfl⟩
  · refine q_if_eq (tgt := 43) hA (by decide) dX10_kinds_4 (by decide) (fun h4 => ?_) (fun h4 => absurd h4 (by decide))
    refine q_iconst hA dX10_kinds_43 ?_
    exact hR 44 _ _ _ dX10_kinds_44 ⟨(by rw [if_neg (by omega)]), rfl⟩
