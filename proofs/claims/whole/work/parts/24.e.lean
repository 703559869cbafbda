set_option maxHeartbeats 4000000 in
set_option maxRecDepth 100000 in
theorem zX1_goOn {g : Gm} {l : Launch} {D : Dat} {k : Int} {m : Int} (hk : 1 ≤ k ∧ k ≤ 6) (hm : 0 ≤ m ∧ m ≤ 2) (hp : pOk (rowX D (stGo k.toNat))) : CrV g l 5 mX1_goOn [vR 196, vI k, vI m] D (fun D1 => rowX D1 (stGo (k - 1).toNat) = goR (rowX D (stGo k.toNat)) m ∧ frm (stGo (k - 1).toNat) 7 D D1) := by
  refine Cr.ofV (lo0 := [vR 196, vI k, vI m]) (by decide) (Nat.le_of_ble_eq_true rfl) rfl (fun J hA hR => ?_)
  have hza := hGo (k := k) (by omega)
  have hzb := hGo (k := k - 1) (by omega)
  have hne : stGo (k - 1).toNat ≠ stGo k.toNat := by unfold stGo; omega
  refine q_iload_n (j := 1) hA rfl dX1_goOn_0 ?_
  refine q_if_le (tgt := 42) hA (by omega) dX1_goOn_1 (by decide) (fun h1 => absurd h1 (by omega)) (fun h1 => ?_)
  refine q_iload_n (j := 1) hA rfl dX1_goOn_4 ?_
  refine q_aload_n (j := 0) hA rfl dX1_goOn_5 ?_
  refine q_getR hA f_X1_11 dX1_goOn_6 sx_196 (by decide) fx_196_0 ?_
  refine q_alen hA (Or.inr (Or.inr rfl)) dX1_goOn_9 sx_197 ?_
  show J _ _ (vI 7 :: _) _
  refine q_icmp_ge (tgt := 42) hA (by omega) (by omega) dX1_goOn_10 (by decide) (fun h10 => absurd h10 (by omega)) (fun h10 => ?_)
  refine q_aload_n (j := 0) hA rfl dX1_goOn_13 ?_
  refine q_getR hA f_X1_11 dX1_goOn_14 sx_196 (by decide) fx_196_0 ?_
  refine q_iload_n (j := 1) hA rfl dX1_goOn_17 ?_
  refine q_iconst hA dX1_goOn_18 ?_
  refine q_isub hA dX1_goOn_19 ?_
  refine q_aald (b := stGo (k - 1).toNat) hA (Or.inl rfl) dX1_goOn_20 sx_197 (by omega) (by decide) hzb.1 ?_
  refine q_aload_n (j := 0) hA rfl dX1_goOn_21 ?_
  refine q_getR hA f_X1_11 dX1_goOn_22 sx_196 (by decide) fx_196_0 ?_
  refine q_iload_n (j := 1) hA rfl dX1_goOn_25 ?_
  refine q_aald (b := stGo k.toNat) hA (Or.inl rfl) dX1_goOn_26 sx_197 (by omega) (by decide) hza.1 ?_
  refine q_callVV (b := stGo (k - 1).toNat) (As := [vR (stGo k.toNat)]) (st := []) hA l_X1_18 kX7_takeFrom (zX7_takeFrom hzb.2 hza.2 hne) dX1_goOn_27 rfl rfl (strS hzb.2) (by decide) rfl (Nat.le_of_ble_eq_true rfl) (by omega) (fun D27 q27 => ?_)
  have hp2 : pOk (rowX D27 (stGo (k - 1).toNat)) := by rw [q27.1]; exact hp
  refine q_aload_n (j := 0) hA rfl dX1_goOn_30 ?_
  refine q_getR hA f_X1_11 dX1_goOn_31 sx_196 (by decide) fx_196_0 ?_
  refine q_iload_n (j := 1) hA rfl dX1_goOn_34 ?_
  refine q_iconst hA dX1_goOn_35 ?_
  refine q_isub hA dX1_goOn_36 ?_
  refine q_aald (b := stGo (k - 1).toNat) hA (Or.inl rfl) dX1_goOn_37 sx_197 (by omega) (by decide) hzb.1 ?_
  refine q_iload_n (j := 2) hA rfl dX1_goOn_38 ?_
  refine q_callVV (b := stGo (k - 1).toNat) (As := [vI m]) (st := []) hA l_X1_54 kX7_go (zX7_go hzb.2 hp2.s hm hp2.f hp2.b) dX1_goOn_39 rfl rfl (strS hzb.2) (by decide) rfl (Nat.le_of_ble_eq_true rfl) (by omega) (fun D39 q39 => ?_)
  exact hR 42 _ _ dX1_goOn_42 ⟨(by rw [q39.1, q27.1]), q27.2.tr q39.2⟩
set_option maxHeartbeats 4000000 in
set_option maxRecDepth 100000 in
theorem zX1_parts_L38 {g : Gm} {l : Launch} {D : Dat} {k : Int} {p : Int} {q : Int} {e : Nat} (he : 6 ≤ e) (hk : 0 ≤ k ∧ k ≤ 6) (hpp : 0 ≤ p ∧ p < 8) (hq : 0 ≤ q ∧ q ≤ 10) (hp : pOk (rowX D (stGo k.toNat))) (ih0 : ∀ (E : Dat), 1 ≤ k → pOk (rowX E (stGo (k - 1).toNat)) → CrI g l e mX1_parts [vR 196, vI (k - 1), vI p, vI q] E (fun v D1 => v = partsR p q (k - 1).toNat (rowX E (stGo (k - 1).toNat)) ∧ frm 198 (7 * (k - 1).toNat) E D1))  (hk1 : 1 ≤ k) {J : JT} (hA : AX g l RX1 cX1_parts 7 (e + 1) J) (hR : ReI cX1_parts (fun v D1 => v = partsR p q k.toNat (rowX D (stGo k.toNat)) ∧ frm 198 (7 * k.toNat) D D1) J) : ∀ (fuel : Nat) (acc : Int) (s : Int) (E : Dat), (0 ≤ s ∧ s ≤ 2) → (rowX E (stGo k.toNat) = rowX D (stGo k.toNat)) → (frm 198 (7 * k.toNat) D E) → (acc = pS (partT p q (k - 1).toNat (rowX D (stGo k.toNat))) s) → 2 - s < (fuel : Int) → J 38 [vR 196, vI k, vI p, vI q, vI acc, vI s, vN] [] E := by
  intro fuel
  induction fuel with
  | zero => intro acc s E hs hr hf hv hMs; exact absurd hMs (by omega)
  | succ fuel ih =>
    intro acc s E hs hr hf hv hMs
    have hza := hGo (k := k) (by omega)
    have hzb := hGo (k := k - 1) (by omega)
    have hpE : pOk (rowX E (stGo k.toNat)) := by rw [hr]; exact hp
    refine q_iload (j := 5) hA rfl dX1_parts_38 ?_
    refine q_iconst hA dX1_parts_40 ?_
    refine q_icmp_gt (tgt := 112) hA (by omega) (by omega) dX1_parts_41 (by decide) (fun h41 => ?_) (fun h41 => ?_)
    · refine q_iload (j := 4) hA rfl dX1_parts_112 ?_
      exact hR 114 _ _ _ dX1_parts_114 ⟨(by rw [hv, show s = 2 by omega, partsR_pS hk1]), hf⟩
    · refine q_iload (j := 5) hA rfl dX1_parts_44 ?_
      refine q_if_ne (tgt := 53) hA (by omega) dX1_parts_46 (by decide) (fun h46 => ?_) (fun h46 => ?_)
      · refine q_bipush hA (by decide) dX1_parts_53 ?_
        refine q_iload_n (j := 3) hA rfl dX1_parts_55 ?_
        refine q_isub hA dX1_parts_56 ?_
        refine q_nmI (fun w ew => ?_)
        refine q_istore (j := 6) (lo2 := [vR 196, vI k, vI p, vI q, vI acc, vI s, vI w]) hA dX1_parts_57 (by decide) rfl rfl ?_
        have hw : w = wtq q s := by unfold wtq; rw [ew]; first | rw [if_pos (by omega)] | rw [if_neg (by omega)]
        refine q_iload (j := 6) hA rfl dX1_parts_59 ?_
        refine q_if_le (tgt := 106) hA (by omega) dX1_parts_61 (by decide) (fun h61 => ?_) (fun h61 => ?_)
        · refine q_iinc (j := 5) (lo2 := [vR 196, vI k, vI p, vI q, vI acc, vI (s + 1), vI w]) hA dX1_parts_106 rfl (by decide) rfl rfl ?_
          refine q_goto (tgt := 38) hA dX1_parts_109 (by decide) ?_
          refine q_fgt (lo2 := [vR 196, vI k, vI p, vI q, vI acc, vI (s + 1), vN]) hA ⟨Or.inr rfl, Or.inr rfl, Or.inr rfl, Or.inr rfl, Or.inr rfl, Or.inr rfl, Or.inl rfl, trivial⟩ ?_
          exact ih _ _ _ (by omega) (by first | (rw [frm.row q99.2 (by unfold stGo; omega), frm.row q86.2 (by unfold stGo; omega)]; exact hr) | exact hr) (by first | exact fun c c1 => (q99.2 c (by omega)).trans ((q86.2 c (by unfold stGo; omega)).trans (hf c c1)) | exact hf) (by rw [pS_step (by omega), ← hv]; unfold partT; rw [← hw]; first | (rw [if_pos (by omega), q99.1, q86.1, hr]; unfold mvR; first | rw [if_pos (by rw [← hr]; exact h74)] | rw [if_neg (by rw [← hr]; exact h74)]) | (rw [if_neg (by omega), Int.add_zero])) (by omega)
        · refine q_aload_n (j := 0) hA rfl dX1_parts_64 ?_
          refine q_iload_n (j := 1) hA rfl dX1_parts_65 ?_
          refine q_aload_n (j := 0) hA rfl dX1_parts_66 ?_
          refine q_getR hA f_X1_11 dX1_parts_67 sx_196 (by decide) fx_196_0 ?_
          refine q_iload_n (j := 1) hA rfl dX1_parts_70 ?_
          refine q_aald (b := stGo k.toNat) hA (Or.inl rfl) dX1_parts_71 sx_197 (by omega) (by decide) hza.1 ?_
          refine q_iload (j := 5) hA rfl dX1_parts_72 ?_
          refine q_callVB (b := stGo k.toNat) (As := [vI s]) (st := [vI k, vR 196]) hA l_X1_30 kX7_mayDo (zX7_mayDo hza.2 hpE.s (by omega) hpE.f hpE.b) dX1_parts_74 rfl rfl (strS hza.2) (by decide) rfl (Nat.le_of_ble_eq_true rfl) (by omega) (fun h74 => ?_) (fun h74 => ?_)
          · refine q_if_eq (tgt := 85) hA (by decide) dX1_parts_77 (by decide) (fun h77 => absurd h77 (by decide)) (fun h77 => ?_)
            refine q_iload (j := 5) hA rfl dX1_parts_80 ?_
            refine q_goto (tgt := 86) hA dX1_parts_82 (by decide) ?_
            refine q_callVV (b := 196) (As := [vI k, vI s]) (st := []) hA l_X1_34 kX1_goOn (zX1_goOn (by omega) (by omega) hpE) dX1_parts_86 rfl rfl sx_196 (by decide) rfl (Nat.le_of_ble_eq_true rfl) (by omega) (fun D86 q86 => ?_)
            have hpG : pOk (rowX D86 (stGo (k - 1).toNat)) := by rw [q86.1]; exact (goR_ok hpE).1
            refine q_iload (j := 4) hA rfl dX1_parts_89 ?_
            refine q_iload (j := 6) hA rfl dX1_parts_91 ?_
            refine q_aload_n (j := 0) hA rfl dX1_parts_93 ?_
            refine q_iload_n (j := 1) hA rfl dX1_parts_94 ?_
            refine q_iconst hA dX1_parts_95 ?_
            refine q_isub hA dX1_parts_96 ?_
            refine q_iload_n (j := 2) hA rfl dX1_parts_97 ?_
            refine q_iload_n (j := 3) hA rfl dX1_parts_98 ?_
            refine q_callVI (b := 196) (As := [vI (k - 1), vI p, vI q]) (st := [vI w, vI acc]) hA l_X1_22 kX1_parts (ih0 D86 (by omega) hpG) dX1_parts_99 rfl rfl sx_196 (by decide) rfl (Nat.le_of_ble_eq_true rfl) (by omega) (fun v D99 q99 => ?_)
            refine q_imul hA dX1_parts_102 ?_
            refine q_iadd hA dX1_parts_103 ?_
            refine q_istore (j := 4) (lo2 := [vR 196, vI k, vI p, vI q, vI (acc + (w * v)), vI s, vI w]) hA dX1_parts_104 (by decide) rfl rfl ?_
            refine q_iinc (j := 5) (lo2 := [vR 196, vI k, vI p, vI q, vI (acc + (w * v)), vI (s + 1), vI w]) hA dX1_parts_106 rfl (by decide) rfl rfl ?_
            refine q_goto (tgt := 38) hA dX1_parts_109 (by decide) ?_
            refine q_fgt (lo2 := [vR 196, vI k, vI p, vI q, vI (acc + (w * v)), vI (s + 1), vN]) hA ⟨Or.inr rfl, Or.inr rfl, Or.inr rfl, Or.inr rfl, Or.inr rfl, Or.inr rfl, Or.inl rfl, trivial⟩ ?_
            exact ih _ _ _ (by omega) (by first | (rw [frm.row q99.2 (by unfold stGo; omega), frm.row q86.2 (by unfold stGo; omega)]; exact hr) | exact hr) (by first | exact fun c c1 => (q99.2 c (by omega)).trans ((q86.2 c (by unfold stGo; omega)).trans (hf c c1)) | exact hf) (by rw [pS_step (by omega), ← hv]; unfold partT; rw [← hw]; first | (rw [if_pos (by omega), q99.1, q86.1, hr]; unfold mvR; first | rw [if_pos (by rw [← hr]; exact h74)] | rw [if_neg (by rw [← hr]; exact h74)]) | (rw [if_neg (by omega), Int.add_zero])) (by omega)
          · refine q_if_eq (tgt := 85) hA (by decide) dX1_parts_77 (by decide) (fun h77 => ?_) (fun h77 => absurd h77 (by decide))
            refine q_iconst hA dX1_parts_85 ?_
            refine q_callVV (b := 196) (As := [vI k, vI 2]) (st := []) hA l_X1_34 kX1_goOn (zX1_goOn (by omega) (by omega) hpE) dX1_parts_86 rfl rfl sx_196 (by decide) rfl (Nat.le_of_ble_eq_true rfl) (by omega) (fun D86 q86 => ?_)
            have hpG : pOk (rowX D86 (stGo (k - 1).toNat)) := by rw [q86.1]; exact (goR_ok hpE).1
            refine q_iload (j := 4) hA rfl dX1_parts_89 ?_
            refine q_iload (j := 6) hA rfl dX1_parts_91 ?_
            refine q_aload_n (j := 0) hA rfl dX1_parts_93 ?_
            refine q_iload_n (j := 1) hA rfl dX1_parts_94 ?_
            refine q_iconst hA dX1_parts_95 ?_
            refine q_isub hA dX1_parts_96 ?_
            refine q_iload_n (j := 2) hA rfl dX1_parts_97 ?_
            refine q_iload_n (j := 3) hA rfl dX1_parts_98 ?_
            refine q_callVI (b := 196) (As := [vI (k - 1), vI p, vI q]) (st := [vI w, vI acc]) hA l_X1_22 kX1_parts (ih0 D86 (by omega) hpG) dX1_parts_99 rfl rfl sx_196 (by decide) rfl (Nat.le_of_ble_eq_true rfl) (by omega) (fun v D99 q99 => ?_)
            refine q_imul hA dX1_parts_102 ?_
            refine q_iadd hA dX1_parts_103 ?_
            refine q_istore (j := 4) (lo2 := [vR 196, vI k, vI p, vI q, vI (acc + (w * v)), vI s, vI w]) hA dX1_parts_104 (by decide) rfl rfl ?_
            refine q_iinc (j := 5) (lo2 := [vR 196, vI k, vI p, vI q, vI (acc + (w * v)), vI (s + 1), vI w]) hA dX1_parts_106 rfl (by decide) rfl rfl ?_
            refine q_goto (tgt := 38) hA dX1_parts_109 (by decide) ?_
            refine q_fgt (lo2 := [vR 196, vI k, vI p, vI q, vI (acc + (w * v)), vI (s + 1), vN]) hA ⟨Or.inr rfl, Or.inr rfl, Or.inr rfl, Or.inr rfl, Or.inr rfl, Or.inr rfl, Or.inl rfl, trivial⟩ ?_
            exact ih _ _ _ (by omega) (by first | (rw [frm.row q99.2 (by unfold stGo; omega), frm.row q86.2 (by unfold stGo; omega)]; exact hr) | exact hr) (by first | exact fun c c1 => (q99.2 c (by omega)).trans ((q86.2 c (by unfold stGo; omega)).trans (hf c c1)) | exact hf) (by rw [pS_step (by omega), ← hv]; unfold partT; rw [← hw]; first | (rw [if_pos (by omega), q99.1, q86.1, hr]; unfold mvR; first | rw [if_pos (by rw [← hr]; exact h74)] | rw [if_neg (by rw [← hr]; exact h74)]) | (rw [if_neg (by omega), Int.add_zero])) (by omega)
      · refine q_iload_n (j := 3) hA rfl dX1_parts_49 ?_
        refine q_goto (tgt := 57) hA dX1_parts_50 (by decide) ?_
        refine q_nmI (fun w ew => ?_)
        refine q_istore (j := 6) (lo2 := [vR 196, vI k, vI p, vI q, vI acc, vI s, vI w]) hA dX1_parts_57 (by decide) rfl rfl ?_
        have hw : w = wtq q s := by unfold wtq; rw [ew]; first | rw [if_pos (by omega)] | rw [if_neg (by omega)]
        refine q_iload (j := 6) hA rfl dX1_parts_59 ?_
        refine q_if_le (tgt := 106) hA (by omega) dX1_parts_61 (by decide) (fun h61 => ?_) (fun h61 => ?_)
        · refine q_iinc (j := 5) (lo2 := [vR 196, vI k, vI p, vI q, vI acc, vI (s + 1), vI w]) hA dX1_parts_106 rfl (by decide) rfl rfl ?_
          refine q_goto (tgt := 38) hA dX1_parts_109 (by decide) ?_
          refine q_fgt (lo2 := [vR 196, vI k, vI p, vI q, vI acc, vI (s + 1), vN]) hA ⟨Or.inr rfl, Or.inr rfl, Or.inr rfl, Or.inr rfl, Or.inr rfl, Or.inr rfl, Or.inl rfl, trivial⟩ ?_
          exact ih _ _ _ (by omega) (by first | (rw [frm.row q99.2 (by unfold stGo; omega), frm.row q86.2 (by unfold stGo; omega)]; exact hr) | exact hr) (by first | exact fun c c1 => (q99.2 c (by omega)).trans ((q86.2 c (by unfold stGo; omega)).trans (hf c c1)) | exact hf) (by rw [pS_step (by omega), ← hv]; unfold partT; rw [← hw]; first | (rw [if_pos (by omega), q99.1, q86.1, hr]; unfold mvR; first | rw [if_pos (by rw [← hr]; exact h74)] | rw [if_neg (by rw [← hr]; exact h74)]) | (rw [if_neg (by omega), Int.add_zero])) (by omega)
        · refine q_aload_n (j := 0) hA rfl dX1_parts_64 ?_
          refine q_iload_n (j := 1) hA rfl dX1_parts_65 ?_
          refine q_aload_n (j := 0) hA rfl dX1_parts_66 ?_
          refine q_getR hA f_X1_11 dX1_parts_67 sx_196 (by decide) fx_196_0 ?_
          refine q_iload_n (j := 1) hA rfl dX1_parts_70 ?_
          refine q_aald (b := stGo k.toNat) hA (Or.inl rfl) dX1_parts_71 sx_197 (by omega) (by decide) hza.1 ?_
          refine q_iload (j := 5) hA rfl dX1_parts_72 ?_
          refine q_callVB (b := stGo k.toNat) (As := [vI s]) (st := [vI k, vR 196]) hA l_X1_30 kX7_mayDo (zX7_mayDo hza.2 hpE.s (by omega) hpE.f hpE.b) dX1_parts_74 rfl rfl (strS hza.2) (by decide) rfl (Nat.le_of_ble_eq_true rfl) (by omega) (fun h74 => ?_) (fun h74 => ?_)
          · refine q_if_eq (tgt := 85) hA (by decide) dX1_parts_77 (by decide) (fun h77 => absurd h77 (by decide)) (fun h77 => ?_)
            refine q_iload (j := 5) hA rfl dX1_parts_80 ?_
            refine q_goto (tgt := 86) hA dX1_parts_82 (by decide) ?_
            refine q_callVV (b := 196) (As := [vI k, vI s]) (st := []) hA l_X1_34 kX1_goOn (zX1_goOn (by omega) (by omega) hpE) dX1_parts_86 rfl rfl sx_196 (by decide) rfl (Nat.le_of_ble_eq_true rfl) (by omega) (fun D86 q86 => ?_)
            have hpG : pOk (rowX D86 (stGo (k - 1).toNat)) := by rw [q86.1]; exact (goR_ok hpE).1
            refine q_iload (j := 4) hA rfl dX1_parts_89 ?_
            refine q_iload (j := 6) hA rfl dX1_parts_91 ?_
            refine q_aload_n (j := 0) hA rfl dX1_parts_93 ?_
            refine q_iload_n (j := 1) hA rfl dX1_parts_94 ?_
            refine q_iconst hA dX1_parts_95 ?_
            refine q_isub hA dX1_parts_96 ?_
            refine q_iload_n (j := 2) hA rfl dX1_parts_97 ?_
            refine q_iload_n (j := 3) hA rfl dX1_parts_98 ?_
            refine q_callVI (b := 196) (As := [vI (k - 1), vI p, vI q]) (st := [vI w, vI acc]) hA l_X1_22 kX1_parts (ih0 D86 (by omega) hpG) dX1_parts_99 rfl rfl sx_196 (by decide) rfl (Nat.le_of_ble_eq_true rfl) (by omega) (fun v D99 q99 => ?_)
            refine q_imul hA dX1_parts_102 ?_
            refine q_iadd hA dX1_parts_103 ?_
            refine q_istore (j := 4) (lo2 := [vR 196, vI k, vI p, vI q, vI (acc + (w * v)), vI s, vI w]) hA dX1_parts_104 (by decide) rfl rfl ?_
            refine q_iinc (j := 5) (lo2 := [vR 196, vI k, vI p, vI q, vI (acc + (w * v)), vI (s + 1), vI w]) hA dX1_parts_106 rfl (by decide) rfl rfl ?_
            refine q_goto (tgt := 38) hA dX1_parts_109 (by decide) ?_
            refine q_fgt (lo2 := [vR 196, vI k, vI p, vI q, vI (acc + (w * v)), vI (s + 1), vN]) hA ⟨Or.inr rfl, Or.inr rfl, Or.inr rfl, Or.inr rfl, Or.inr rfl, Or.inr rfl, Or.inl rfl, trivial⟩ ?_
            exact ih _ _ _ (by omega) (by first | (rw [frm.row q99.2 (by unfold stGo; omega), frm.row q86.2 (by unfold stGo; omega)]; exact hr) | exact hr) (by first | exact fun c c1 => (q99.2 c (by omega)).trans ((q86.2 c (by unfold stGo; omega)).trans (hf c c1)) | exact hf) (by rw [pS_step (by omega), ← hv]; unfold partT; rw [← hw]; first | (rw [if_pos (by omega), q99.1, q86.1, hr]; unfold mvR; first | rw [if_pos (by rw [← hr]; exact h74)] | rw [if_neg (by rw [← hr]; exact h74)]) | (rw [if_neg (by omega), Int.add_zero])) (by omega)
          · refine q_if_eq (tgt := 85) hA (by decide) dX1_parts_77 (by decide) (fun h77 => ?_) (fun h77 => absurd h77 (by decide))
            refine q_iconst hA dX1_parts_85 ?_
            refine q_callVV (b := 196) (As := [vI k, vI 2]) (st := []) hA l_X1_34 kX1_goOn (zX1_goOn (by omega) (by omega) hpE) dX1_parts_86 rfl rfl sx_196 (by decide) rfl (Nat.le_of_ble_eq_true rfl) (by omega) (fun D86 q86 => ?_)
            have hpG : pOk (rowX D86 (stGo (k - 1).toNat)) := by rw [q86.1]; exact (goR_ok hpE).1
            refine q_iload (j := 4) hA rfl dX1_parts_89 ?_
            refine q_iload (j := 6) hA rfl dX1_parts_91 ?_
            refine q_aload_n (j := 0) hA rfl dX1_parts_93 ?_
            refine q_iload_n (j := 1) hA rfl dX1_parts_94 ?_
            refine q_iconst hA dX1_parts_95 ?_
            refine q_isub hA dX1_parts_96 ?_
            refine q_iload_n (j := 2) hA rfl dX1_parts_97 ?_
            refine q_iload_n (j := 3) hA rfl dX1_parts_98 ?_
            refine q_callVI (b := 196) (As := [vI (k - 1), vI p, vI q]) (st := [vI w, vI acc]) hA l_X1_22 kX1_parts (ih0 D86 (by omega) hpG) dX1_parts_99 rfl rfl sx_196 (by decide) rfl (Nat.le_of_ble_eq_true rfl) (by omega) (fun v D99 q99 => ?_)
            refine q_imul hA dX1_parts_102 ?_
            refine q_iadd hA dX1_parts_103 ?_
            refine q_istore (j := 4) (lo2 := [vR 196, vI k, vI p, vI q, vI (acc + (w * v)), vI s, vI w]) hA dX1_parts_104 (by decide) rfl rfl ?_
            refine q_iinc (j := 5) (lo2 := [vR 196, vI k, vI p, vI q, vI (acc + (w * v)), vI (s + 1), vI w]) hA dX1_parts_106 rfl (by decide) rfl rfl ?_
            refine q_goto (tgt := 38) hA dX1_parts_109 (by decide) ?_
            refine q_fgt (lo2 := [vR 196, vI k, vI p, vI q, vI (acc + (w * v)), vI (s + 1), vN]) hA ⟨Or.inr rfl, Or.inr rfl, Or.inr rfl, Or.inr rfl, Or.inr rfl, Or.inr rfl, Or.inl rfl, trivial⟩ ?_
            exact ih _ _ _ (by omega) (by first | (rw [frm.row q99.2 (by unfold stGo; omega), frm.row q86.2 (by unfold stGo; omega)]; exact hr) | exact hr) (by first | exact fun c c1 => (q99.2 c (by omega)).trans ((q86.2 c (by unfold stGo; omega)).trans (hf c c1)) | exact hf) (by rw [pS_step (by omega), ← hv]; unfold partT; rw [← hw]; first | (rw [if_pos (by omega), q99.1, q86.1, hr]; unfold mvR; first | rw [if_pos (by rw [← hr]; exact h74)] | rw [if_neg (by rw [← hr]; exact h74)]) | (rw [if_neg (by omega), Int.add_zero])) (by omega)
set_option maxHeartbeats 4000000 in
set_option maxRecDepth 100000 in
theorem zX1_parts_step {g : Gm} {l : Launch} {D : Dat} {k : Int} {p : Int} {q : Int} {e : Nat} (he : 6 ≤ e) (hk : 0 ≤ k ∧ k ≤ 6) (hpp : 0 ≤ p ∧ p < 8) (hq : 0 ≤ q ∧ q ≤ 10) (hp : pOk (rowX D (stGo k.toNat))) (ih0 : ∀ (E : Dat), 1 ≤ k → pOk (rowX E (stGo (k - 1).toNat)) → CrI g l e mX1_parts [vR 196, vI (k - 1), vI p, vI q] E (fun v D1 => v = partsR p q (k - 1).toNat (rowX E (stGo (k - 1).toNat)) ∧ frm 198 (7 * (k - 1).toNat) E D1)) : CrI g l (e + 1) mX1_parts [vR 196, vI k, vI p, vI q] D (fun v D1 => v = partsR p q k.toNat (rowX D (stGo k.toNat)) ∧ frm 198 (7 * k.toNat) D D1) := by
  refine Cr.ofI (lo0 := [vR 196, vI k, vI p, vI q, vN, vN, vN]) (by decide) (Nat.le_of_ble_eq_true rfl) rfl (fun J hA hR => ?_)
  refine q_iload_n (j := 1) hA rfl dX1_parts_0 ?_
  refine q_if_le (tgt := 13) hA (by omega) dX1_parts_1 (by decide) (fun h1 => ?_) (fun h1 => ?_)
  · have hk0 : k = 0 := by omega
    subst hk0
    have hfr := (show sOk D 198 from hp.s).f
    refine q_aload_n (j := 0) hA rfl dX1_parts_13 ?_
    refine q_getR hA f_X1_11 dX1_parts_14 sx_196 (by decide) fx_196_0 ?_
    refine q_iconst hA dX1_parts_17 ?_
    refine q_aald (b := 198) hA (Or.inl rfl) dX1_parts_18 sx_197 (by omega) (by decide) (by decide +kernel) ?_
    refine q_getI (x := D 198 7) hA f_X1_26 dX1_parts_19 (strS isS198) (by decide) rfl ?_
    refine q_iload_n (j := 2) hA rfl dX1_parts_22 ?_
    refine q_icmp_ne (tgt := 30) hA (by omega) (by omega) dX1_parts_23 (by decide) (fun h23 => ?_) (fun h23 => ?_)
    · refine q_iconst hA dX1_parts_30 ?_
      exact hR 31 _ _ _ dX1_parts_31 ⟨(by show _ = partsR p q 0 _; rw [partsR]; first | rw [if_pos (by show D 198 7 = p; omega)] | rw [if_neg (by show ¬ D 198 7 = p; omega)]), frm.rf⟩
    · refine q_iconst hA dX1_parts_26 ?_
      refine q_goto (tgt := 31) hA dX1_parts_27 (by decide) ?_
      exact hR 31 _ _ _ dX1_parts_31 ⟨(by show _ = partsR p q 0 _; rw [partsR]; first | rw [if_pos (by show D 198 7 = p; omega)] | rw [if_neg (by show ¬ D 198 7 = p; omega)]), frm.rf⟩
  · refine q_iload_n (j := 1) hA rfl dX1_parts_4 ?_
    refine q_aload_n (j := 0) hA rfl dX1_parts_5 ?_
    refine q_getR hA f_X1_11 dX1_parts_6 sx_196 (by decide) fx_196_0 ?_
    refine q_alen hA (Or.inr (Or.inr rfl)) dX1_parts_9 sx_197 ?_
    show J _ _ (vI 7 :: _) _
    refine q_icmp_lt (tgt := 32) hA (by omega) (by omega) dX1_parts_10 (by decide) (fun h10 => ?_) (fun h10 => absurd h10 (by omega))
    refine q_iconst hA dX1_parts_32 ?_
    refine q_istore (j := 4) (lo2 := [vR 196, vI k, vI p, vI q, vI 0, vN, vN]) hA dX1_parts_33 (by decide) rfl rfl ?_
    refine q_iconst hA dX1_parts_35 ?_
    refine q_istore (j := 5) (lo2 := [vR 196, vI k, vI p, vI q, vI 0, vI 0, vN]) hA dX1_parts_36 (by decide) rfl rfl ?_
    refine zX1_parts_L38 (D := D) (k := k) (p := p) (q := q) (e := e) he hk hpp hq hp ih0 ((by first | assumption | omega | rfl)) hA hR 1000 _ _ _ (by omega) (by rfl) (by exact frm.rf) (by rfl) (by omega)
set_option maxHeartbeats 4000000 in
set_option maxRecDepth 100000 in
theorem zX1_gain_L21 {g : Gm} {l : Launch} {D : Dat} {k : Int} {e : Nat} (he : 6 ≤ e) (hk : 0 ≤ k ∧ k ≤ 6) (hp : pOk (rowX D (stGo k.toNat))) (ih0 : ∀ (E : Dat), 1 ≤ k → pOk (rowX E (stGo (k - 1).toNat)) → CrI g l e mX1_gain [vR 196, vI (k - 1)] E (fun v D1 => v = gainR (k - 1).toNat (rowX E (stGo (k - 1).toNat)) ∧ frm 198 (7 * (k - 1).toNat) E D1))  (hk1 : 1 ≤ k) {J : JT} (hA : AX g l RX1 cX1_gain 6 (e + 1) J) (hR : ReI cX1_gain (fun v D1 => v = gainR k.toNat (rowX D (stGo k.toNat)) ∧ frm 198 (7 * k.toNat) D D1) J) : ∀ (fuel : Nat) (b : Int) (m : Int) (E : Dat), (0 ≤ m ∧ m ≤ 3) → (rowX E (stGo k.toNat) = rowX D (stGo k.toNat)) → (frm 198 (7 * k.toNat) D E) → (b = gS (rowX D (stGo k.toNat)) (gainR (k - 1).toNat) m.toNat) → 3 - m < (fuel : Int) → J 21 [vR 196, vI k, vI b, vI m, vN, vN] [] E := by
  intro fuel
  induction fuel with
  | zero => intro b m E hm hr hf hv hMs; exact absurd hMs (by omega)
  | succ fuel ih =>
    intro b m E hm hr hf hv hMs
    have hza := hGo (k := k) (by omega)
    have hzb := hGo (k := k - 1) (by omega)
    have hpE : pOk (rowX E (stGo k.toNat)) := by rw [hr]; exact hp
    have hbi := gS_in (k := (k - 1).toNat) hp (by omega) m.toNat
    refine q_iload_n (j := 3) hA rfl dX1_gain_21 ?_
    refine q_iconst hA dX1_gain_22 ?_
    refine q_icmp_ge (tgt := 92) hA (by omega) (by omega) dX1_gain_23 (by decide) (fun h23 => ?_) (fun h23 => ?_)
    · refine q_iload_n (j := 2) hA rfl dX1_gain_92 ?_
      exact hR 93 _ _ _ dX1_gain_93 ⟨(by rw [hv, show m = 3 by omega, gainR_gS hk1]; rfl), hf⟩
    · refine q_aload_n (j := 0) hA rfl dX1_gain_26 ?_
      refine q_getR hA f_X1_11 dX1_gain_27 sx_196 (by decide) fx_196_0 ?_
      refine q_iload_n (j := 1) hA rfl dX1_gain_30 ?_
      refine q_aald (b := stGo k.toNat) hA (Or.inl rfl) dX1_gain_31 sx_197 (by omega) (by decide) hza.1 ?_
      refine q_iload_n (j := 3) hA rfl dX1_gain_32 ?_
      refine q_callVP (b := stGo k.toNat) (As := [vI m]) (st := []) hA l_X1_42 kX7_comesBy (zX7_comesBy hza.2 hpE.s (by omega) hpE.f hpE.b) dX1_gain_33 rfl rfl (strS hza.2) (by decide) rfl (Nat.le_of_ble_eq_true rfl) (by omega) ?_
      refine q_nmI (fun c ec => ?_)
      refine q_istore (j := 4) (lo2 := [vR 196, vI k, vI b, vI m, vI c, vN]) hA dX1_gain_36 (by decide) rfl rfl ?_
      have hci := comesR_in (r := rowX E (stGo k.toNat)) (m := m) (by have := hpE.f; rw [xN]; omega) hpE.2.2.2
      rw [← ec, xN] at hci
      have hn8 := hpE.s.n
      refine q_iload (j := 4) hA rfl dX1_gain_38 ?_
      refine q_if_lt (tgt := 86) hA (by omega) dX1_gain_40 (by decide) (fun h40 => ?_) (fun h40 => ?_)
      · refine q_iinc (j := 3) (lo2 := [vR 196, vI k, vI b, vI (m + 1), vI c, vN]) hA dX1_gain_86 rfl (by decide) rfl rfl ?_
        refine q_goto (tgt := 21) hA dX1_gain_89 (by decide) ?_
        refine q_fgt (lo2 := [vR 196, vI k, vI b, vI (m + 1), vN, vN]) hA ⟨Or.inr rfl, Or.inr rfl, Or.inr rfl, Or.inr rfl, Or.inl rfl, Or.inr rfl, trivial⟩ ?_
        exact ih _ _ _ (by omega) (by first | (rw [frm.row q78.2 (by unfold stGo; omega), frm.row q68.2 (by unfold stGo; omega)]; exact hr) | exact hr) (by first | exact fun c c1 => (q78.2 c (by omega)).trans ((q68.2 c (by unfold stGo; omega)).trans (hf c c1)) | exact hf) (by rw [gS_step (by omega), ← hv]; unfold gStep; rw [hr] at ec; rw [← ec]; first | (rw [if_pos (by omega), ← hgets, ← hr, ← q68.1, ← q78.1]; exact emx) | rw [if_neg (by omega)]) (by omega)
      · refine q_iload_n (j := 3) hA rfl dX1_gain_43 ?_
        refine q_iconst hA dX1_gain_44 ?_
        refine q_icmp_ne (tgt := 52) hA (by omega) (by omega) dX1_gain_45 (by decide) (fun h45 => ?_) (fun h45 => ?_)
        · have hat := hpE.s.at (p := c) (by omega)
          refine q_aload_n (j := 0) hA rfl dX1_gain_52 ?_
          refine q_getR hA f_X1_11 dX1_gain_53 sx_196 (by decide) fx_196_0 ?_
          refine q_iload_n (j := 1) hA rfl dX1_gain_56 ?_
          refine q_aald (b := stGo k.toNat) hA (Or.inl rfl) dX1_gain_57 sx_197 (by omega) (by decide) hza.1 ?_
          refine q_iload (j := 4) hA rfl dX1_gain_58 ?_
          refine q_callVP (b := stGo k.toNat) (As := [vI c]) (st := []) hA l_X1_45 kX7_worthOf (zX7_worthOf hza.2 hpE.s (by omega)) dX1_gain_60 rfl rfl (strS hza.2) (by decide) rfl (Nat.le_of_ble_eq_true rfl) (by omega) ?_
          refine q_nmI (fun gt egt => ?_)
          refine q_istore (j := 5) (lo2 := [vR 196, vI k, vI b, vI m, vI c, vI gt]) hA dX1_gain_63 (by decide) rfl rfl ?_
          have hgets : gt = if m = 2 then 0 else rW (rowX D (stGo k.toNat)) c := by rw [egt]; first | rw [if_pos (by omega)] | (rw [if_neg (by omega), ← hr, xW (by omega)])
          have hgi : 0 ≤ gt ∧ gt ≤ 9 := by rw [egt]; first | omega | exact hat.2.1
          refine q_aload_n (j := 0) hA rfl dX1_gain_65 ?_
          refine q_iload_n (j := 1) hA rfl dX1_gain_66 ?_
          refine q_iload_n (j := 3) hA rfl dX1_gain_67 ?_
          refine q_callVV (b := 196) (As := [vI k, vI m]) (st := []) hA l_X1_34 kX1_goOn (zX1_goOn (by omega) (by omega) hpE) dX1_gain_68 rfl rfl sx_196 (by decide) rfl (Nat.le_of_ble_eq_true rfl) (by omega) (fun D68 q68 => ?_)
          have hpG : pOk (rowX D68 (stGo (k - 1).toNat)) := by rw [q68.1]; exact (goR_ok hpE).1
          refine q_iload_n (j := 2) hA rfl dX1_gain_71 ?_
          refine q_iload (j := 5) hA rfl dX1_gain_72 ?_
          refine q_aload_n (j := 0) hA rfl dX1_gain_74 ?_
          refine q_iload_n (j := 1) hA rfl dX1_gain_75 ?_
          refine q_iconst hA dX1_gain_76 ?_
          refine q_isub hA dX1_gain_77 ?_
          refine q_callVI (b := 196) (As := [vI (k - 1)]) (st := [vI gt, vI b]) hA l_X1_38 kX1_gain (ih0 D68 (by omega) hpG) dX1_gain_78 rfl rfl sx_196 (by decide) rfl (Nat.le_of_ble_eq_true rfl) (by omega) (fun v D78 q78 => ?_)
          have hgr := gainR_in (k - 1).toNat hpG
          rw [← q78.1] at hgr
          refine q_isub hA dX1_gain_81 ?_
          refine q_max hA mw_X1_48 (by omega) (by omega) (Nat.le_of_ble_eq_true rfl) (by omega) dX1_gain_82 ?_
          refine q_nmI (fun mx emx => ?_)
          refine q_istore_n (j := 2) (lo2 := [vR 196, vI k, vI mx, vI m, vI c, vI gt]) hA dX1_gain_85 (by decide) rfl rfl ?_
          refine q_iinc (j := 3) (lo2 := [vR 196, vI k, vI mx, vI (m + 1), vI c, vI gt]) hA dX1_gain_86 rfl (by decide) rfl rfl ?_
          refine q_goto (tgt := 21) hA dX1_gain_89 (by decide) ?_
          refine q_fgt (lo2 := [vR 196, vI k, vI mx, vI (m + 1), vN, vN]) hA ⟨Or.inr rfl, Or.inr rfl, Or.inr rfl, Or.inr rfl, Or.inl rfl, Or.inl rfl, trivial⟩ ?_
          exact ih _ _ _ (by omega) (by first | (rw [frm.row q78.2 (by unfold stGo; omega), frm.row q68.2 (by unfold stGo; omega)]; exact hr) | exact hr) (by first | exact fun c c1 => (q78.2 c (by omega)).trans ((q68.2 c (by unfold stGo; omega)).trans (hf c c1)) | exact hf) (by rw [gS_step (by omega), ← hv]; unfold gStep; rw [hr] at ec; rw [← ec]; first | (rw [if_pos (by omega), ← hgets, ← hr, ← q68.1, ← q78.1]; exact emx) | rw [if_neg (by omega)]) (by omega)
        · refine q_iconst hA dX1_gain_48 ?_
          refine q_goto (tgt := 63) hA dX1_gain_49 (by decide) ?_
          refine q_nmI (fun gt egt => ?_)
          refine q_istore (j := 5) (lo2 := [vR 196, vI k, vI b, vI m, vI c, vI gt]) hA dX1_gain_63 (by decide) rfl rfl ?_
          have hgets : gt = if m = 2 then 0 else rW (rowX D (stGo k.toNat)) c := by rw [egt]; first | rw [if_pos (by omega)] | (rw [if_neg (by omega), ← hr, xW (by omega)])
          have hgi : 0 ≤ gt ∧ gt ≤ 9 := by rw [egt]; first | omega | exact hat.2.1
          refine q_aload_n (j := 0) hA rfl dX1_gain_65 ?_
          refine q_iload_n (j := 1) hA rfl dX1_gain_66 ?_
          refine q_iload_n (j := 3) hA rfl dX1_gain_67 ?_
          refine q_callVV (b := 196) (As := [vI k, vI m]) (st := []) hA l_X1_34 kX1_goOn (zX1_goOn (by omega) (by omega) hpE) dX1_gain_68 rfl rfl sx_196 (by decide) rfl (Nat.le_of_ble_eq_true rfl) (by omega) (fun D68 q68 => ?_)
          have hpG : pOk (rowX D68 (stGo (k - 1).toNat)) := by rw [q68.1]; exact (goR_ok hpE).1
          refine q_iload_n (j := 2) hA rfl dX1_gain_71 ?_
          refine q_iload (j := 5) hA rfl dX1_gain_72 ?_
          refine q_aload_n (j := 0) hA rfl dX1_gain_74 ?_
          refine q_iload_n (j := 1) hA rfl dX1_gain_75 ?_
          refine q_iconst hA dX1_gain_76 ?_
          refine q_isub hA dX1_gain_77 ?_
          refine q_callVI (b := 196) (As := [vI (k - 1)]) (st := [vI gt, vI b]) hA l_X1_38 kX1_gain (ih0 D68 (by omega) hpG) dX1_gain_78 rfl rfl sx_196 (by decide) rfl (Nat.le_of_ble_eq_true rfl) (by omega) (fun v D78 q78 => ?_)
          have hgr := gainR_in (k - 1).toNat hpG
          rw [← q78.1] at hgr
          refine q_isub hA dX1_gain_81 ?_
          refine q_max hA mw_X1_48 (by omega) (by omega) (Nat.le_of_ble_eq_true rfl) (by omega) dX1_gain_82 ?_
          refine q_nmI (fun mx emx => ?_)
          refine q_istore_n (j := 2) (lo2 := [vR 196, vI k, vI mx, vI m, vI c, vI gt]) hA dX1_gain_85 (by decide) rfl rfl ?_
          refine q_iinc (j := 3) (lo2 := [vR 196, vI k, vI mx, vI (m + 1), vI c, vI gt]) hA dX1_gain_86 rfl (by decide) rfl rfl ?_
          refine q_goto (tgt := 21) hA dX1_gain_89 (by decide) ?_
          refine q_fgt (lo2 := [vR 196, vI k, vI mx, vI (m + 1), vN, vN]) hA ⟨Or.inr rfl, Or.inr rfl, Or.inr rfl, Or.inr rfl, Or.inl rfl, Or.inl rfl, trivial⟩ ?_
          exact ih _ _ _ (by omega) (by first | (rw [frm.row q78.2 (by unfold stGo; omega), frm.row q68.2 (by unfold stGo; omega)]; exact hr) | exact hr) (by first | exact fun c c1 => (q78.2 c (by omega)).trans ((q68.2 c (by unfold stGo; omega)).trans (hf c c1)) | exact hf) (by rw [gS_step (by omega), ← hv]; unfold gStep; rw [hr] at ec; rw [← ec]; first | (rw [if_pos (by omega), ← hgets, ← hr, ← q68.1, ← q78.1]; exact emx) | rw [if_neg (by omega)]) (by omega)
set_option maxHeartbeats 4000000 in
set_option maxRecDepth 100000 in
theorem zX1_gain_step {g : Gm} {l : Launch} {D : Dat} {k : Int} {e : Nat} (he : 6 ≤ e) (hk : 0 ≤ k ∧ k ≤ 6) (hp : pOk (rowX D (stGo k.toNat))) (ih0 : ∀ (E : Dat), 1 ≤ k → pOk (rowX E (stGo (k - 1).toNat)) → CrI g l e mX1_gain [vR 196, vI (k - 1)] E (fun v D1 => v = gainR (k - 1).toNat (rowX E (stGo (k - 1).toNat)) ∧ frm 198 (7 * (k - 1).toNat) E D1)) : CrI g l (e + 1) mX1_gain [vR 196, vI k] D (fun v D1 => v = gainR k.toNat (rowX D (stGo k.toNat)) ∧ frm 198 (7 * k.toNat) D D1) := by
  refine Cr.ofI (lo0 := [vR 196, vI k, vN, vN, vN, vN]) (by decide) (Nat.le_of_ble_eq_true rfl) rfl (fun J hA hR => ?_)
  refine q_iload_n (j := 1) hA rfl dX1_gain_0 ?_
  refine q_if_le (tgt := 13) hA (by omega) dX1_gain_1 (by decide) (fun h1 => ?_) (fun h1 => ?_)
  · refine q_iconst hA dX1_gain_13 ?_
    exact hR 14 _ _ _ dX1_gain_14 ⟨(by rw [show k = 0 by omega]; rfl), frm.rf⟩
  · refine q_iload_n (j := 1) hA rfl dX1_gain_4 ?_
    refine q_aload_n (j := 0) hA rfl dX1_gain_5 ?_
    refine q_getR hA f_X1_11 dX1_gain_6 sx_196 (by decide) fx_196_0 ?_
    refine q_alen hA (Or.inr (Or.inr rfl)) dX1_gain_9 sx_197 ?_
    show J _ _ (vI 7 :: _) _
    refine q_icmp_lt (tgt := 15) hA (by omega) (by omega) dX1_gain_10 (by decide) (fun h10 => ?_) (fun h10 => absurd h10 (by omega))
    refine q_sipush hA (by decide) dX1_gain_15 ?_
    refine q_istore_n (j := 2) (lo2 := [vR 196, vI k, vI (-1000), vN, vN, vN]) hA dX1_gain_18 (by decide) rfl rfl ?_
    refine q_iconst hA dX1_gain_19 ?_
    refine q_istore_n (j := 3) (lo2 := [vR 196, vI k, vI (-1000), vI 0, vN, vN]) hA dX1_gain_20 (by decide) rfl rfl ?_
    refine zX1_gain_L21 (D := D) (k := k) (e := e) he hk hp ih0 ((by first | assumption | omega | rfl)) hA hR 1000 _ _ _ (by omega) (by rfl) (by exact frm.rf) (by rfl) (by omega)
set_option maxHeartbeats 4000000 in
set_option maxRecDepth 100000 in
theorem zX1_drawn_L21 {g : Gm} {l : Launch} {D : Dat} {n : Int} {x : Int} (hn : 0 ≤ n ∧ n ≤ 60) (hx : 1 ≤ x ∧ x ≤ 999999) (hp : pOk (rowX D 11))   {J : JT} (hA : AX g l RX1 cX1_drawn 9 5 J) (hR : ReR cX1_drawn (fun v D1 => v = 198 ∧ rowX D1 198 = drawR n.toNat x (rowX D 11) ∧ frm 198 7 D D1) J) : ∀ (fuel : Nat) (k : Int) (y : Int) (E : Dat), (0 ≤ k ∧ k ≤ n) → (0 ≤ y ∧ y ≤ 2147483646) → (pOk (rowX E 198)) → (frm 198 7 D E) → (drawR n.toNat x (rowX D 11) = drawR (n - k).toNat y (rowX E 198)) → n - k < (fuel : Int) → J 21 [vR 196, vR 11, vI n, vI x, vR 198, vL y, vN, vI k, vN] [] E := by
  intro fuel
  induction fuel with
  | zero => intro k y E hk hy hE hf hv hMs; exact absurd hMs (by omega)
  | succ fuel ih =>
    intro k y E hk hy hE hf hv hMs
    refine q_iload (j := 7) hA rfl dX1_drawn_21 ?_
    refine q_iload_n (j := 2) hA rfl dX1_drawn_23 ?_
    refine q_icmp_ge (tgt := 79) hA (by omega) (by omega) dX1_drawn_24 (by decide) (fun h24 => ?_) (fun h24 => ?_)
    · refine q_aload (j := 4) hA rfl dX1_drawn_79 ?_
      exact hR 81 _ _ _ dX1_drawn_81 ⟨rfl, (by rw [hv, show n - k = 0 by omega]; rfl), hf⟩
    · refine q_ldc2 hA c_X1_58 dX1_drawn_27 ?_
      refine q_lload (j := 5) hA rfl dX1_drawn_30 ?_
      refine q_lmul hA dX1_drawn_32 ?_
      refine q_ldc2 hA c_X1_60 dX1_drawn_33 ?_
      refine q_lrem hA (by omega) (by omega) dX1_drawn_36 ?_
      refine q_nmL (fun y2 ey2 => ?_)
      refine q_lstore (j := 5) (lo2 := [vR 196, vR 11, vI n, vI x, vR 198, vL y2, vN, vI k, vN]) hA dX1_drawn_37 (by decide) rfl rfl ?_
      have hy2 : 0 ≤ y2 ∧ y2 ≤ 2147483646 := by rw [ey2]; omega
      refine q_lload (j := 5) hA rfl dX1_drawn_39 ?_
      refine q_ldc2 hA c_X1_62 dX1_drawn_41 ?_
      refine q_ldiv hA (by omega) (by omega) dX1_drawn_44 ?_
      refine q_ldc2 hA c_X1_64 dX1_drawn_45 ?_
      refine q_lrem hA (by omega) (by omega) dX1_drawn_48 ?_
      refine q_l2i hA dX1_drawn_49 ?_
      refine q_nmI (fun m em => ?_)
      refine q_istore (j := 8) (lo2 := [vR 196, vR 11, vI n, vI x, vR 198, vL y2, vN, vI k, vI m]) hA dX1_drawn_50 (by decide) rfl rfl ?_
      have hm : 0 ≤ m ∧ m ≤ 2 := by rw [em]; omega
      refine q_aload (j := 4) hA rfl dX1_drawn_52 ?_
      refine q_aload (j := 4) hA rfl dX1_drawn_54 ?_
      refine q_iload (j := 8) hA rfl dX1_drawn_56 ?_
      refine q_callVB (b := 198) (As := [vI m]) (st := [vR 198]) hA l_X1_30 kX7_mayDo (zX7_mayDo isS198 hE.s hm hE.f hE.b) dX1_drawn_58 rfl rfl (strS isS198) (by decide) rfl (Nat.le_of_ble_eq_true rfl) (by omega) (fun h58 => ?_) (fun h58 => ?_)
      · refine q_if_eq (tgt := 69) hA (by decide) dX1_drawn_61 (by decide) (fun h61 => absurd h61 (by decide)) (fun h61 => ?_)
        refine q_iload (j := 8) hA rfl dX1_drawn_64 ?_
        refine q_goto (tgt := 70) hA dX1_drawn_66 (by decide) ?_
        refine q_callVV (b := 198) (As := [vI m]) (st := []) hA l_X1_54 kX7_go (zX7_go isS198 hE.s (by omega) hE.f hE.b) dX1_drawn_70 rfl rfl (strS isS198) (by decide) rfl (Nat.le_of_ble_eq_true rfl) (by omega) (fun D70 q70 => ?_)
        refine q_iinc (j := 7) (lo2 := [vR 196, vR 11, vI n, vI x, vR 198, vL y2, vN, vI (k + 1), vI m]) hA dX1_drawn_73 rfl (by decide) rfl rfl ?_
        refine q_goto (tgt := 21) hA dX1_drawn_76 (by decide) ?_
        refine q_fgt (lo2 := [vR 196, vR 11, vI n, vI x, vR 198, vL y2, vN, vI (k + 1), vN]) hA ⟨Or.inr rfl, Or.inr rfl, Or.inr rfl, Or.inr rfl, Or.inr rfl, Or.inr rfl, Or.inr rfl, Or.inr rfl, Or.inl rfl, trivial⟩ ?_
        exact ih _ _ _ (by omega) (by omega) (by rw [q70.1]; exact (goR_ok hE).1) (by exact hf.tr q70.2) (by rw [hv, show (n - k).toNat = (n - (k + 1)).toNat + 1 by omega, drawR, q70.1, ← ey2, ← em]; unfold mvR; first | rw [if_pos h58] | rw [if_neg h58]) (by omega)
      · refine q_if_eq (tgt := 69) hA (by decide) dX1_drawn_61 (by decide) (fun h61 => ?_) (fun h61 => absurd h61 (by decide))
        refine q_iconst hA dX1_drawn_69 ?_
        refine q_callVV (b := 198) (As := [vI 2]) (st := []) hA l_X1_54 kX7_go (zX7_go isS198 hE.s (by omega) hE.f hE.b) dX1_drawn_70 rfl rfl (strS isS198) (by decide) rfl (Nat.le_of_ble_eq_true rfl) (by omega) (fun D70 q70 => ?_)
        refine q_iinc (j := 7) (lo2 := [vR 196, vR 11, vI n, vI x, vR 198, vL y2, vN, vI (k + 1), vI m]) hA dX1_drawn_73 rfl (by decide) rfl rfl ?_
        refine q_goto (tgt := 21) hA dX1_drawn_76 (by decide) ?_
        refine q_fgt (lo2 := [vR 196, vR 11, vI n, vI x, vR 198, vL y2, vN, vI (k + 1), vN]) hA ⟨Or.inr rfl, Or.inr rfl, Or.inr rfl, Or.inr rfl, Or.inr rfl, Or.inr rfl, Or.inr rfl, Or.inr rfl, Or.inl rfl, trivial⟩ ?_
        exact ih _ _ _ (by omega) (by omega) (by rw [q70.1]; exact (goR_ok hE).1) (by exact hf.tr q70.2) (by rw [hv, show (n - k).toNat = (n - (k + 1)).toNat + 1 by omega, drawR, q70.1, ← ey2, ← em]; unfold mvR; first | rw [if_pos h58] | rw [if_neg h58]) (by omega)
set_option maxHeartbeats 4000000 in
set_option maxRecDepth 100000 in
theorem zX1_drawn {g : Gm} {l : Launch} {D : Dat} {n : Int} {x : Int} (hn : 0 ≤ n ∧ n ≤ 60) (hx : 1 ≤ x ∧ x ≤ 999999) (hp : pOk (rowX D 11)) : CrR g l 5 mX1_drawn [vR 196, vR 11, vI n, vI x] D (fun v D1 => v = 198 ∧ rowX D1 198 = drawR n.toNat x (rowX D 11) ∧ frm 198 7 D D1) := by
  refine Cr.ofA (lo0 := [vR 196, vR 11, vI n, vI x, vN, vN, vN, vN, vN]) (by decide) (Nat.le_of_ble_eq_true rfl) rfl (fun J hA hR => ?_)
  refine q_aload_n (j := 0) hA rfl dX1_drawn_0 ?_
  refine q_getR hA f_X1_11 dX1_drawn_1 sx_196 (by decide) fx_196_0 ?_
  refine q_iconst hA dX1_drawn_4 ?_
  refine q_aald (b := 198) hA (Or.inl rfl) dX1_drawn_5 sx_197 (by omega) (by decide) (by decide +kernel) ?_
  refine q_astore (j := 4) (lo2 := [vR 196, vR 11, vI n, vI x, vR 198, vN, vN, vN, vN]) hA dX1_drawn_6 (by decide) rfl rfl ?_
  refine q_aload (j := 4) hA rfl dX1_drawn_8 ?_
  refine q_aload_n (j := 1) hA rfl dX1_drawn_10 ?_
  refine q_callVV (b := 198) (As := [vR 11]) (st := []) hA l_X1_18 kX7_takeFrom (zX7_takeFrom isS198 isS11 (by omega)) dX1_drawn_11 rfl rfl (strS isS198) (by decide) rfl (Nat.le_of_ble_eq_true rfl) (by omega) (fun D11 q11 => ?_)
  refine q_iload_n (j := 3) hA rfl dX1_drawn_14 ?_
  refine q_i2l hA (by omega) dX1_drawn_15 ?_
  refine q_lstore (j := 5) (lo2 := [vR 196, vR 11, vI n, vI x, vR 198, vL x, vN, vN, vN]) hA dX1_drawn_16 (by decide) rfl rfl ?_
  refine q_iconst hA dX1_drawn_18 ?_
  refine q_istore (j := 7) (lo2 := [vR 196, vR 11, vI n, vI x, vR 198, vL x, vN, vI 0, vN]) hA dX1_drawn_19 (by decide) rfl rfl ?_
  refine zX1_drawn_L21 (D := D) (n := n) (x := x) hn hx hp  hA hR 1000 _ _ _ (by omega) (by omega) (by rw [q11.1]; exact hp) (by exact q11.2) (by rw [q11.1, Int.sub_zero]) (by omega)
