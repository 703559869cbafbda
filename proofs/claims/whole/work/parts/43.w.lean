set_option maxHeartbeats 4000000 in
set_option maxRecDepth 100000 in
theorem zX10_pairs_L14 {g : Gm} {l : Launch} {D : Dat} {n : Int} (hn : 3 ≤ n ∧ n ≤ 8) {a : Int} (ha : 0 ≤ a ∧ a < n) {J : JT} (hA : AX g l RX10 cX10_pairs 5 1 J) (hR : ReI cX10_pairs (fun v D1 => v = ((prsN n.toNat).length : Int) ∧ prM D1 300 301 (prsN n.toNat) ∧ ∀ c, c ≠ 300 → c ≠ 301 → D1 c = D c) J) (hx : ∀ (cn : Int) (b : Int) (P : List (Nat × Nat)) (E : Dat), (a + 2 ≤ b ∧ b ≤ n + 1) → (cn = (P.length : Int)) → (P ++ (pBn a.toNat n.toNat (n - b).toNat ++ pAn n.toNat (n - (a + 1)).toNat) = (prsN n.toNat)) → (prM E 300 301 P) → (∀ c, c ≠ 300 → c ≠ 301 → E c = D c) → (P ++ pAn n.toNat (n - (a + 1)).toNat = (prsN n.toNat)) → J 56 [vR 283, vI n, vI cn, vI a, vI b] [] E) : ∀ (fuel : Nat) (cn : Int) (b : Int) (P : List (Nat × Nat)) (E : Dat), (a + 2 ≤ b ∧ b ≤ n + 1) → (cn = (P.length : Int)) → (P ++ (pBn a.toNat n.toNat (n - b).toNat ++ pAn n.toNat (n - (a + 1)).toNat) = (prsN n.toNat)) → (prM E 300 301 P) → (∀ c, c ≠ 300 → c ≠ 301 → E c = D c) → n + 1 - b < (fuel : Int) → J 14 [vR 283, vI n, vI cn, vI a, vI b] [] E := by
  intro fuel
  induction fuel with
  | zero => intro cn b P E hb hc hP hM hf hMs; exact absurd hMs (by omega)
  | succ fuel ih =>
    intro cn b P E hb hc hP hM hf hMs
    have hple := prs_le (n := n.toNat) (by omega)
    have hplen : P.length ≤ (prsN n.toNat).length := by rw [← hP, List.length_append]; omega
    refine q_iload (j := 4) hA rfl dX10_pairs_14 ?_
    refine q_iload_n (j := 1) hA rfl dX10_pairs_16 ?_
    refine q_icmp_ge (tgt := 56) hA (by omega) (by omega) dX10_pairs_17 (by decide) (fun h17 => ?_) (fun h17 => ?_)
    · exact hx _ _ _ _ hb hc hP hM hf (by rw [show (n - b).toNat = 0 by omega] at hP; exact hP)
    · refine q_iload_n (j := 3) hA rfl dX10_pairs_20 ?_
      refine q_if_gt (tgt := 32) hA (by omega) dX10_pairs_21 (by decide) (fun h21 => ?_) (fun h21 => ?_)
      · have hlt : P.length < (prsN n.toNat).length := by have := pB_s (by omega) (by omega) hP; rw [if_pos (by omega)] at this; rw [← this, List.length_append, List.length_append]; simp; omega
        refine q_aload_n (j := 0) hA rfl dX10_pairs_32 ?_
        refine q_getR hA f_X10_60 dX10_pairs_33 sx_283 (by decide) fx_283_21 ?_
        refine q_iload_n (j := 2) hA rfl dX10_pairs_36 ?_
        refine q_iload_n (j := 3) hA rfl dX10_pairs_37 ?_
        refine q_iast hA dX10_pairs_38 sx_300 (by omega) (by decide) ?_
        refine q_aload_n (j := 0) hA rfl dX10_pairs_39 ?_
        refine q_getR hA f_X10_63 dX10_pairs_40 sx_283 (by decide) fx_283_22 ?_
        refine q_iload_n (j := 2) hA rfl dX10_pairs_43 ?_
        refine q_iload (j := 4) hA rfl dX10_pairs_44 ?_
        refine q_iast hA dX10_pairs_46 sx_301 (by omega) (by decide) ?_
        refine q_iinc (j := 2) (lo2 := [vR 283, vI n, vI (cn + 1), vI a, vI b]) hA dX10_pairs_47 rfl (by decide) rfl rfl ?_
        refine q_iinc (j := 4) (lo2 := [vR 283, vI n, vI (cn + 1), vI a, vI (b + 1)]) hA dX10_pairs_50 rfl (by decide) rfl rfl ?_
        refine q_goto (tgt := 14) hA dX10_pairs_53 (by decide) ?_
        exact ih _ _ (if 0 < a ∨ b < n - 1 then P ++ [(a.toNat, b.toNat)] else P) _ (by omega) (by first | (rw [if_pos (by omega), List.length_append, hc]; rfl) | (rw [if_neg (by omega)]; exact hc)) (by first | (rw [if_pos (by omega)]; have := pB_s (by omega) (by omega) hP; rw [if_pos (by omega)] at this; rw [List.append_assoc]; exact this) | (rw [if_neg (by omega)]; have := pB_s (by omega) (by omega) hP; rw [if_neg (by omega), List.nil_append] at this; exact this)) (by first | (rw [if_pos (by omega)]; exact prM_s (by omega) hM hc (by omega) (by omega)) | (rw [if_neg (by omega)]; exact hM)) (by first | exact hf | exact fun c c1 c2 => (upD_other c2).trans ((upD_other c1).trans (hf c c1 c2))) (by omega)
      · refine q_iload (j := 4) hA rfl dX10_pairs_24 ?_
        refine q_iload_n (j := 1) hA rfl dX10_pairs_26 ?_
        refine q_iconst hA dX10_pairs_27 ?_
        refine q_isub hA dX10_pairs_28 ?_
        refine q_icmp_ge (tgt := 50) hA (by omega) (by omega) dX10_pairs_29 (by decide) (fun h29 => ?_) (fun h29 => ?_)
        · refine q_iinc (j := 4) (lo2 := [vR 283, vI n, vI cn, vI a, vI (b + 1)]) hA dX10_pairs_50 rfl (by decide) rfl rfl ?_
          refine q_goto (tgt := 14) hA dX10_pairs_53 (by decide) ?_
          exact ih _ _ (if 0 < a ∨ b < n - 1 then P ++ [(a.toNat, b.toNat)] else P) _ (by omega) (by first | (rw [if_pos (by omega), List.length_append, hc]; rfl) | (rw [if_neg (by omega)]; exact hc)) (by first | (rw [if_pos (by omega)]; have := pB_s (by omega) (by omega) hP; rw [if_pos (by omega)] at this; rw [List.append_assoc]; exact this) | (rw [if_neg (by omega)]; have := pB_s (by omega) (by omega) hP; rw [if_neg (by omega), List.nil_append] at this; exact this)) (by first | (rw [if_pos (by omega)]; exact prM_s (by omega) hM hc (by omega) (by omega)) | (rw [if_neg (by omega)]; exact hM)) (by first | exact hf | exact fun c c1 c2 => (upD_other c2).trans ((upD_other c1).trans (hf c c1 c2))) (by omega)
        · have hlt : P.length < (prsN n.toNat).length := by have := pB_s (by omega) (by omega) hP; rw [if_pos (by omega)] at this; rw [← this, List.length_append, List.length_append]; simp; omega
          refine q_aload_n (j := 0) hA rfl dX10_pairs_32 ?_
          refine q_getR hA f_X10_60 dX10_pairs_33 sx_283 (by decide) fx_283_21 ?_
          refine q_iload_n (j := 2) hA rfl dX10_pairs_36 ?_
          refine q_iload_n (j := 3) hA rfl dX10_pairs_37 ?_
          refine q_iast hA dX10_pairs_38 sx_300 (by omega) (by decide) ?_
          refine q_aload_n (j := 0) hA rfl dX10_pairs_39 ?_
          refine q_getR hA f_X10_63 dX10_pairs_40 sx_283 (by decide) fx_283_22 ?_
          refine q_iload_n (j := 2) hA rfl dX10_pairs_43 ?_
          refine q_iload (j := 4) hA rfl dX10_pairs_44 ?_
          refine q_iast hA dX10_pairs_46 sx_301 (by omega) (by decide) ?_
          refine q_iinc (j := 2) (lo2 := [vR 283, vI n, vI (cn + 1), vI a, vI b]) hA dX10_pairs_47 rfl (by decide) rfl rfl ?_
          refine q_iinc (j := 4) (lo2 := [vR 283, vI n, vI (cn + 1), vI a, vI (b + 1)]) hA dX10_pairs_50 rfl (by decide) rfl rfl ?_
          refine q_goto (tgt := 14) hA dX10_pairs_53 (by decide) ?_
          exact ih _ _ (if 0 < a ∨ b < n - 1 then P ++ [(a.toNat, b.toNat)] else P) _ (by omega) (by first | (rw [if_pos (by omega), List.length_append, hc]; rfl) | (rw [if_neg (by omega)]; exact hc)) (by first | (rw [if_pos (by omega)]; have := pB_s (by omega) (by omega) hP; rw [if_pos (by omega)] at this; rw [List.append_assoc]; exact this) | (rw [if_neg (by omega)]; have := pB_s (by omega) (by omega) hP; rw [if_neg (by omega), List.nil_append] at this; exact this)) (by first | (rw [if_pos (by omega)]; exact prM_s (by omega) hM hc (by omega) (by omega)) | (rw [if_neg (by omega)]; exact hM)) (by first | exact hf | exact fun c c1 c2 => (upD_other c2).trans ((upD_other c1).trans (hf c c1 c2))) (by omega)
set_option maxHeartbeats 4000000 in
set_option maxRecDepth 100000 in
theorem zX10_pairs_L4 {g : Gm} {l : Launch} {D : Dat} {n : Int} (hn : 3 ≤ n ∧ n ≤ 8)   {J : JT} (hA : AX g l RX10 cX10_pairs 5 1 J) (hR : ReI cX10_pairs (fun v D1 => v = ((prsN n.toNat).length : Int) ∧ prM D1 300 301 (prsN n.toNat) ∧ ∀ c, c ≠ 300 → c ≠ 301 → D1 c = D c) J) : ∀ (fuel : Nat) (cn : Int) (a : Int) (P : List (Nat × Nat)) (E : Dat), (0 ≤ a ∧ a ≤ n) → (cn = (P.length : Int)) → (P ++ pAn n.toNat (n - a).toNat = (prsN n.toNat)) → (prM E 300 301 P) → (∀ c, c ≠ 300 → c ≠ 301 → E c = D c) → n - a < (fuel : Int) → J 4 [vR 283, vI n, vI cn, vI a, vN] [] E := by
  intro fuel
  induction fuel with
  | zero => intro cn a P E ha hc hP hM hf hMs; exact absurd hMs (by omega)
  | succ fuel ih =>
    intro cn a P E ha hc hP hM hf hMs
    refine q_iload_n (j := 3) hA rfl dX10_pairs_4 ?_
    refine q_iload_n (j := 1) hA rfl dX10_pairs_5 ?_
    refine q_icmp_ge (tgt := 62) hA (by omega) (by omega) dX10_pairs_6 (by decide) (fun h6 => ?_) (fun h6 => ?_)
    · refine q_iload_n (j := 2) hA rfl dX10_pairs_62 ?_
      exact hR 63 _ _ _ dX10_pairs_63 (by rw [show (n - a).toNat = 0 by omega] at hP; have e : P = (prsN n.toNat) := (by rw [← hP]; exact (List.append_nil P).symm); subst e; exact ⟨hc, hM, hf⟩)
    · refine q_iload_n (j := 3) hA rfl dX10_pairs_9 ?_
      refine q_iconst hA dX10_pairs_10 ?_
      refine q_iadd hA dX10_pairs_11 ?_
      refine q_istore (j := 4) (lo2 := [vR 283, vI n, vI cn, vI a, vI (a + 2)]) hA dX10_pairs_12 (by decide) rfl rfl ?_
      refine zX10_pairs_L14 (D := D) (n := n) hn (by omega) hA hR (fun cn b P E hb hc hP hM hf hx => ?_) 1000 _ _ P _ (by omega) (by exact hc) (by exact pA_s (by omega) hP) (by exact hM) (by exact hf) (by omega)
      refine q_iinc (j := 3) (lo2 := [vR 283, vI n, vI cn, vI (a + 1), vI b]) hA dX10_pairs_56 rfl (by decide) rfl rfl ?_
      refine q_goto (tgt := 4) hA dX10_pairs_59 (by decide) ?_
      refine q_fgt (lo2 := [vR 283, vI n, vI cn, vI (a + 1), vN]) hA ⟨Or.inr rfl, Or.inr rfl, Or.inr rfl, Or.inr rfl, Or.inl rfl, trivial⟩ ?_
      exact ih _ _ P _ (by omega) (by exact hc) (by exact hx) (by exact hM) (by exact hf) (by omega)
set_option maxHeartbeats 4000000 in
set_option maxRecDepth 100000 in
theorem zX10_pairs {g : Gm} {l : Launch} {D : Dat} {n : Int} (hn : 3 ≤ n ∧ n ≤ 8) : CrI g l 1 mX10_pairs [vR 283, vI n] D (fun v D1 => v = ((prsN n.toNat).length : Int) ∧ prM D1 300 301 (prsN n.toNat) ∧ ∀ c, c ≠ 300 → c ≠ 301 → D1 c = D c) := by
  refine Cr.ofI (lo0 := [vR 283, vI n, vN, vN, vN]) (by decide) (Nat.le_of_ble_eq_true rfl) rfl (fun J hA hR => ?_)
  refine q_iconst hA dX10_pairs_0 ?_
  refine q_istore_n (j := 2) (lo2 := [vR 283, vI n, vI 0, vN, vN]) hA dX10_pairs_1 (by decide) rfl rfl ?_
  refine q_iconst hA dX10_pairs_2 ?_
  refine q_istore_n (j := 3) (lo2 := [vR 283, vI n, vI 0, vI 0, vN]) hA dX10_pairs_3 (by decide) rfl rfl ?_
  refine zX10_pairs_L4 (D := D) (n := n) hn  hA hR 1000 _ _ [] _ (by omega) (by rfl) (by rw [Int.sub_zero, List.nil_append]; rfl) (by exact prM_z) (by exact fun _ _ _ => rfl) (by omega)
set_option maxHeartbeats 4000000 in
set_option maxRecDepth 100000 in
theorem zX10_lays_L11 {g : Gm} {l : Launch} {D : Dat} {n : Int} {m : Int} (hn : 3 ≤ n ∧ n ≤ 8) {tk : List Nat} (hm : 0 ≤ m ∧ m ≤ 5) (ht : tkM D n.toNat tk m.toNat) (hp : prM D 300 301 (prsN n.toNat))   {J : JT} (hA : AX g l RX10 cX10_lays 4 3 J) (hR : ReV cX10_lays (fun D1 => mem8 (D1 303) 0 (layN n.toNat (tk.take m.toNat)) ∧ l8 (layN n.toNat (tk.take m.toNat)) ∧ ∀ c, c ≠ 303 → D1 c = D c) J) : ∀ (fuel : Nat) (k : Int) (E : Dat), (0 ≤ k ∧ k ≤ m) → (mem8 (E 303) 0 (layN n.toNat (tk.take k.toNat))) → (l8 (layN n.toNat (tk.take k.toNat))) → (∀ c, c ≠ 303 → E c = D c) → m - k < (fuel : Int) → J 11 [vR 283, vI n, vI m, vI k] [] E := by
  intro fuel
  induction fuel with
  | zero => intro k E hk hM hl hf hMs; exact absurd hMs (by omega)
  | succ fuel ih =>
    intro k E hk hM hl hf hMs
    refine q_iload_n (j := 3) hA rfl dX10_lays_11 ?_
    refine q_iload_n (j := 2) hA rfl dX10_lays_12 ?_
    refine q_icmp_ge (tgt := 52) hA (by omega) (by omega) dX10_lays_13 (by decide) (fun h13 => ?_) (fun h13 => ?_)
    · exact hR 52 _ _ dX10_lays_52 (by rw [show m = k by omega]; exact ⟨hM, hl, hf⟩)
    · have htk := ht.2 k.toNat (by omega)
      rw [show ((k.toNat : Nat) : Int) = k by omega] at htk
      have hab := ab_lt (n := n.toNat) (i := tk.getD k.toNat 0) (by omega) htk.2
      have hple := prs_le (n := n.toNat) (by omega)
      have hE2 : E 302 k = ((tk.getD k.toNat 0 : Nat) : Int) := by rw [hf 302 (by omega)]; exact htk.1
      have hpj := hp (tk.getD k.toNat 0) htk.2
      have e1 : E 300 (E 302 k) = (((abN n.toNat (tk.getD k.toNat 0)).1 : Nat) : Int) := by rw [hE2, hf 300 (by omega)]; exact hpj.1
      have e2 : E 301 (E 302 k) = (((abN n.toNat (tk.getD k.toNat 0)).2 : Nat) : Int) := by rw [hE2, hf 301 (by omega)]; exact hpj.2
      refine q_aload_n (j := 0) hA rfl dX10_lays_16 ?_
      refine q_getR hA f_X10_69 dX10_lays_17 sx_283 (by decide) fx_283_24 ?_
      refine q_iconst hA dX10_lays_20 ?_
      refine q_aload_n (j := 0) hA rfl dX10_lays_21 ?_
      refine q_getR hA f_X10_60 dX10_lays_22 sx_283 (by decide) fx_283_21 ?_
      refine q_aload_n (j := 0) hA rfl dX10_lays_25 ?_
      refine q_getR hA f_X10_66 dX10_lays_26 sx_283 (by decide) fx_283_23 ?_
      refine q_iload_n (j := 3) hA rfl dX10_lays_29 ?_
      refine q_iald (x := E 302 k) hA dX10_lays_30 sx_302 (by omega) (by decide) rfl ?_
      refine q_iald (x := E 300 (E 302 k)) hA dX10_lays_31 sx_300 (by omega) (by decide) rfl ?_
      refine q_aload_n (j := 0) hA rfl dX10_lays_32 ?_
      refine q_getR hA f_X10_63 dX10_lays_33 sx_283 (by decide) fx_283_22 ?_
      refine q_aload_n (j := 0) hA rfl dX10_lays_36 ?_
      refine q_getR hA f_X10_66 dX10_lays_37 sx_283 (by decide) fx_283_23 ?_
      refine q_iload_n (j := 3) hA rfl dX10_lays_40 ?_
      refine q_iald (x := E 302 k) hA dX10_lays_41 sx_302 (by omega) (by decide) rfl ?_
      refine q_iald (x := E 301 (E 302 k)) hA dX10_lays_42 sx_301 (by omega) (by decide) rfl ?_
      refine q_callSV (As := [vR 303, vI 0, vI (E 300 (E 302 k)), vI (E 301 (E 302 k))]) (st := []) hA l_X10_108 kX10_links (zX10_links (c := 303) (w := 8) ⟨sx_303, by omega⟩ (by omega) (mem8_lk hM hl) (by omega) (by omega)) dX10_lays_43 rfl rfl (Nat.le_of_ble_eq_true rfl) (by omega) (fun D43 q43 => ?_)
      refine q_iinc (j := 3) (lo2 := [vR 283, vI n, vI m, vI (k + 1)]) hA dX10_lays_46 rfl (by decide) rfl rfl ?_
      refine q_goto (tgt := 11) hA dX10_lays_49 (by decide) ?_
      exact ih _ _ (by omega) (by rw [q43, e1, e2, show (k + 1).toNat = k.toNat + 1 by omega, layN_s (by have := ht.1; omega)]; exact mem8_jn hM (by omega) (by omega)) (by rw [show (k + 1).toNat = k.toNat + 1 by omega, layN_s (by have := ht.1; omega)]; exact l8_jn hl (by omega) (by omega)) (by intro c hc; rw [q43]; exact (lnM_fo hc).trans (hf c hc)) (by omega)
set_option maxHeartbeats 4000000 in
set_option maxRecDepth 100000 in
theorem zX10_lays {g : Gm} {l : Launch} {D : Dat} {n : Int} {m : Int} (hn : 3 ≤ n ∧ n ≤ 8) {tk : List Nat} (hm : 0 ≤ m ∧ m ≤ 5) (ht : tkM D n.toNat tk m.toNat) (hp : prM D 300 301 (prsN n.toNat)) : CrV g l 3 mX10_lays [vR 283, vI n, vI m] D (fun D1 => mem8 (D1 303) 0 (layN n.toNat (tk.take m.toNat)) ∧ l8 (layN n.toNat (tk.take m.toNat)) ∧ ∀ c, c ≠ 303 → D1 c = D c) := by
  refine Cr.ofV (lo0 := [vR 283, vI n, vI m, vN]) (by decide) (Nat.le_of_ble_eq_true rfl) rfl (fun J hA hR => ?_)
  refine q_aload_n (j := 0) hA rfl dX10_lays_0 ?_
  refine q_getR hA f_X10_69 dX10_lays_1 sx_283 (by decide) fx_283_24 ?_
  refine q_iconst hA dX10_lays_4 ?_
  refine q_iload_n (j := 1) hA rfl dX10_lays_5 ?_
  refine q_callSV (As := [vR 303, vI 0, vI n]) (st := []) hA l_X10_112 kX10_ring (zX10_ring (c := 303) (w := 8) ⟨sx_303, by omega⟩ (by omega) (by omega)) dX10_lays_6 rfl rfl (Nat.le_of_ble_eq_true rfl) (by omega) (fun D6 q6 => ?_)
  have hr6 : mem8 (D6 303) 0 (layN n.toNat (tk.take (0 : Int).toNat)) := by rw [q6]; have := mem8_rg (D := D) (c := 303) (n := n.toNat) (o := 0) (by omega) n.toNat (Nat.le_refl _); rw [show ((n.toNat : Nat) : Int) = n by omega] at this; exact this
  have hf6 : ∀ c, c ≠ 303 → D6 c = D c := fun c hc => by funext i; rw [q6, rnM_fr (by omega) _ (by omega) (Or.inl hc)]
  have hl6 : l8 (layN n.toNat (tk.take (0 : Int).toNat)) := l8_rg (n := n.toNat) (by omega) n.toNat (Nat.le_refl _)
  refine q_iconst hA dX10_lays_9 ?_
  refine q_istore_n (j := 3) (lo2 := [vR 283, vI n, vI m, vI 0]) hA dX10_lays_10 (by decide) rfl rfl ?_
  refine zX10_lays_L11 (D := D) (n := n) (m := m) (tk := tk) hn hm ht hp  hA hR 1000 _ _ (by omega) (by exact hr6) (by exact hl6) (by exact hf6) (by omega)
set_option maxHeartbeats 4000000 in
set_option maxRecDepth 100000 in
theorem zX10_all_L36 {g : Gm} {l : Launch} {D : Dat} {n : Int} (hn : 3 ≤ n ∧ n ≤ 8) {pp mn nx : Int} {F : Dat} (hF : 0 ≤ F 283 20 ∧ F 283 20 ≤ 131) {J : JT} (hA : AX g l RX10 cX10_all 6 4 J) (hR : ReV cX10_all (fun D1 => D1 283 20 = ((triN n.toNat).length : Int) ∧ outF D1 (triN n.toNat) ∧ (∀ c, c ≠ 283 → c ≠ 299 → c ≠ 300 → c ≠ 301 → c ≠ 302 → c ≠ 303 → D1 c = D c) ∧ ∀ i : Int, i ≠ 20 → D1 283 i = D 283 i) J) (hx : ∀ (k : Int) (H : Dat), (0 ≤ k ∧ k ≤ 8) → (cpF F H 299 (8 * F 283 20) 303 0 k) → (k = 8) → J 71 [vR 283, vI n, vI pp, vI mn, vI nx, vI k] [] H) : ∀ (fuel : Nat) (k : Int) (H : Dat), (0 ≤ k ∧ k ≤ 8) → (cpF F H 299 (8 * F 283 20) 303 0 k) → 8 - k < (fuel : Int) → J 36 [vR 283, vI n, vI pp, vI mn, vI nx, vI k] [] H := by
  intro fuel
  induction fuel with
  | zero => intro k H hk hc hMs; exact absurd hMs (by omega)
  | succ fuel ih =>
    intro k H hk hc hMs
    have e2 : H 283 20 = F 283 20 := by rw [hc.2.2 283 (by omega)]
    refine q_iload (j := 5) hA rfl dX10_all_36 ?_
    refine q_bipush hA (by decide) dX10_all_38 ?_
    refine q_icmp_ge (tgt := 71) hA (by omega) (by omega) dX10_all_40 (by decide) (fun h40 => ?_) (fun h40 => ?_)
    · exact hx _ _ hk hc (by omega)
    · refine q_aload_n (j := 0) hA rfl dX10_all_43 ?_
      refine q_getR hA f_X10_57 dX10_all_44 sx_283 (by decide) fx_283_19 ?_
      refine q_bipush hA (by decide) dX10_all_47 ?_
      refine q_aload_n (j := 0) hA rfl dX10_all_49 ?_
      refine q_getI (x := H 283 20) hA f_X10_253 dX10_all_50 sx_283 (by decide) rfl ?_
      refine q_imul hA dX10_all_53 ?_
      refine q_iload (j := 5) hA rfl dX10_all_54 ?_
      refine q_iadd hA dX10_all_56 ?_
      refine q_aload_n (j := 0) hA rfl dX10_all_57 ?_
      refine q_getR hA f_X10_69 dX10_all_58 sx_283 (by decide) fx_283_24 ?_
      refine q_iload (j := 5) hA rfl dX10_all_61 ?_
      refine q_iald (x := H 303 k) hA dX10_all_63 sx_303 (by omega) (by decide) rfl ?_
      refine q_iast hA dX10_all_64 sx_299 (by omega) (by decide) ?_
      refine q_iinc (j := 5) (lo2 := [vR 283, vI n, vI pp, vI mn, vI nx, vI (k + 1)]) hA dX10_all_65 rfl (by decide) rfl rfl ?_
      refine q_goto (tgt := 36) hA dX10_all_68 (by decide) ?_
      exact ih _ _ (by omega) (by exact hc.s (by omega) (by omega) (by rw [hc.2.2 303 (by omega), Int.zero_add])) (by omega)
set_option maxHeartbeats 4000000 in
set_option maxRecDepth 100000 in
theorem zX10_all_L84 {g : Gm} {l : Launch} {D : Dat} {n : Int} (hn : 3 ≤ n ∧ n ≤ 8) {pp mn : Int} {G : Dat} {j : Nat} (hpp : pp = ((prsN n.toNat).length : Int)) (hG : alG n.toNat j D G) {J : JT} (hA : AX g l RX10 cX10_all 6 4 J) (hR : ReV cX10_all (fun D1 => D1 283 20 = ((triN n.toNat).length : Int) ∧ outF D1 (triN n.toNat) ∧ (∀ c, c ≠ 283 → c ≠ 299 → c ≠ 300 → c ≠ 301 → c ≠ 302 → c ≠ 303 → D1 c = D c) ∧ ∀ i : Int, i ≠ 20 → D1 283 i = D 283 i) J) (hx : ∀ (nx : Int) (f : Nat), (0 ≤ nx ∧ nx ≤ pp) → (pp ≤ nx + f) → (nxN n.toNat (LNs n.toNat j) f nx.toNat = NXs n.toNat j) → (nx = ((NXs n.toNat j : Nat) : Int)) → J 122 [vR 283, vI n, vI pp, vI mn, vI nx, vN] [] G) : ∀ (fuel : Nat) (nx : Int) (f : Nat), (0 ≤ nx ∧ nx ≤ pp) → (pp ≤ nx + f) → (nxN n.toNat (LNs n.toNat j) f nx.toNat = NXs n.toNat j) → pp - nx < (fuel : Int) → J 84 [vR 283, vI n, vI pp, vI mn, vI nx, vN] [] G := by
  intro fuel
  induction fuel with
  | zero => intro nx f hnx hf hN hMs; exact absurd hMs (by omega)
  | succ fuel ih =>
    intro nx f hnx hf hN hMs
    have hple := prs_le (n := n.toNat) (by omega)
    refine q_iload (j := 4) hA rfl dX10_all_84 ?_
    refine q_iload_n (j := 2) hA rfl dX10_all_86 ?_
    refine q_icmp_ge (tgt := 122) hA (by omega) (by omega) dX10_all_87 (by decide) (fun h87 => ?_) (fun h87 => ?_)
    · exact hx _ _ hnx hf hN (by first | (rw [← hN, nx_e (fun z => by omega)]; omega) | (rw [← hN, nx_e (fun z => by rw [hjb.1 h110] at z; cases z.2)]; omega))
    · have hab := ab_lt (n := n.toNat) (i := nx.toNat) (by omega) (by omega)
      have hpj := hG.2.2.2.1 nx.toNat (by omega)
      rw [show ((nx.toNat : Nat) : Int) = nx by omega] at hpj
      have e1 : G 300 nx = (((abN n.toNat nx.toNat).1 : Nat) : Int) := hpj.1
      have e2 : G 301 nx = (((abN n.toNat nx.toNat).2 : Nat) : Int) := hpj.2
      have hjb := jn_B (F := G 303) (o := 0) (n := n.toNat) (a := (abN n.toNat nx.toNat).1) (b := (abN n.toNat nx.toNat).2) hG.2.2.2.2.1.1 (by omega) hab.1 hab.2
      rw [← e1, ← e2, show ((n.toNat : Nat) : Int) = n by omega] at hjb
      refine q_aload_n (j := 0) hA rfl dX10_all_90 ?_
      refine q_getR hA f_X10_69 dX10_all_91 sx_283 (by decide) fx_283_24 ?_
      refine q_iconst hA dX10_all_94 ?_
      refine q_iload_n (j := 1) hA rfl dX10_all_95 ?_
      refine q_aload_n (j := 0) hA rfl dX10_all_96 ?_
      refine q_getR hA f_X10_60 dX10_all_97 sx_283 (by decide) fx_283_21 ?_
      refine q_iload (j := 4) hA rfl dX10_all_100 ?_
      refine q_iald (x := G 300 nx) hA dX10_all_102 sx_300 (by omega) (by decide) rfl ?_
      refine q_aload_n (j := 0) hA rfl dX10_all_103 ?_
      refine q_getR hA f_X10_63 dX10_all_104 sx_283 (by decide) fx_283_22 ?_
      refine q_iload (j := 4) hA rfl dX10_all_107 ?_
      refine q_iald (x := G 301 nx) hA dX10_all_109 sx_301 (by omega) (by decide) rfl ?_
      refine q_callSB (As := [vR 303, vI 0, vI n, vI (G 300 nx), vI (G 301 nx)]) (st := []) hA l_X10_116 kX10_joins (zX10_joins (c := 303) (w := 8) ⟨sx_303, by omega⟩ (by omega) (by omega) (mem8_lk hG.2.2.2.2.1.1 hG.2.2.2.2.1.2) (by omega) (by omega)) dX10_all_110 rfl rfl (Nat.le_of_ble_eq_true rfl) (by omega) (fun h110 => ?_) (fun h110 => ?_)
      · refine q_if_ne (tgt := 122) hA (by decide) dX10_all_113 (by decide) (fun h113 => ?_) (fun h113 => absurd h113 (by decide))
        exact hx _ _ hnx hf hN (by first | (rw [← hN, nx_e (fun z => by omega)]; omega) | (rw [← hN, nx_e (fun z => by rw [hjb.1 h110] at z; cases z.2)]; omega))
      · refine q_if_ne (tgt := 122) hA (by decide) dX10_all_113 (by decide) (fun h113 => absurd h113 (by decide)) (fun h113 => ?_)
        refine q_iinc (j := 4) (lo2 := [vR 283, vI n, vI pp, vI mn, vI (nx + 1), vN]) hA dX10_all_116 rfl (by decide) rfl rfl ?_
        refine q_goto (tgt := 84) hA dX10_all_119 (by decide) ?_
        exact ih _ (f - 1) (by omega) (by omega) (by rw [show (nx + 1).toNat = nx.toNat + 1 by omega, ← nx_s2 ⟨by omega, by cases q : jnB (LNs n.toNat j) n.toNat (abN n.toNat nx.toNat).1 (abN n.toNat nx.toNat).2 with | false => rfl | true => exact absurd (by rw [show (fun p => G 303 (0 + p)) = (fun p => G 303 (0 + p)) from rfl]; exact hjb.2 q) h110⟩ (by omega)]; exact hN) (by omega)
set_option maxHeartbeats 4000000 in
set_option maxRecDepth 100000 in
theorem zX10_all_L16 {g : Gm} {l : Launch} {D : Dat} {n : Int} (hn : 3 ≤ n ∧ n ≤ 8) {pp : Int} (hpp : pp = ((prsN n.toNat).length : Int)) {J : JT} (hA : AX g l RX10 cX10_all 6 4 J) (hR : ReV cX10_all (fun D1 => D1 283 20 = ((triN n.toNat).length : Int) ∧ outF D1 (triN n.toNat) ∧ (∀ c, c ≠ 283 → c ≠ 299 → c ≠ 300 → c ≠ 301 → c ≠ 302 → c ≠ 303 → D1 c = D c) ∧ ∀ i : Int, i ≠ 20 → D1 283 i = D 283 i) J) : ∀ (fuel : Nat) (mn : Int) (nx : Int) (j : Nat) (E : Dat), (j ≤ stpN n.toNat) → (alR n.toNat j D E mn nx) → (stpN n.toNat : Int) - j < (fuel : Int) → J 16 [vR 283, vI n, vI pp, vI mn, vI nx, vN] [] E := by
  intro fuel
  induction fuel with
  | zero => intro mn nx j E hj hal hMs; exact absurd hMs (by omega)
  | succ fuel ih =>
    intro mn nx j E hj hal hMs
    have hmn0 := hal.1
    have hok0 := (okA_run (n := n.toNat) (by omega) j).1
    refine q_iload_n (j := 3) hA rfl dX10_all_16 ?_
    refine q_if_lt (tgt := 169) hA (by omega) dX10_all_17 (by decide) (fun h17 => ?_) (fun h17 => ?_)
    · exact hR 169 _ _ dX10_all_169 (by have e0 : (runN n.toNat j).1 = 0 := (by have := hal.1; omega); have ho := run_out hj e0; obtain ⟨a1, a2, a3, a4, a5, a6, a7, a8⟩ := hal; rw [ho] at a4 a5; exact ⟨a4, a5, a7, a8⟩)
    · have hr0 : (runN n.toNat j).1 ≠ 0 := by have := hal.1; omega
      have hjl := run_lt (n := n.toNat) (by omega) hr0
      have hok := okA_run (n := n.toNat) (by omega) j
      have hmj : mn.toNat = (runN n.toNat j).1 - 1 := by have := hal.1; omega
      have htk := hal.tk (by omega)
      rw [← hmj] at htk
      have hmn := hal.1
      have hnx := hal.2.1
      have hok1 := hok.1
      have hple := prs_le (n := n.toNat) (by omega)
      refine q_aload_n (j := 0) hA rfl dX10_all_20 ?_
      refine q_iload_n (j := 1) hA rfl dX10_all_21 ?_
      refine q_iload_n (j := 3) hA rfl dX10_all_22 ?_
      refine q_callVV (b := 283) (As := [vI n, vI mn]) (st := []) hA l_X10_256 kX10_lays (zX10_lays (tk := (runN n.toNat j).2.2.1) hn (by omega) htk hal.2.2.2.2.2.1) dX10_all_23 rfl rfl sx_283 (by decide) rfl (Nat.le_of_ble_eq_true rfl) (by omega) (fun D23 q23 => ?_)
      rw [hmj] at q23
      refine q_iload_n (j := 3) hA rfl dX10_all_26 ?_
      refine q_iload_n (j := 1) hA rfl dX10_all_27 ?_
      refine q_iconst hA dX10_all_28 ?_
      refine q_isub hA dX10_all_29 ?_
      refine q_nmD (fun G eG => ?_)
      subst eG
      have hG1 : (runN n.toNat j).1 ≠ n.toNat - 2 → alG n.toNat j D G := fun z => alG_1 hal q23 z
      refine q_icmp_ne (tgt := 84) hA (by omega) (by omega) dX10_all_30 (by decide) (fun h30 => ?_) (fun h30 => ?_)
      · try have hG := hG1 (by omega)
        refine zX10_all_L84 (D := D) (n := n) hn hpp hG hA hR (fun nx f hnx hf hN hx => ?_) 1000 _ 21 (by omega) (by omega) (by first | (unfold NXs LNs; rw [if_neg (by omega)]; rw [show nx.toNat = (runN n.toNat j).2.1 by omega]) | (unfold NXs LNs; rw [if_pos (by omega), show pp.toNat = (prsN n.toNat).length by omega])) (by omega)
        refine q_iload (j := 4) hA rfl dX10_all_122 ?_
        refine q_iload_n (j := 2) hA rfl dX10_all_124 ?_
        refine q_icmp_ge (tgt := 145) hA (by omega) (by omega) dX10_all_125 (by decide) (fun h125 => ?_) (fun h125 => ?_)
        · refine q_iinc (j := 3) (lo2 := [vR 283, vI n, vI pp, vI (mn + (-1)), vI nx, vN]) hA dX10_all_145 rfl (by decide) rfl rfl ?_
          refine q_iload_n (j := 3) hA rfl dX10_all_148 ?_
          refine q_if_lt (tgt := 163) hA (by omega) dX10_all_149 (by decide) (fun h149 => ?_) (fun h149 => ?_)
          · refine q_iconst hA dX10_all_163 ?_
            refine q_istore (j := 4) (lo2 := [vR 283, vI n, vI pp, vI (mn + (-1)), vI 0, vN]) hA dX10_all_164 (by decide) rfl rfl ?_
            refine q_goto (tgt := 16) hA dX10_all_166 (by decide) ?_
            exact ih _ _ (j + 1) _ (by omega) (by first | exact alR_a (by omega) hG hr0 hmn hx (by omega) | (rw [show mn + (-1) = mn - 1 by omega]; exact alR_b (by omega) hG hr0 hmn hx (by omega) (by first | (left; exact ⟨by omega, rfl⟩) | (right; exact ⟨by omega, by first | rfl | rw [show mn + (-1) = mn - 1 by omega]⟩)))) (by omega)
          · refine q_aload_n (j := 0) hA rfl dX10_all_152 ?_
            refine q_getR hA f_X10_66 dX10_all_153 sx_283 (by decide) fx_283_23 ?_
            refine q_iload_n (j := 3) hA rfl dX10_all_156 ?_
            refine q_iald (x := G 302 (mn + (-1))) hA dX10_all_157 sx_302 (by omega) (by decide) rfl ?_
            refine q_iconst hA dX10_all_158 ?_
            refine q_iadd hA dX10_all_159 ?_
            refine q_goto (tgt := 164) hA dX10_all_160 (by decide) ?_
            refine q_istore (j := 4) (lo2 := [vR 283, vI n, vI pp, vI (mn + (-1)), vI ((G 302 (mn + (-1))) + 1), vN]) hA dX10_all_164 (by decide) rfl rfl ?_
            refine q_goto (tgt := 16) hA dX10_all_166 (by decide) ?_
            exact ih _ _ (j + 1) _ (by omega) (by first | exact alR_a (by omega) hG hr0 hmn hx (by omega) | (rw [show mn + (-1) = mn - 1 by omega]; exact alR_b (by omega) hG hr0 hmn hx (by omega) (by first | (left; exact ⟨by omega, rfl⟩) | (right; exact ⟨by omega, by first | rfl | rw [show mn + (-1) = mn - 1 by omega]⟩)))) (by omega)
        · have hne : (runN n.toNat j).1 ≠ n.toNat - 2 := fun q => by have := nx_full q; omega
          refine q_aload_n (j := 0) hA rfl dX10_all_128 ?_
          refine q_getR hA f_X10_66 dX10_all_129 sx_283 (by decide) fx_283_23 ?_
          refine q_iload_n (j := 3) hA rfl dX10_all_132 ?_
          refine q_iload (j := 4) hA rfl dX10_all_133 ?_
          refine q_iast hA dX10_all_135 sx_302 (by omega) (by decide) ?_
          refine q_iinc (j := 3) (lo2 := [vR 283, vI n, vI pp, vI (mn + 1), vI nx, vN]) hA dX10_all_136 rfl (by decide) rfl rfl ?_
          refine q_iinc (j := 4) (lo2 := [vR 283, vI n, vI pp, vI (mn + 1), vI (nx + 1), vN]) hA dX10_all_139 rfl (by decide) rfl rfl ?_
          refine q_goto (tgt := 16) hA dX10_all_142 (by decide) ?_
          exact ih _ _ (j + 1) _ (by omega) (by first | exact alR_a (by omega) hG hr0 hmn hx (by omega) | (rw [show mn + (-1) = mn - 1 by omega]; exact alR_b (by omega) hG hr0 hmn hx (by omega) (by first | (left; exact ⟨by omega, rfl⟩) | (right; exact ⟨by omega, by first | rfl | rw [show mn + (-1) = mn - 1 by omega]⟩)))) (by omega)
      · have e20 : G 283 20 = ((runN n.toNat j).2.2.2.length : Int) := by rw [q23.2.2 283 (by omega)]; exact hal.2.2.2.1
        have hol := out_le (n := n.toNat) (j := j) 1
        have hol2 := out_le (n := n.toNat) (j := j + 1) (stpN n.toNat - (j + 1))
        rw [show j + 1 + (stpN n.toNat - (j + 1)) = stpN n.toNat by omega] at hol2
        have hse := (stp_end (n := n.toNat) (by omega)).2
        have hol3 : (runN n.toNat (j + 1)).2.2.2.length = (runN n.toNat j).2.2.2.length + 1 := by rw [runN]; exact out_full (by omega) (by omega) hr0 trivial
        have hFr : 0 ≤ G 283 20 ∧ G 283 20 ≤ 131 := by omega
        refine q_iconst hA dX10_all_33 ?_
        refine q_istore (j := 5) (lo2 := [vR 283, vI n, vI pp, vI mn, vI nx, vI 0]) hA dX10_all_34 (by decide) rfl rfl ?_
        refine zX10_all_L36 (D := D) (n := n) hn hFr hA hR (fun k H hk hc hk8 => ?_) 1000 _ _ (by omega) (by exact cpF.z) (by omega)
        refine q_aload_n (j := 0) hA rfl dX10_all_71 ?_
        refine q_dupR hA dX10_all_72 ?_
        refine q_getI (x := H 283 20) hA f_X10_253 dX10_all_73 sx_283 (by decide) rfl ?_
        refine q_iconst hA dX10_all_76 ?_
        refine q_iadd hA dX10_all_77 ?_
        refine q_putI hA f_X10_253 dX10_all_78 sx_283 (by decide) ?_
        refine q_nmD (fun G eG => ?_)
        have hG : alG n.toNat j D G := alG_2 hal q23 (hk8 ▸ hc) eG (by omega)
        refine q_iload_n (j := 2) hA rfl dX10_all_81 ?_
        refine q_istore (j := 4) (lo2 := [vR 283, vI n, vI pp, vI mn, vI pp, vI k]) hA dX10_all_82 (by decide) rfl rfl ?_
        refine q_fgt (lo2 := [vR 283, vI n, vI pp, vI mn, vI pp, vN]) hA ⟨Or.inr rfl, Or.inr rfl, Or.inr rfl, Or.inr rfl, Or.inr rfl, Or.inl rfl, trivial⟩ ?_
        try have hG := hG1 (by omega)
        refine zX10_all_L84 (D := D) (n := n) hn hpp hG hA hR (fun nx f hnx hf hN hx => ?_) 1000 _ 21 (by omega) (by omega) (by first | (unfold NXs LNs; rw [if_neg (by omega)]; rw [show nx.toNat = (runN n.toNat j).2.1 by omega]) | (unfold NXs LNs; rw [if_pos (by omega), show pp.toNat = (prsN n.toNat).length by omega])) (by omega)
        refine q_iload (j := 4) hA rfl dX10_all_122 ?_
        refine q_iload_n (j := 2) hA rfl dX10_all_124 ?_
        refine q_icmp_ge (tgt := 145) hA (by omega) (by omega) dX10_all_125 (by decide) (fun h125 => ?_) (fun h125 => ?_)
        · refine q_iinc (j := 3) (lo2 := [vR 283, vI n, vI pp, vI (mn + (-1)), vI nx, vN]) hA dX10_all_145 rfl (by decide) rfl rfl ?_
          refine q_iload_n (j := 3) hA rfl dX10_all_148 ?_
          refine q_if_lt (tgt := 163) hA (by omega) dX10_all_149 (by decide) (fun h149 => ?_) (fun h149 => ?_)
          · refine q_iconst hA dX10_all_163 ?_
            refine q_istore (j := 4) (lo2 := [vR 283, vI n, vI pp, vI (mn + (-1)), vI 0, vN]) hA dX10_all_164 (by decide) rfl rfl ?_
            refine q_goto (tgt := 16) hA dX10_all_166 (by decide) ?_
            exact ih _ _ (j + 1) _ (by omega) (by first | exact alR_a (by omega) hG hr0 hmn hx (by omega) | (rw [show mn + (-1) = mn - 1 by omega]; exact alR_b (by omega) hG hr0 hmn hx (by omega) (by first | (left; exact ⟨by omega, rfl⟩) | (right; exact ⟨by omega, by first | rfl | rw [show mn + (-1) = mn - 1 by omega]⟩)))) (by omega)
          · refine q_aload_n (j := 0) hA rfl dX10_all_152 ?_
            refine q_getR hA f_X10_66 dX10_all_153 sx_283 (by decide) fx_283_23 ?_
            refine q_iload_n (j := 3) hA rfl dX10_all_156 ?_
            refine q_iald (x := G 302 (mn + (-1))) hA dX10_all_157 sx_302 (by omega) (by decide) rfl ?_
            refine q_iconst hA dX10_all_158 ?_
            refine q_iadd hA dX10_all_159 ?_
            refine q_goto (tgt := 164) hA dX10_all_160 (by decide) ?_
            refine q_istore (j := 4) (lo2 := [vR 283, vI n, vI pp, vI (mn + (-1)), vI ((G 302 (mn + (-1))) + 1), vN]) hA dX10_all_164 (by decide) rfl rfl ?_
            refine q_goto (tgt := 16) hA dX10_all_166 (by decide) ?_
            exact ih _ _ (j + 1) _ (by omega) (by first | exact alR_a (by omega) hG hr0 hmn hx (by omega) | (rw [show mn + (-1) = mn - 1 by omega]; exact alR_b (by omega) hG hr0 hmn hx (by omega) (by first | (left; exact ⟨by omega, rfl⟩) | (right; exact ⟨by omega, by first | rfl | rw [show mn + (-1) = mn - 1 by omega]⟩)))) (by omega)
        · have hne : (runN n.toNat j).1 ≠ n.toNat - 2 := fun q => by have := nx_full q; omega
          refine q_aload_n (j := 0) hA rfl dX10_all_128 ?_
          refine q_getR hA f_X10_66 dX10_all_129 sx_283 (by decide) fx_283_23 ?_
          refine q_iload_n (j := 3) hA rfl dX10_all_132 ?_
          refine q_iload (j := 4) hA rfl dX10_all_133 ?_
          refine q_iast hA dX10_all_135 sx_302 (by omega) (by decide) ?_
          refine q_iinc (j := 3) (lo2 := [vR 283, vI n, vI pp, vI (mn + 1), vI nx, vN]) hA dX10_all_136 rfl (by decide) rfl rfl ?_
          refine q_iinc (j := 4) (lo2 := [vR 283, vI n, vI pp, vI (mn + 1), vI (nx + 1), vN]) hA dX10_all_139 rfl (by decide) rfl rfl ?_
          refine q_goto (tgt := 16) hA dX10_all_142 (by decide) ?_
          exact ih _ _ (j + 1) _ (by omega) (by first | exact alR_a (by omega) hG hr0 hmn hx (by omega) | (rw [show mn + (-1) = mn - 1 by omega]; exact alR_b (by omega) hG hr0 hmn hx (by omega) (by first | (left; exact ⟨by omega, rfl⟩) | (right; exact ⟨by omega, by first | rfl | rw [show mn + (-1) = mn - 1 by omega]⟩)))) (by omega)
set_option maxHeartbeats 4000000 in
set_option maxRecDepth 100000 in
theorem zX10_all {g : Gm} {l : Launch} {D : Dat} {n : Int} (hn : 3 ≤ n ∧ n ≤ 8) : CrV g l 4 mX10_all [vR 283, vI n] D (fun D1 => D1 283 20 = ((triN n.toNat).length : Int) ∧ outF D1 (triN n.toNat) ∧ (∀ c, c ≠ 283 → c ≠ 299 → c ≠ 300 → c ≠ 301 → c ≠ 302 → c ≠ 303 → D1 c = D c) ∧ ∀ i : Int, i ≠ 20 → D1 283 i = D 283 i) := by
  refine Cr.ofV (lo0 := [vR 283, vI n, vN, vN, vN, vN]) (by decide) (Nat.le_of_ble_eq_true rfl) rfl (fun J hA hR => ?_)
  refine q_aload_n (j := 0) hA rfl dX10_all_0 ?_
  refine q_iload_n (j := 1) hA rfl dX10_all_1 ?_
  refine q_callVI (b := 283) (As := [vI n]) (st := []) hA l_X10_250 kX10_pairs (zX10_pairs (by first | assumption | omega | rfl)) dX10_all_2 rfl rfl sx_283 (by decide) rfl (Nat.le_of_ble_eq_true rfl) (by omega) (fun v2 D2 q2 => ?_)
  refine q_nmI (fun pp epp => ?_)
  refine q_istore_n (j := 2) (lo2 := [vR 283, vI n, vI pp, vN, vN, vN]) hA dX10_all_5 (by decide) rfl rfl ?_
  have hpp : pp = ((prsN n.toNat).length : Int) := epp.trans q2.1
  refine q_iconst hA dX10_all_6 ?_
  refine q_istore_n (j := 3) (lo2 := [vR 283, vI n, vI pp, vI 0, vN, vN]) hA dX10_all_7 (by decide) rfl rfl ?_
  refine q_iconst hA dX10_all_8 ?_
  refine q_istore (j := 4) (lo2 := [vR 283, vI n, vI pp, vI 0, vI 0, vN]) hA dX10_all_9 (by decide) rfl rfl ?_
  refine q_aload_n (j := 0) hA rfl dX10_all_11 ?_
  refine q_iconst hA dX10_all_12 ?_
  refine q_putI hA f_X10_253 dX10_all_13 sx_283 (by decide) ?_
  show J _ _ _ (upD D2 283 20 0)
  refine zX10_all_L16 (D := D) (n := n) hn hpp hA hR 2000 _ _ 0 _ (by omega) (by exact alR_0 q2.2.1 q2.2.2) (by have := stp_le (n := n.toNat); omega)
