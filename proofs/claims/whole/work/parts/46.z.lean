set_option maxHeartbeats 4000000 in
set_option maxRecDepth 100000 in
theorem zX4_enqueue {g : Gm} {l : Launch} {D : Dat} {z : Int} {s : Int} {e : Int} (hz : z = -4 ∨ (0 ≤ z ∧ z < 64)) (hs : 0 ≤ s ∧ s ≤ 255) (he : 0 ≤ e ∧ e ≤ 3328) : CrI g l 2 mX4_enqueue [vR 190, vI z, vI s, vI e] D (fun v D1 => enqQ D D1 v z s e) := by
  refine Cr.ofI (lo0 := [vR 190, vI z, vI s, vI e, vN, vN]) (by decide) (Nat.le_of_ble_eq_true rfl) rfl (fun J hA hR => ?_)
  refine q_iload_n (j := 1) hA rfl dX4_enqueue_0 ?_
  refine q_if_lt (tgt := 21) hA (by omega) dX4_enqueue_1 (by decide) (fun h1 => ?_) (fun h1 => ?_)
  · refine q_iload_n (j := 3) hA rfl dX4_enqueue_21 ?_
    exact hR 22 _ _ _ dX4_enqueue_22 (by exact Or.inl ⟨by omega, rfl, rfl⟩)
  · refine q_iload_n (j := 1) hA rfl dX4_enqueue_4 ?_
    refine q_bipush hA (by decide) dX4_enqueue_5 ?_
    refine q_icmp_ge (tgt := 21) hA (by omega) (by omega) dX4_enqueue_7 (by decide) (fun h7 => ?_) (fun h7 => ?_)
    · refine q_iload_n (j := 3) hA rfl dX4_enqueue_21 ?_
      exact hR 22 _ _ _ dX4_enqueue_22 (by exact Or.inl ⟨by omega, rfl, rfl⟩)
    · refine q_iload_n (j := 3) hA rfl dX4_enqueue_10 ?_
      refine q_if_lt (tgt := 21) hA (by omega) dX4_enqueue_11 (by decide) (fun h11 => ?_) (fun h11 => ?_)
      · refine q_iload_n (j := 3) hA rfl dX4_enqueue_21 ?_
        exact hR 22 _ _ _ dX4_enqueue_22 (by exact Or.inl ⟨by omega, rfl, rfl⟩)
      · refine q_iload_n (j := 3) hA rfl dX4_enqueue_14 ?_
        refine q_sipush hA (by decide) dX4_enqueue_15 ?_
        refine q_icmp_lt (tgt := 23) hA (by omega) (by omega) dX4_enqueue_18 (by decide) (fun h18 => ?_) (fun h18 => ?_)
        · refine q_iload_n (j := 1) hA rfl dX4_enqueue_23 ?_
          refine q_sipush hA (by decide) dX4_enqueue_24 ?_
          refine q_imul hA dX4_enqueue_27 ?_
          refine q_iload_n (j := 2) hA rfl dX4_enqueue_28 ?_
          refine q_iconst hA dX4_enqueue_29 ?_
          refine q_iload_n (j := 1) hA rfl dX4_enqueue_30 ?_
          refine q_callSP (As := [vI z]) (st := [vI 1, vI s, vI (z * 256)]) hA l_X4_47 kX4_frontOf (zX4_frontOf (by omega)) dX4_enqueue_31 rfl rfl (Nat.le_of_ble_eq_true rfl) (by omega) ?_
          refine q_nmI (fun f ef => ?_)
          refine q_ishl hA dX4_enqueue_34 ?_
          refine q_ior hA dX4_enqueue_35 ?_
          rw [show iOr s (iShl 1 f) = sb s f from or8 (by omega) (by omega)]
          refine q_iadd hA dX4_enqueue_36 ?_
          refine q_nmI (fun t et => ?_)
          refine q_istore (j := 4) (lo2 := [vR 190, vI z, vI s, vI e, vI t, vN]) hA dX4_enqueue_37 (by decide) rfl rfl ?_
          have hsb := sb_in (x := s) (k := f) (by omega) (by omega)
          have htt : t = z * 256 + sb s (z / 8) := by rw [et, ef]
          have ht0 : 0 ≤ t ∧ t < 16384 := by omega
          refine q_iconst hA dX4_enqueue_39 ?_
          refine q_iload (j := 4) hA rfl dX4_enqueue_40 ?_
          refine q_bipush hA (by decide) dX4_enqueue_42 ?_
          refine q_irem hA (by omega) (by omega) dX4_enqueue_44 ?_
          refine q_ishl hA dX4_enqueue_45 ?_
          refine q_nmI (fun bi ebi => ?_)
          refine q_istore (j := 5) (lo2 := [vR 190, vI z, vI s, vI e, vI t, vI bi]) hA dX4_enqueue_46 (by decide) rfl rfl ?_
          refine q_aload_n (j := 0) hA rfl dX4_enqueue_48 ?_
          refine q_getR hA f_X4_24 dX4_enqueue_49 sx_190 (by decide) fx_190_4 ?_
          refine q_iload (j := 4) hA rfl dX4_enqueue_52 ?_
          refine q_bipush hA (by decide) dX4_enqueue_54 ?_
          refine q_idiv hA (by omega) (by omega) dX4_enqueue_56 ?_
          refine q_iald (x := D 195 (t / 32)) hA dX4_enqueue_57 sx_195 (by omega) (by decide) rfl ?_
          refine q_iload (j := 5) hA rfl dX4_enqueue_58 ?_
          refine q_iand hA dX4_enqueue_60 ?_
          refine q_if_eq (tgt := 66) hA (iAnd_in _ _) dX4_enqueue_61 (by decide) (fun h61 => ?_) (fun h61 => ?_)
          · refine q_aload_n (j := 0) hA rfl dX4_enqueue_66 ?_
            refine q_getR hA f_X4_24 dX4_enqueue_67 sx_190 (by decide) fx_190_4 ?_
            refine q_iload (j := 4) hA rfl dX4_enqueue_70 ?_
            refine q_bipush hA (by decide) dX4_enqueue_72 ?_
            refine q_idiv hA (by omega) (by omega) dX4_enqueue_74 ?_
            refine q_dup2IR hA dX4_enqueue_75 ?_
            refine q_iald (x := D 195 (t / 32)) hA dX4_enqueue_76 sx_195 (by omega) (by decide) rfl ?_
            refine q_iload (j := 5) hA rfl dX4_enqueue_77 ?_
            refine q_ior hA dX4_enqueue_79 ?_
            refine q_iast hA dX4_enqueue_80 sx_195 (by omega) (by decide) ?_
            refine q_aload_n (j := 0) hA rfl dX4_enqueue_81 ?_
            refine q_getR hA f_X4_21 dX4_enqueue_82 sx_190 (by decide) fx_190_3 ?_
            refine q_iload_n (j := 3) hA rfl dX4_enqueue_85 ?_
            refine q_iload (j := 4) hA rfl dX4_enqueue_86 ?_
            refine q_iast hA dX4_enqueue_88 sx_194 (by omega) (by decide) ?_
            refine q_iload_n (j := 3) hA rfl dX4_enqueue_89 ?_
            refine q_iconst hA dX4_enqueue_90 ?_
            refine q_iadd hA dX4_enqueue_91 ?_
            exact hR 92 _ _ _ dX4_enqueue_92 (by exact Or.inr (Or.inr ⟨by omega, by rw [← htt]; unfold bitW; rw [← ebi]; exact fun w => w h61, rfl, by rw [← htt, ebi]⟩))
          · refine q_iload_n (j := 3) hA rfl dX4_enqueue_64 ?_
            exact hR 65 _ _ _ dX4_enqueue_65 (by exact Or.inr (Or.inl ⟨by omega, by rw [← htt]; unfold bitW; rw [← ebi]; exact h61, rfl, rfl⟩))
        · refine q_iload_n (j := 3) hA rfl dX4_enqueue_21 ?_
          exact hR 22 _ _ _ dX4_enqueue_22 (by exact Or.inl ⟨by omega, rfl, rfl⟩)
set_option maxHeartbeats 4000000 in
set_option maxRecDepth 100000 in
theorem zX4_fewestToSee_L2 {g : Gm} {l : Launch} {D : Dat} {r : Row} (hnx : ∀ z m : Int, 0 ≤ z → z < 64 → 0 ≤ m → m ≤ 2 → D 191 (z * 3 + m) = nxR r z m) (hsy : sym r) (hn8 : rN r ≤ 8) (h26 : cntB (lkB r) 64 ≤ 26) (hz0 : zOk r (D 190 5)) {al : Int} (hal : 0 ≤ al ∧ al ≤ 255)   {J : JT} (hA : AX g l RX4 cX4_fewestToSee 8 3 J) (hR : ReI cX4_fewestToSee (fun v D1 => isTour r (256 * D 190 5 + pw (D 190 5 / 8)) al v ∧ frm 194 2 D D1) J) (hx : ∀ (k : Int) (E : Dat), (0 ≤ k ∧ k ≤ 512) → (∀ i : Int, 0 ≤ i → i < k → E 195 i = 0) → (frm 194 2 D E) → (k = 512) → J 24 [vR 190, vI al, vI k, vN, vN, vN, vN, vN] [] E) : ∀ (fuel : Nat) (k : Int) (E : Dat), (0 ≤ k ∧ k ≤ 512) → (∀ i : Int, 0 ≤ i → i < k → E 195 i = 0) → (frm 194 2 D E) → 512 - k < (fuel : Int) → J 2 [vR 190, vI al, vI k, vN, vN, vN, vN, vN] [] E := by
  intro fuel
  induction fuel with
  | zero => intro k E hk he hf hMs; exact absurd hMs (by omega)
  | succ fuel ih =>
    intro k E hk he hf hMs
    refine q_iload_n (j := 2) hA rfl dX4_fewestToSee_2 ?_
    refine q_aload_n (j := 0) hA rfl dX4_fewestToSee_3 ?_
    refine q_getR hA f_X4_24 dX4_fewestToSee_4 sx_190 (by decide) fx_190_4 ?_
    refine q_alen hA (Or.inl rfl) dX4_fewestToSee_7 sx_195 ?_
    show J _ _ (vI 512 :: _) _
    refine q_icmp_ge (tgt := 24) hA (by omega) (by omega) dX4_fewestToSee_8 (by decide) (fun h8 => ?_) (fun h8 => ?_)
    · exact hx _ _ hk he hf (by omega)
    · refine q_aload_n (j := 0) hA rfl dX4_fewestToSee_11 ?_
      refine q_getR hA f_X4_24 dX4_fewestToSee_12 sx_190 (by decide) fx_190_4 ?_
      refine q_iload_n (j := 2) hA rfl dX4_fewestToSee_15 ?_
      refine q_iconst hA dX4_fewestToSee_16 ?_
      refine q_iast hA dX4_fewestToSee_17 sx_195 (by omega) (by decide) ?_
      refine q_iinc (j := 2) (lo2 := [vR 190, vI al, vI (k + 1), vN, vN, vN, vN, vN]) hA dX4_fewestToSee_18 rfl (by decide) rfl rfl ?_
      refine q_goto (tgt := 2) hA dX4_fewestToSee_21 (by decide) ?_
      exact ih _ _ (by omega) (by intro i i1 i2; by_cases h : i = k; (subst h; exact upD_s); (rw [upD_n (Or.inr h)]; exact he i i1 (by omega))) (by exact hf.up (by omega)) (by omega)
set_option maxHeartbeats 4000000 in
set_option maxRecDepth 100000 in
theorem zX4_fewestToSee_L93 {g : Gm} {l : Launch} {D : Dat} {r : Row} (hnx : ∀ z m : Int, 0 ≤ z → z < 64 → 0 ≤ m → m ≤ 2 → D 191 (z * 3 + m) = nxR r z m) (hsy : sym r) (hn8 : rN r ≤ 8) (h26 : cntB (lkB r) 64 ≤ 26) (hz0 : zOk r (D 190 5)) {al : Int} (hal : 0 ≤ al ∧ al ≤ 255) {k sn : Int}  {J : JT} (hA : AX g l RX4 cX4_fewestToSee 8 3 J) (hR : ReI cX4_fewestToSee (fun v D1 => isTour r (256 * D 190 5 + pw (D 190 5 / 8)) al v ∧ frm 194 2 D D1) J) (hx : ∀ (la : Int) (n : Int) (e : Int) (m : Int) (E : Dat), (0 ≤ m ∧ m ≤ 3) → ((0 ≤ k ∧ k < la) ∧ 0 ≤ n) → (bfI r (E 194) (bitW (E 195)) e) → (bfL r (256 * D 190 5 + pw (D 190 5 / 8)) al (E 194) e la n) → (bfD r al (E 194) (bitW (E 195)) k) → (bfM r (E 194) (bitW (E 195)) k m) → (sn = E 194 k % 256 ∧ sn ≠ al) → (frm 194 2 D E) → (bfM r (E 194) (bitW (E 195)) k 3 ∧ E 194 k % 256 ≠ al) → J 130 [vR 190, vI al, vI e, vI la, vI n, vI k, vI sn, vI m] [] E) : ∀ (fuel : Nat) (la : Int) (n : Int) (e : Int) (m : Int) (E : Dat), (0 ≤ m ∧ m ≤ 3) → ((0 ≤ k ∧ k < la) ∧ 0 ≤ n) → (bfI r (E 194) (bitW (E 195)) e) → (bfL r (256 * D 190 5 + pw (D 190 5 / 8)) al (E 194) e la n) → (bfD r al (E 194) (bitW (E 195)) k) → (bfM r (E 194) (bitW (E 195)) k m) → (sn = E 194 k % 256 ∧ sn ≠ al) → (frm 194 2 D E) → 3 - m < (fuel : Int) → J 93 [vR 190, vI al, vI e, vI la, vI n, vI k, vI sn, vI m] [] E := by
  intro fuel
  induction fuel with
  | zero => intro la n e m E hm hk hI hL hD hM hq hf hMs; exact absurd hMs (by omega)
  | succ fuel ih =>
    intro la n e m E hm hk hI hL hD hM hq hf hMs
    have hle := hI.lx h26
    have hnxE : ∀ z m : Int, 0 ≤ z → z < 64 → 0 ≤ m → m ≤ 2 → E 191 (z * 3 + m) = nxR r z m := by rw [hf 191 (by omega)]; exact hnx
    have hll := hL.1
    have hqk := (hI.2.1 k (by omega) (by omega)).1
    have hq16 := hqk.1
    have hi1 := hI.1
    refine q_iload (j := 7) hA rfl dX4_fewestToSee_93 ?_
    refine q_iconst hA dX4_fewestToSee_95 ?_
    refine q_icmp_ge (tgt := 130) hA (by omega) (by omega) dX4_fewestToSee_96 (by decide) (fun h96 => ?_) (fun h96 => ?_)
    · exact hx _ _ _ _ _ hm hk hI hL hD hM hq hf ⟨by rw [show (3 : Int) = m by omega]; exact hM, by rw [← hq.1]; exact hq.2⟩
    · refine q_aload_n (j := 0) hA rfl dX4_fewestToSee_99 ?_
      refine q_aload_n (j := 0) hA rfl dX4_fewestToSee_100 ?_
      refine q_aload_n (j := 0) hA rfl dX4_fewestToSee_101 ?_
      refine q_getR hA f_X4_21 dX4_fewestToSee_102 sx_190 (by decide) fx_190_3 ?_
      refine q_iload (j := 5) hA rfl dX4_fewestToSee_105 ?_
      refine q_iald (x := E 194 k) hA dX4_fewestToSee_107 sx_194 (by omega) (by decide) rfl ?_
      refine q_sipush hA (by decide) dX4_fewestToSee_108 ?_
      refine q_idiv hA (by omega) (by omega) dX4_fewestToSee_111 ?_
      refine q_iload (j := 7) hA rfl dX4_fewestToSee_112 ?_
      refine q_callVP (b := 190) (As := [vI ((E 194 k) / 256), vI m]) (st := [vR 190]) hA l_X4_67 kX4_behind (zX4_behind hnxE (by omega) (by omega)) dX4_fewestToSee_114 rfl rfl sx_190 (by decide) rfl (Nat.le_of_ble_eq_true rfl) (by omega) ?_
      refine q_nmI (fun y ey => ?_)
      have hyi := bhR_in (r := r) (z := E 194 k / 256) (m := m) hn8
      rw [← ey] at hyi
      refine q_iload (j := 6) hA rfl dX4_fewestToSee_117 ?_
      refine q_iload_n (j := 2) hA rfl dX4_fewestToSee_119 ?_
      refine q_callVI (b := 190) (As := [vI y, vI sn, vI e]) (st := []) hA l_X4_93 kX4_enqueue (zX4_enqueue (by omega) (by omega) (by omega)) dX4_fewestToSee_120 rfl rfl sx_190 (by decide) rfl (Nat.le_of_ble_eq_true rfl) (by omega) (fun v120 D120 q120 => ?_)
      have hst := xq_step h26 hsy hn8 hI hL hD hM hk.1 (by omega) ey hq.1 q120
      refine q_istore_n (j := 2) (lo2 := [vR 190, vI al, vI v120, vI la, vI n, vI k, vI sn, vI m]) hA dX4_fewestToSee_123 (by decide) rfl rfl ?_
      refine q_iinc (j := 7) (lo2 := [vR 190, vI al, vI v120, vI la, vI n, vI k, vI sn, vI (m + 1)]) hA dX4_fewestToSee_124 rfl (by decide) rfl rfl ?_
      refine q_goto (tgt := 93) hA dX4_fewestToSee_127 (by decide) ?_
      exact ih _ _ _ _ _ (by omega) (by exact hk) (by exact hst.1) (by exact hst.2.1) (by exact hst.2.2.1) (by exact hst.2.2.2.1) (by exact ⟨by rw [hst.2.2.2.2.1]; exact hq.1, hq.2⟩) (by exact hf.tr hst.2.2.2.2.2) (by omega)
set_option maxHeartbeats 4000000 in
set_option maxRecDepth 100000 in
theorem zX4_fewestToSee_L43 {g : Gm} {l : Launch} {D : Dat} {r : Row} (hnx : ∀ z m : Int, 0 ≤ z → z < 64 → 0 ≤ m → m ≤ 2 → D 191 (z * 3 + m) = nxR r z m) (hsy : sym r) (hn8 : rN r ≤ 8) (h26 : cntB (lkB r) 64 ≤ 26) (hz0 : zOk r (D 190 5)) {al : Int} (hal : 0 ≤ al ∧ al ≤ 255)   {J : JT} (hA : AX g l RX4 cX4_fewestToSee 8 3 J) (hR : ReI cX4_fewestToSee (fun v D1 => isTour r (256 * D 190 5 + pw (D 190 5 / 8)) al v ∧ frm 194 2 D D1) J) : ∀ (fuel : Nat) (e : Int) (la : Int) (n : Int) (k : Int) (E : Dat), (0 ≤ k ∧ k ≤ la ∧ 0 ≤ n) → (bfI r (E 194) (bitW (E 195)) e) → (bfL r (256 * D 190 5 + pw (D 190 5 / 8)) al (E 194) e la n) → (bfD r al (E 194) (bitW (E 195)) k) → (frm 194 2 D E) → 3329 - k < (fuel : Int) → J 43 [vR 190, vI al, vI e, vI la, vI n, vI k, vN, vN] [] E := by
  intro fuel
  induction fuel with
  | zero => intro e la n k E hk hI hL hD hf hMs; exact absurd hMs (by have := hI.lx h26; have := hL.1; omega)
  | succ fuel ih =>
    intro e la n k E hk hI hL hD hf hMs
    have hle := hI.lx h26
    have hnxE : ∀ z m : Int, 0 ≤ z → z < 64 → 0 ≤ m → m ≤ 2 → E 191 (z * 3 + m) = nxR r z m := by rw [hf 191 (by omega)]; exact hnx
    have hll := hL.1
    refine q_iload (j := 5) hA rfl dX4_fewestToSee_43 ?_
    refine q_sipush hA (by decide) dX4_fewestToSee_45 ?_
    refine q_icmp_ge (tgt := 136) hA (by omega) (by omega) dX4_fewestToSee_48 (by decide) (fun h48 => ?_) (fun h48 => ?_)
    · refine q_bipush hA (by decide) dX4_fewestToSee_136 ?_
      exact hR 138 _ _ _ dX4_fewestToSee_138 ⟨bf_none hsy hn8 hI hL hD (by omega) (by omega), hf⟩
    · refine q_iload (j := 5) hA rfl dX4_fewestToSee_51 ?_
      refine q_iload_n (j := 2) hA rfl dX4_fewestToSee_53 ?_
      refine q_icmp_ge (tgt := 136) hA (by omega) (by omega) dX4_fewestToSee_54 (by decide) (fun h54 => ?_) (fun h54 => ?_)
      · refine q_bipush hA (by decide) dX4_fewestToSee_136 ?_
        exact hR 138 _ _ _ dX4_fewestToSee_138 ⟨bf_none hsy hn8 hI hL hD (by omega) (by omega), hf⟩
      · refine q_iload (j := 5) hA rfl dX4_fewestToSee_57 ?_
        refine q_iload_n (j := 3) hA rfl dX4_fewestToSee_59 ?_
        refine q_icmp_ne (tgt := 68) hA (by omega) (by omega) dX4_fewestToSee_60 (by decide) (fun h60 => ?_) (fun h60 => ?_)
        · have hqk := (hI.2.1 k (by omega) (by omega)).1
          have hq16 := hqk.1
          refine q_aload_n (j := 0) hA rfl dX4_fewestToSee_68 ?_
          refine q_getR hA f_X4_21 dX4_fewestToSee_69 sx_190 (by decide) fx_190_3 ?_
          refine q_iload (j := 5) hA rfl dX4_fewestToSee_72 ?_
          refine q_iald (x := E 194 k) hA dX4_fewestToSee_74 sx_194 (by omega) (by decide) rfl ?_
          refine q_sipush hA (by decide) dX4_fewestToSee_75 ?_
          refine q_irem hA (by omega) (by omega) dX4_fewestToSee_78 ?_
          refine q_nmI (fun sn esn => ?_)
          refine q_istore (j := 6) (lo2 := [vR 190, vI al, vI e, vI la, vI n, vI k, vI sn, vN]) hA dX4_fewestToSee_79 (by decide) rfl rfl ?_
          refine q_iload (j := 6) hA rfl dX4_fewestToSee_81 ?_
          refine q_iload_n (j := 1) hA rfl dX4_fewestToSee_83 ?_
          refine q_icmp_ne (tgt := 90) hA (by omega) (by omega) dX4_fewestToSee_84 (by decide) (fun h84 => ?_) (fun h84 => ?_)
          · refine q_iconst hA dX4_fewestToSee_90 ?_
            refine q_istore (j := 7) (lo2 := [vR 190, vI al, vI e, vI la, vI n, vI k, vI sn, vI 0]) hA dX4_fewestToSee_91 (by decide) rfl rfl ?_
            refine zX4_fewestToSee_L93 (D := D) (r := r) (al := al) hnx hsy hn8 h26 hz0 hal  hA hR (fun la n e m E hm hk hI hL hD hM hq hf hx => ?_) 1000 _ _ _ _ _ (by omega) (by omega) (by exact hI) (by first | exact hL | exact bf_up hsy hn8 hI hL (h60 ▸ hD) (by omega)) (by exact hD) (by intro n n0 n1; omega) (by exact ⟨esn, h84⟩) (by exact hf) (by omega)
            refine q_iinc (j := 5) (lo2 := [vR 190, vI al, vI e, vI la, vI n, vI (k + 1), vI sn, vI m]) hA dX4_fewestToSee_130 rfl (by decide) rfl rfl ?_
            refine q_goto (tgt := 43) hA dX4_fewestToSee_133 (by decide) ?_
            refine q_fgt (lo2 := [vR 190, vI al, vI e, vI la, vI n, vI (k + 1), vN, vN]) hA ⟨Or.inr rfl, Or.inr rfl, Or.inr rfl, Or.inr rfl, Or.inr rfl, Or.inr rfl, Or.inl rfl, Or.inl rfl, trivial⟩ ?_
            exact ih _ _ _ _ _ (by omega) (by exact hI) (by exact hL) (by exact hD.nx hx.2 hx.1) (by exact hf) (by omega)
          · refine q_iload (j := 4) hA rfl dX4_fewestToSee_87 ?_
            exact hR 89 _ _ _ dX4_fewestToSee_89 ⟨by first | exact bf_found (k := k) (Q := E 194) hL (by omega) (by rw [← esn]; exact h84) (by omega) | exact bf_found (k := k) (Q := E 194) (bf_up hsy hn8 hI hL (h60 ▸ hD) (by omega)) (by omega) (by rw [← esn]; exact h84) (by omega), hf⟩
        · refine q_iinc (j := 4) (lo2 := [vR 190, vI al, vI e, vI la, vI (n + 1), vI k, vN, vN]) hA dX4_fewestToSee_63 rfl (by decide) rfl rfl ?_
          refine q_iload_n (j := 2) hA rfl dX4_fewestToSee_66 ?_
          refine q_istore_n (j := 3) (lo2 := [vR 190, vI al, vI e, vI e, vI (n + 1), vI k, vN, vN]) hA dX4_fewestToSee_67 (by decide) rfl rfl ?_
          have hqk := (hI.2.1 k (by omega) (by omega)).1
          have hq16 := hqk.1
          refine q_aload_n (j := 0) hA rfl dX4_fewestToSee_68 ?_
          refine q_getR hA f_X4_21 dX4_fewestToSee_69 sx_190 (by decide) fx_190_3 ?_
          refine q_iload (j := 5) hA rfl dX4_fewestToSee_72 ?_
          refine q_iald (x := E 194 k) hA dX4_fewestToSee_74 sx_194 (by omega) (by decide) rfl ?_
          refine q_sipush hA (by decide) dX4_fewestToSee_75 ?_
          refine q_irem hA (by omega) (by omega) dX4_fewestToSee_78 ?_
          refine q_nmI (fun sn esn => ?_)
          refine q_istore (j := 6) (lo2 := [vR 190, vI al, vI e, vI e, vI (n + 1), vI k, vI sn, vN]) hA dX4_fewestToSee_79 (by decide) rfl rfl ?_
          refine q_iload (j := 6) hA rfl dX4_fewestToSee_81 ?_
          refine q_iload_n (j := 1) hA rfl dX4_fewestToSee_83 ?_
          refine q_icmp_ne (tgt := 90) hA (by omega) (by omega) dX4_fewestToSee_84 (by decide) (fun h84 => ?_) (fun h84 => ?_)
          · refine q_iconst hA dX4_fewestToSee_90 ?_
            refine q_istore (j := 7) (lo2 := [vR 190, vI al, vI e, vI e, vI (n + 1), vI k, vI sn, vI 0]) hA dX4_fewestToSee_91 (by decide) rfl rfl ?_
            refine zX4_fewestToSee_L93 (D := D) (r := r) (al := al) hnx hsy hn8 h26 hz0 hal  hA hR (fun la n e m E hm hk hI hL hD hM hq hf hx => ?_) 1000 _ _ _ _ _ (by omega) (by omega) (by exact hI) (by first | exact hL | exact bf_up hsy hn8 hI hL (h60 ▸ hD) (by omega)) (by exact hD) (by intro n n0 n1; omega) (by exact ⟨esn, h84⟩) (by exact hf) (by omega)
            refine q_iinc (j := 5) (lo2 := [vR 190, vI al, vI e, vI la, vI n, vI (k + 1), vI sn, vI m]) hA dX4_fewestToSee_130 rfl (by decide) rfl rfl ?_
            refine q_goto (tgt := 43) hA dX4_fewestToSee_133 (by decide) ?_
            refine q_fgt (lo2 := [vR 190, vI al, vI e, vI la, vI n, vI (k + 1), vN, vN]) hA ⟨Or.inr rfl, Or.inr rfl, Or.inr rfl, Or.inr rfl, Or.inr rfl, Or.inr rfl, Or.inl rfl, Or.inl rfl, trivial⟩ ?_
            exact ih _ _ _ _ _ (by omega) (by exact hI) (by exact hL) (by exact hD.nx hx.2 hx.1) (by exact hf) (by omega)
          · refine q_iload (j := 4) hA rfl dX4_fewestToSee_87 ?_
            exact hR 89 _ _ _ dX4_fewestToSee_89 ⟨by first | exact bf_found (k := k) (Q := E 194) hL (by omega) (by rw [← esn]; exact h84) (by omega) | exact bf_found (k := k) (Q := E 194) (bf_up hsy hn8 hI hL (h60 ▸ hD) (by omega)) (by omega) (by rw [← esn]; exact h84) (by omega), hf⟩
set_option maxHeartbeats 4000000 in
set_option maxRecDepth 100000 in
theorem zX4_fewestToSee {g : Gm} {l : Launch} {D : Dat} {r : Row} (hnx : ∀ z m : Int, 0 ≤ z → z < 64 → 0 ≤ m → m ≤ 2 → D 191 (z * 3 + m) = nxR r z m) (hsy : sym r) (hn8 : rN r ≤ 8) (h26 : cntB (lkB r) 64 ≤ 26) (hz0 : zOk r (D 190 5)) {al : Int} (hal : 0 ≤ al ∧ al ≤ 255) : CrI g l 3 mX4_fewestToSee [vR 190, vI al] D (fun v D1 => isTour r (256 * D 190 5 + pw (D 190 5 / 8)) al v ∧ frm 194 2 D D1) := by
  refine Cr.ofI (lo0 := [vR 190, vI al, vN, vN, vN, vN, vN, vN]) (by decide) (Nat.le_of_ble_eq_true rfl) rfl (fun J hA hR => ?_)
  have hz64 := hz0.1
  refine q_iconst hA dX4_fewestToSee_0 ?_
  refine q_istore_n (j := 2) (lo2 := [vR 190, vI al, vI 0, vN, vN, vN, vN, vN]) hA dX4_fewestToSee_1 (by decide) rfl rfl ?_
  refine zX4_fewestToSee_L2 (D := D) (r := r) (al := al) hnx hsy hn8 h26 hz0 hal  hA hR (fun k E hk he hf hx => ?_) 1000 _ _ (by omega) (by intro i i1 i2; omega) (by exact frm.rf) (by omega)
  have e190 : E 190 5 = D 190 5 := by rw [hf 190 (by omega)]
  refine q_aload_n (j := 0) hA rfl dX4_fewestToSee_24 ?_
  refine q_aload_n (j := 0) hA rfl dX4_fewestToSee_25 ?_
  refine q_getI (x := D 190 5) hA f_X4_40 dX4_fewestToSee_26 sx_190 (by decide) e190 ?_
  refine q_iconst hA dX4_fewestToSee_29 ?_
  refine q_iconst hA dX4_fewestToSee_30 ?_
  refine q_callVI (b := 190) (As := [vI (D 190 5), vI 0, vI 0]) (st := []) hA l_X4_93 kX4_enqueue (zX4_enqueue (by omega) (by omega) (by omega)) dX4_fewestToSee_31 rfl rfl sx_190 (by decide) rfl (Nat.le_of_ble_eq_true rfl) (by omega) (fun v31 D31 q31 => ?_)
  have hB := xq_0 (al := al) hz0 (fun i i0 i1 => he i i0 (by omega)) q31
  have hf31 : frm 194 2 D D31 := fun c c1 => (hB.2.2.2.2 c c1).trans (hf c c1)
  have hv1 := hB.1
  refine q_istore_n (j := 2) (lo2 := [vR 190, vI al, vI v31, vN, vN, vN, vN, vN]) hA dX4_fewestToSee_34 (by decide) rfl rfl ?_
  refine q_iload_n (j := 2) hA rfl dX4_fewestToSee_35 ?_
  refine q_istore_n (j := 3) (lo2 := [vR 190, vI al, vI v31, vI v31, vN, vN, vN, vN]) hA dX4_fewestToSee_36 (by decide) rfl rfl ?_
  refine q_iconst hA dX4_fewestToSee_37 ?_
  refine q_istore (j := 4) (lo2 := [vR 190, vI al, vI v31, vI v31, vI 0, vN, vN, vN]) hA dX4_fewestToSee_38 (by decide) rfl rfl ?_
  refine q_iconst hA dX4_fewestToSee_40 ?_
  refine q_istore (j := 5) (lo2 := [vR 190, vI al, vI v31, vI v31, vI 0, vI 0, vN, vN]) hA dX4_fewestToSee_41 (by decide) rfl rfl ?_
  refine zX4_fewestToSee_L43 (D := D) (r := r) (al := al) hnx hsy hn8 h26 hz0 hal  hA hR 5000 _ _ _ _ _ (by omega) (by rw [hv1]; exact hB.2.1) (by rw [hv1]; exact hB.2.2.1) (by exact hB.2.2.2.1) (by exact hf31) (by omega)
