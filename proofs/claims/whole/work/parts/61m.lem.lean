/-! the law's loop -/
theorem and31 {x : Int} (h : -2147483648 ≤ x ∧ x ≤ 2147483647) : 0 ≤ iAnd x 31 ∧ iAnd x 31 ≤ 31 := by
  unfold iAnd
  have e : (Int32.ofInt x &&& Int32.ofInt 31).toInt = ((Int32.ofInt x).toBitVec &&& (31#32)).toInt := rfl
  rw [e]
  have h1 : ((Int32.ofInt x).toBitVec &&& (31#32)).toNat ≤ 31 := by
    rw [BitVec.toNat_and]
    exact Nat.and_le_right
  rw [BitVec.toInt_eq_toNat_of_lt (by omega)]
  omega
theorem cs27 {z : Int} (h : 0 ≤ z ∧ z ≤ 26) : z = 0 ∨ z = 1 ∨ z = 2 ∨ z = 3 ∨ z = 4 ∨ z = 5 ∨ z = 6 ∨ z = 7 ∨ z = 8 ∨ z = 9 ∨ z = 10 ∨ z = 11 ∨ z = 12 ∨ z = 13 ∨ z = 14 ∨ z = 15 ∨ z = 16 ∨ z = 17 ∨ z = 18 ∨ z = 19 ∨ z = 20 ∨ z = 21 ∨ z = 22 ∨ z = 23 ∨ z = 24 ∨ z = 25 ∨ z = 26 := by omega
set_option maxHeartbeats 4000000 in
set_option maxRecDepth 100000 in
theorem law_loop {g : Gm} {l : Launch} {d a : Nat} {J : JT} (hA : AX g l RL cL_law 4 d J) (hd : 17 ≤ d) (ha : (gX g).1 = a) (hn : (gX g).2.1 ≤ 3072) (hr : ∀ j, -2147483648 ≤ (gX g).2.2 j ∧ (gX g).2.2 j ≤ 2147483647) (kx : ∀ (lo : List MV) (D : Dat), J 1055 lo [vI 1] D) : ∀ (f : Nat) (i : Int) (D : Dat), 0 ≤ i → i ≤ 3078 → (((gX g).2.1 : Nat) : Int) - i < (f : Int) → I2 D D → J 18 [vZ a, vR 0, vR 283, vI i] [] D := by
  intro f
  have key : ∀ (i : Int) (D : Dat), 0 ≤ i → i ≤ 3078 → (((gX g).2.1 : Nat) : Int) < i + 6 → J 18 [vZ a, vR 0, vR 283, vI i] [] D := fun i D i0 i1 i2 => by
    refine q_iload_n (j := 3) hA rfl dL_law_18 ?_
    refine q_aload_nz (j := 0) hA rfl dL_law_19 ?_
    refine q_alenX hA ha dL_law_20 ?_
    refine q_bipush hA (by decide) dL_law_21 ?_
    refine q_isub hA dL_law_23 ?_
    refine q_icmp_gt (tgt := 1054) hA (by omega) (by omega) dL_law_24 (by decide) (fun h => ?_) (fun h => absurd h (by omega))
    refine q_iconst hA dL_law_1054 ?_
    exact kx _ _
  induction f with
  | zero =>
    intro i D i0 i1 hm h
    exact key i D i0 i1 (by omega)
  | succ f ih =>
    intro i D i0 i1 hm h
    rcases Int.lt_or_le ((gX g).2.1 : Nat) (i + 6) with q | q
    · exact key i D i0 i1 q
    have kk : ∀ D2, I2 D2 D2 → J 1048 [vZ a, vR 0, vR 283, vI i] [] D2 := fun D2 h2 => by
      refine q_iinc (lo2 := [vZ a, vR 0, vR 283, vI (i + 6)]) hA dL_law_1048 rfl (by decide) rfl rfl ?_
      refine q_goto (tgt := 18) hA dL_law_1051 (by decide) ?_
      exact ih (i + 6) D2 (by omega) (by omega) (by omega) h2
    refine q_iload_n (j := 3) hA rfl dL_law_18 ?_
    refine q_aload_nz (j := 0) hA rfl dL_law_19 ?_
    refine q_alenX hA ha dL_law_20 ?_
    refine q_bipush hA (by decide) dL_law_21 ?_
    refine q_isub hA dL_law_23 ?_
    refine q_icmp_gt (tgt := 1054) hA (by omega) (by omega) dL_law_24 (by decide) (fun h => absurd h (by omega)) (fun h9 => ?_)
    refine q_aload_nz (j := 0) hA rfl dL_law_27 ?_
    refine q_iload_n (j := 3) hA rfl dL_law_28 ?_
    refine q_ialdX (x := (gX g).2.2 i.toNat) hA ha dL_law_29 (by omega) (by omega) rfl ?_
    refine q_bipush hA (by decide) dL_law_30 ?_
    refine q_iand hA dL_law_32 ?_
    have h31 := and31 (hr i.toNat)
    generalize iAnd ((gX g).2.2 i.toNat) 31 = z at *
    rcases Int.lt_or_le 26 z with w | w
    · exact q_tblOut (tgt := 1048) hA (by omega) dL_law_33 (Or.inr w) (by decide) (kk D h)
    · rcases cs27 ⟨h31.1, w⟩ with e | e | e | e | e | e | e | e | e | e | e | e | e | e | e | e | e | e | e | e | e | e | e | e | e | e | e
      · subst e; exact q_tblIn (tgt := 156) (off := 123) hA (by decide) dL_law_33 (by decide) rfl (by decide) (lc_feed hA hd ha ⟨i0, by omega⟩ hn hr h kk)
      · subst e; exact q_tblIn (tgt := 179) (off := 146) hA (by decide) dL_law_33 (by decide) rfl (by decide) (lc_strip hA hd ha ⟨i0, by omega⟩ hn hr h kk)
      · subst e; exact q_tblIn (tgt := 192) (off := 159) hA (by decide) dL_law_33 (by decide) rfl (by decide) (lc_picture hA hd ha ⟨i0, by omega⟩ hn hr h kk)
      · subst e; exact q_tblIn (tgt := 225) (off := 192) hA (by decide) dL_law_33 (by decide) rfl (by decide) (lc_as hA hd ha ⟨i0, by omega⟩ hn hr h kk)
      · subst e; exact q_tblIn (tgt := 258) (off := 225) hA (by decide) dL_law_33 (by decide) rfl (by decide) (lc_brings hA hd ha ⟨i0, by omega⟩ hn hr h kk)
      · subst e; exact q_tblIn (tgt := 281) (off := 248) hA (by decide) dL_law_33 (by decide) rfl (by decide) (lc_flex hA hd ha ⟨i0, by omega⟩ hn hr h kk)
      · subst e; exact q_tblIn (tgt := 304) (off := 271) hA (by decide) dL_law_33 (by decide) rfl (by decide) (lc_turn hA hd ha ⟨i0, by omega⟩ hn hr h kk)
      · subst e; exact q_tblIn (tgt := 317) (off := 284) hA (by decide) dL_law_33 (by decide) rfl (by decide) (lc_refold hA hd ha ⟨i0, by omega⟩ hn hr h kk)
      · subst e; exact q_tblIn (tgt := 350) (off := 317) hA (by decide) dL_law_33 (by decide) rfl (by decide) (lc_mend hA hd ha ⟨i0, by omega⟩ hn hr h kk)
      · subst e; exact q_tblIn (tgt := 373) (off := 340) hA (by decide) dL_law_33 (by decide) rfl (by decide) (lc_undo hA hd ha ⟨i0, by omega⟩ hn hr h kk)
      · subst e; exact q_tblIn (tgt := 386) (off := 353) hA (by decide) dL_law_33 (by decide) rfl (by decide) (lc_image hA hd ha ⟨i0, by omega⟩ hn hr h kk)
      · subst e; exact q_tblIn (tgt := 409) (off := 376) hA (by decide) dL_law_33 (by decide) rfl (by decide) (lc_restore hA hd ha ⟨i0, by omega⟩ hn hr h kk)
      · subst e; exact q_tblIn (tgt := 432) (off := 399) hA (by decide) dL_law_33 (by decide) rfl (by decide) (lc_reach hA hd ha ⟨i0, by omega⟩ hn hr h kk)
      · subst e; exact q_tblIn (tgt := 445) (off := 412) hA (by decide) dL_law_33 (by decide) rfl (by decide) (lc_way hA hd ha ⟨i0, by omega⟩ hn hr h kk)
      · subst e; exact q_tblIn (tgt := 478) (off := 445) hA (by decide) dL_law_33 (by decide) rfl (by decide) (lc_tour hA hd ha ⟨i0, by omega⟩ hn hr h kk)
      · subst e; exact q_tblIn (tgt := 491) (off := 458) hA (by decide) dL_law_33 (by decide) rfl (by decide) (lc_round hA hd ha ⟨i0, by omega⟩ hn hr h kk)
      · subst e; exact q_tblIn (tgt := 514) (off := 481) hA (by decide) dL_law_33 (by decide) rfl (by decide) (lc_hand hA hd ha ⟨i0, by omega⟩ hn hr h kk)
      · subst e; exact q_tblIn (tgt := 567) (off := 534) hA (by decide) dL_law_33 (by decide) rfl (by decide) (lc_duel hA hd ha ⟨i0, by omega⟩ hn hr h kk)
      · subst e; exact q_tblIn (tgt := 590) (off := 557) hA (by decide) dL_law_33 (by decide) rfl (by decide) (lc_decades hA hd ha ⟨i0, by omega⟩ hn hr h kk)
      · subst e; exact q_tblIn (tgt := 633) (off := 600) hA (by decide) dL_law_33 (by decide) rfl (by decide) (lc_sheet hA hd ha ⟨i0, by omega⟩ hn hr h kk)
      · subst e; exact q_tblIn (tgt := 676) (off := 643) hA (by decide) dL_law_33 (by decide) rfl (by decide) (lc_drop hA hd ha ⟨i0, by omega⟩ hn hr h kk)
      · subst e; exact q_tblIn (tgt := 699) (off := 666) hA (by decide) dL_law_33 (by decide) rfl (by decide) (lc_item hA hd ha ⟨i0, by omega⟩ hn hr h kk)
      · subst e; exact q_tblIn (tgt := 783) (off := 750) hA (by decide) dL_law_33 (by decide) rfl (by decide) (lc_copy hA hd ha ⟨i0, by omega⟩ hn hr h kk)
      · subst e; exact q_tblIn (tgt := 846) (off := 813) hA (by decide) dL_law_33 (by decide) rfl (by decide) (lc_log hA hd ha ⟨i0, by omega⟩ hn hr h kk)
      · subst e; exact q_tblIn (tgt := 899) (off := 866) hA (by decide) dL_law_33 (by decide) rfl (by decide) (lc_foldings hA hd ha ⟨i0, by omega⟩ hn hr h kk)
      · subst e; exact q_tblIn (tgt := 962) (off := 929) hA (by decide) dL_law_33 (by decide) rfl (by decide) (lc_kinds hA hd ha ⟨i0, by omega⟩ hn hr h kk)
      · subst e; exact q_tblIn (tgt := 1025) (off := 992) hA (by decide) dL_law_33 (by decide) rfl (by decide) (lc_count hA hd ha ⟨i0, by omega⟩ hn hr h kk)
