/-! what holds of the foldings that can be laid, for rows -/
theorem eqC_mem {x : Nat} {l : List (List Nat)} (h : eqC x l = true) : ∃ j, j < 24 ∧ x ∈ l.getD j [] := by
  unfold eqC at h
  obtain ⟨c, hc, e⟩ := List.any_eq_true.mp h
  have e2 : c = x := Nat.eq_of_beq_eq_true e
  exact ⟨x % 16777213 % 24, Nat.mod_lt _ (by decide), e2 ▸ hc⟩
theorem stpA_at {n k x w j c : Nat} (h : stpA n k x w = true) (h1 : x ≤ j) (h2 : j < x + w) (hc : c ∈ (sF n k).getD j []) : stpC n k c = true := by
  unfold stpA at h
  have := List.all_eq_true.mp h (j - x) (List.mem_range.mpr (by omega))
  rw [show x + (j - x) = j by omega] at this
  exact List.all_eq_true.mp this c hc
theorem okA3_at {n x w j c : Nat} (h : okA3 n x w = true) (h1 : x ≤ j) (h2 : j < x + w) (hc : c ∈ (sF n (n - 3)).getD j []) : ok1 n c = true ∧ ok2 n c = true ∧ ok3 n c = true := by
  unfold okA3 at h
  have := List.all_eq_true.mp h (j - x) (List.mem_range.mpr (by omega))
  rw [show x + (j - x) = j by omega] at this
  have := List.all_eq_true.mp this c hc
  rw [Bool.and_eq_true, Bool.and_eq_true] at this
  exact ⟨this.1.1, this.1.2, this.2⟩
theorem stp_ok {n k c : Nat} (hn : 3 ≤ n ∧ n ≤ 8) (hk : k < n - 3) (h : eqC c (sF n k) = true) : stpC n k c = true := by
  obtain ⟨j, hj, hc⟩ := eqC_mem h
  have hn2 : n = 3 ∨ n = 4 ∨ n = 5 ∨ n = 6 ∨ n = 7 ∨ n = 8 := by omega
  clear hn h
  rcases hn2 with rfl | rfl | rfl | rfl | rfl | rfl
  · omega
  · have hk2 : k = 0 := by omega
    clear hk
    subst hk2
    · exact stpA_at st_4_0 (Nat.zero_le _) (by omega) hc
  · have hk2 : k = 0 ∨ k = 1 := by omega
    clear hk
    rcases hk2 with rfl | rfl
    · exact stpA_at st_5_0 (Nat.zero_le _) (by omega) hc
    · exact stpA_at st_5_1 (Nat.zero_le _) (by omega) hc
  · have hk2 : k = 0 ∨ k = 1 ∨ k = 2 := by omega
    clear hk
    rcases hk2 with rfl | rfl | rfl
    · exact stpA_at st_6_0 (Nat.zero_le _) (by omega) hc
    · exact stpA_at st_6_1 (Nat.zero_le _) (by omega) hc
    · exact stpA_at st_6_2 (Nat.zero_le _) (by omega) hc
  · have hk2 : k = 0 ∨ k = 1 ∨ k = 2 ∨ k = 3 := by omega
    clear hk
    rcases hk2 with rfl | rfl | rfl | rfl
    · exact stpA_at st_7_0 (Nat.zero_le _) (by omega) hc
    · exact stpA_at st_7_1 (Nat.zero_le _) (by omega) hc
    · exact stpA_at st_7_2 (Nat.zero_le _) (by omega) hc
    · exact stpA_at st_7_3 (Nat.zero_le _) (by omega) hc
  · have hk2 : k = 0 ∨ k = 1 ∨ k = 2 ∨ k = 3 ∨ k = 4 := by omega
    clear hk
    rcases hk2 with rfl | rfl | rfl | rfl | rfl
    · exact stpA_at st_8_0_0 (Nat.zero_le _) (by omega) hc
    · exact stpA_at st_8_1_0 (Nat.zero_le _) (by omega) hc
    · have : (0 ≤ j ∧ j < 12) ∨ (12 ≤ j ∧ j < 24) := by omega
      rcases this with q | q
      · exact stpA_at st_8_2_0 q.1 q.2 hc
      · exact stpA_at st_8_2_12 q.1 q.2 hc
    · have : (0 ≤ j ∧ j < 6) ∨ (6 ≤ j ∧ j < 12) ∨ (12 ≤ j ∧ j < 18) ∨ (18 ≤ j ∧ j < 24) := by omega
      rcases this with q | q | q | q
      · exact stpA_at st_8_3_0 q.1 q.2 hc
      · exact stpA_at st_8_3_6 q.1 q.2 hc
      · exact stpA_at st_8_3_12 q.1 q.2 hc
      · exact stpA_at st_8_3_18 q.1 q.2 hc
    · have : (0 ≤ j ∧ j < 6) ∨ (6 ≤ j ∧ j < 12) ∨ (12 ≤ j ∧ j < 18) ∨ (18 ≤ j ∧ j < 24) := by omega
      rcases this with q | q | q | q
      · exact stpA_at st_8_4_0 q.1 q.2 hc
      · exact stpA_at st_8_4_6 q.1 q.2 hc
      · exact stpA_at st_8_4_12 q.1 q.2 hc
      · exact stpA_at st_8_4_18 q.1 q.2 hc
theorem ok_all {n c : Nat} (hn : 3 ≤ n ∧ n ≤ 8) (h : eqC c (sF n (n - 3)) = true) : ok1 n c = true ∧ ok2 n c = true ∧ ok3 n c = true := by
  obtain ⟨j, hj, hc⟩ := eqC_mem h
  have : n = 3 ∨ n = 4 ∨ n = 5 ∨ n = 6 ∨ n = 7 ∨ n = 8 := by omega
  clear hn h
  rcases this with rfl | rfl | rfl | rfl | rfl | rfl
  · exact okA3_at ok_3 (by omega) (by omega) hc
  · exact okA3_at ok_4 (by omega) (by omega) hc
  · exact okA3_at ok_5 (by omega) (by omega) hc
  · exact okA3_at ok_6 (by omega) (by omega) hc
  · exact okA3_at ok_7 (by omega) (by omega) hc
  · have : (0 ≤ j ∧ j < 3) ∨ (3 ≤ j ∧ j < 6) ∨ (6 ≤ j ∧ j < 9) ∨ (9 ≤ j ∧ j < 12) ∨ (12 ≤ j ∧ j < 15) ∨ (15 ≤ j ∧ j < 18) ∨ (18 ≤ j ∧ j < 21) ∨ (21 ≤ j ∧ j < 24) := by omega
    rcases this with q | q | q | q | q | q | q | q
    · exact okA3_at ok_8_0 q.1 q.2 hc
    · exact okA3_at ok_8_3 q.1 q.2 hc
    · exact okA3_at ok_8_6 q.1 q.2 hc
    · exact okA3_at ok_8_9 q.1 q.2 hc
    · exact okA3_at ok_8_12 q.1 q.2 hc
    · exact okA3_at ok_8_15 q.1 q.2 hc
    · exact okA3_at ok_8_18 q.1 q.2 hc
    · exact okA3_at ok_8_21 q.1 q.2 hc
theorem triC_at {n : Nat} {l : List LL} {L : LL} (h : triC n l = true) (hL : L ∈ l) : L.length = 8 ∧ (∀ x, x ∈ L → x < 256) ∧ eqC (cdN L) (sF n (n - 3)) = true := by
  have := List.all_eq_true.mp h L hL
  rw [Bool.and_eq_true, Bool.and_eq_true] at this
  exact ⟨Nat.eq_of_beq_eq_true this.1.1, fun x hx => Nat.le_of_ble_eq_true (List.all_eq_true.mp this.1.2 x hx), this.2⟩
theorem tri_in {n : Nat} {L : LL} (hn : 3 ≤ n ∧ n ≤ 8) (h : L ∈ triN n) : L.length = 8 ∧ (∀ x, x ∈ L → x < 256) ∧ eqC (cdN L) (sF n (n - 3)) = true := by
  have : n = 3 ∨ n = 4 ∨ n = 5 ∨ n = 6 ∨ n = 7 ∨ n = 8 := by omega
  clear hn
  rcases this with rfl | rfl | rfl | rfl | rfl | rfl
  · exact triC_at tc_3 h
  · exact triC_at tc_4 h
  · exact triC_at tc_5 h
  · exact triC_at tc_6 h
  · exact triC_at tc_7 h
  · rw [tri8] at h; exact triC_at tc_8 h
theorem un_cd {L : LL} (hl : L.length = 8) (h : ∀ k, k < 8 → L.getD k 0 < 256) : unC (cdN L) = L := by
  match L, hl with
  | [a, b, c, d, e, f, g, i], _ =>
    have h0 : a < 256 := h 0 (by omega)
    have h1 : b < 256 := h 1 (by omega)
    have h2 : c < 256 := h 2 (by omega)
    have h3 : d < 256 := h 3 (by omega)
    have h4 : e < 256 := h 4 (by omega)
    have h5 : f < 256 := h 5 (by omega)
    have h6 : g < 256 := h 6 (by omega)
    have h7 : i < 256 := h 7 (by omega)
    have e : cdN [a, b, c, d, e, f, g, i] = a + 256 * b + 65536 * c + 16777216 * d + 4294967296 * e + 1099511627776 * f + 281474976710656 * g + 72057594037927936 * i := rfl
    rw [e]
    unfold unC
    congr 1
    · omega
    congr 1
    · omega
    congr 1
    · omega
    congr 1
    · omega
    congr 1
    · omega
    congr 1
    · omega
    congr 1
    · omega
    congr 1
    · omega
theorem un_len (c : Nat) : (unC c).length = 8 := rfl
theorem un_lt {c k : Nat} : (unC c).getD k 0 < 256 := by
  have : k = 0 ∨ k = 1 ∨ k = 2 ∨ k = 3 ∨ k = 4 ∨ k = 5 ∨ k = 6 ∨ k = 7 ∨ 8 ≤ k := by omega
  rcases this with rfl | rfl | rfl | rfl | rfl | rfl | rfl | rfl | h
  · exact Nat.mod_lt _ (by decide)
  · exact Nat.mod_lt _ (by decide)
  · exact Nat.mod_lt _ (by decide)
  · exact Nat.mod_lt _ (by decide)
  · exact Nat.mod_lt _ (by decide)
  · exact Nat.mod_lt _ (by decide)
  · exact Nat.mod_lt _ (by decide)
  · exact Nat.mod_lt _ (by decide)
  · rw [List.getD_eq_getElem?_getD, List.getElem?_eq_none (by rw [un_len]; exact h)]; decide
theorem ok1_at {n c : Nat} (h : ok1 n c = true) : (∀ p, p < 8 → (unC c).getD p 0 < 2 ^ n ∧ ((unC c).getD p 0).testBit p = false ∧ (p < n ∨ (unC c).getD p 0 = 0) ∧ ∀ q, q < 8 → ((unC c).getD p 0).testBit q = ((unC c).getD q 0).testBit p) ∧ cntB (lkN n (unC c)) 64 ≤ 26 := by
  unfold ok1 at h
  rw [Bool.and_eq_true] at h
  refine ⟨fun p hp => ?_, Nat.le_of_ble_eq_true h.2⟩
  have := List.all_eq_true.mp h.1 p (List.mem_range.mpr hp)
  rw [Bool.and_eq_true, Bool.and_eq_true, Bool.and_eq_true] at this
  obtain ⟨⟨⟨a, b⟩, c⟩, d⟩ := this
  refine ⟨Nat.le_of_ble_eq_true a, by simpa using b, ?_, fun q hq => ?_⟩
  · rcases Bool.or_eq_true_iff.mp c with x | x
    · exact Or.inl (Nat.le_of_ble_eq_true x)
    · exact Or.inr (Nat.eq_of_beq_eq_true x)
  · have := List.all_eq_true.mp d q (List.mem_range.mpr hq)
    exact eq_of_beq this
theorem ok2_at {n c a b : Nat} (h : ok2 n c = true) (ha : a < n) (hb : b < n) (hl : ((unC c).getD a 0).testBit b = true) : brM (LI (unC c)) n a b 0 = thL n (LI (unC c)) a b 0 ∧ brM (LI (unC c)) n a b 1 = thL n (LI (unC c)) a b 1 := by
  unfold ok2 at h
  have := List.all_eq_true.mp (List.all_eq_true.mp h a (List.mem_range.mpr ha)) b (List.mem_range.mpr hb)
  rw [hl] at this
  simpa using this
theorem ok3_at {n c a b : Nat} (h : ok3 n c = true) (ha : a < n) (hb : b < n) (hl : ((unC c).getD a 0).testBit b = true) (h1 : (a + 1) % n ≠ b) (h2 : (b + 1) % n ≠ a) : 0 ≤ thL n (LI (unC c)) a b 0 ∧ 0 ≤ thL n (LI (unC c)) a b 1 ∧ eqC (cdN (jnN (ptN (unC c) a b) (thL n (LI (unC c)) a b 0).toNat (thL n (LI (unC c)) a b 1).toNat)) (sF n (n - 3)) = true := by
  unfold ok3 at h
  have := List.all_eq_true.mp (List.all_eq_true.mp h a (List.mem_range.mpr ha)) b (List.mem_range.mpr hb)
  have g1 : Nat.beq ((a + 1) % n) b = false := by
    cases q : Nat.beq ((a + 1) % n) b
    · rfl
    · exact absurd (Nat.eq_of_beq_eq_true q) h1
  have g2 : Nat.beq ((b + 1) % n) a = false := by
    cases q : Nat.beq ((b + 1) % n) a
    · rfl
    · exact absurd (Nat.eq_of_beq_eq_true q) h2
  rw [hl, g1, g2] at this
  rw [Bool.not_true, Bool.false_or, Bool.false_or, Bool.false_or, Bool.and_eq_true, Bool.and_eq_true] at this
  exact ⟨of_decide_eq_true this.1.1, of_decide_eq_true this.1.2, this.2⟩
theorem stpC_at {n k c a b : Nat} (h : stpC n k c = true) (hab : a < b) (hb : b < n) (hj : jnB (unC c) n a b = true) : eqC (cdN (jnN (unC c) a b)) (sF n (k + 1)) = true ∧ eqC (cdN (jnN (unC c) b a)) (sF n (k + 1)) = true := by
  unfold stpC at h
  have := List.all_eq_true.mp (List.all_eq_true.mp h b (List.mem_range.mpr hb)) a (List.mem_range.mpr hab)
  rw [hj, Bool.not_true, Bool.false_or, Bool.and_eq_true] at this
  have e := Nat.eq_of_beq_eq_true this.2
  exact ⟨this.1, e ▸ this.1⟩
