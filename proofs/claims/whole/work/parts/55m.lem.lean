/-! foldings: both ask the same -/
def lnkS (L : Int → Int) (N : Int) : Prop := ∀ a b : Int, 0 ≤ a → a < N → 0 ≤ b → b < N → tb (L a) b = tb (L b) a
def lnkT (L : Int → Int) (N : Int) : Prop := ∀ a b s : Int, 0 ≤ a → a < N → 0 ≤ b → b < N → tb (L a) b = true → (s = 0 ∨ s = 1) → brM L N a b s = thL N L a b s
theorem thL_bit {L : Int → Int} {N a b s : Int} (h : 0 ≤ thL N L a b s) : tb (L a) (thL N L a b s) = true := by
  have : tb (band (L a) (L b)) (thL N L a b s) = true := by
    unfold thL at h ⊢
    split at h
    · rename_i h1; rw [if_pos h1]; exact thGo_bit _ _ h
    · rename_i h1; rw [if_neg h1]; exact thGo_bit _ _ h
  rw [tb_band, Bool.and_eq_true] at this
  exact this.1
theorem gs_go {L : Int → Int} {N : Int} {f : Int → Int} {o : Int} (hN : 0 < N ∧ N ≤ 8) (hs : lnkS L N) (ht : lnkT L N) : ∀ (k : Nat) {j fr bk : Int}, (0 ≤ fr ∧ fr < N) → (0 ≤ bk ∧ bk < N) → tb (L fr) bk = true → (∀ i : Int, j ≤ i → i < j + k → (0 ≤ f (o + 2 * i) ∧ f (o + 2 * i) ≤ 2) ∧ (0 ≤ f (o + 2 * i + 1) ∧ f (o + 2 * i + 1) ≤ N - 1)) → gsGo L N f o k j fr bk = gxGo L N f o k j fr bk ∧ (gxGo L N f o k j fr bk = -4 ∨ ((0 ≤ gxGo L N f o k j fr bk / 8 ∧ gxGo L N f o k j fr bk / 8 < N) ∧ (0 ≤ gxGo L N f o k j fr bk % 8 ∧ gxGo L N f o k j fr bk % 8 < N) ∧ tb (L (gxGo L N f o k j fr bk / 8)) (gxGo L N f o k j fr bk % 8) = true))
  | 0, j, fr, bk, hf, hb, hl, _ => by
    rw [gsGo, gxGo]
    have e1 : (8 * fr + bk) / 8 = fr := by omega
    have e2 : (8 * fr + bk) % 8 = bk := by omega
    refine ⟨rfl, Or.inr ?_⟩
    rw [e1, e2]
    exact ⟨hf, hb, hl⟩
  | k + 1, j, fr, bk, hf, hb, hl, hw => by
    have w := hw j (by omega) (by omega)
    have e : gsP L N f o j fr bk = gxP L N f o j fr bk := by
      unfold gsP gxP
      by_cases q : f (o + 2 * j) = 2
      · rw [if_pos q, if_pos q]
      · rw [if_neg q, if_neg q]
        exact ht fr bk _ hf.1 hf.2 hb.1 hb.2 hl (by omega)
    rw [gsGo, gxGo, e]
    by_cases q : gxP L N f o j fr bk = f (o + 2 * j + 1)
    · rw [if_pos q, if_pos q]
      have i1 := gxP_in (f := f) (o := o) (j := j) (fr := fr) (L := L) hN.1 hb
      have hl2 : tb (L fr) (gxP L N f o j fr bk) = true := by
        have q0 : 0 ≤ gxP L N f o j fr bk := by omega
        unfold gxP at q0 ⊢
        by_cases q : f (o + 2 * j) = 2
        · rw [if_pos q]; exact hl
        · rw [if_neg q] at q0 ⊢; exact thL_bit q0
      have hx : 0 ≤ gxP L N f o j fr bk ∧ gxP L N f o j fr bk < N := by omega
      exact gs_go hN hs ht k hx hf (by rw [hs _ _ hx.1 hx.2 hf.1 hf.2]; exact hl2) (fun i h1 h2 => hw i (by omega) (by omega))
    · rw [if_neg q, if_neg q]
      exact ⟨rfl, Or.inl rfl⟩
theorem gs_eq {L : Int → Int} {N : Int} {f : Int → Int} {o n : Int} (hN : 0 < N ∧ N ≤ 8) (hs : lnkS L N) (ht : lnkT L N) (hn : 0 ≤ n) (hw : whB f N o n.toNat = true) : gsM L N f o n = gsX L N f o n ∧ ∀ s : Int, s = 0 ∨ s = 1 → ouF s L N f o n = ouX s L N f o n := by
  have h0 := whB_0 hw
  by_cases q : tb (L (f o)) (f (o + 1)) = true
  · have g := gs_go (o := o) (f := f) hN hs ht n.toNat (j := 1) (fr := f o) (bk := f (o + 1)) (by omega) (by omega) q (fun i h1 h2 => whB_at hw i h1 (by omega))
    have e : gsM L N f o n = gsX L N f o n := by
      unfold gsM gsX
      rw [if_pos q, if_pos q]; exact g.1
    have ex : gsX L N f o n = gxGo L N f o n.toNat 1 (f o) (f (o + 1)) := by unfold gsX; rw [if_pos q]
    refine ⟨e, fun s hs2 => ?_⟩
    unfold ouF ouX
    rw [e]
    by_cases w : gsX L N f o n = -4
    · rw [if_pos w, if_pos w]
    · rw [if_neg w, if_neg w]
      have g2 := g.2
      rw [← ex] at g2
      rcases g2 with g2 | g2
      · exact absurd g2 w
      · rw [ht _ _ s g2.1.1 g2.1.2 g2.2.1.1 g2.2.1.2 g2.2.2 hs2]
  · have e1 : gsM L N f o n = -4 := by unfold gsM; rw [if_neg q]
    have e2 : gsX L N f o n = -4 := by unfold gsX; rw [if_neg q]
    refine ⟨by rw [e1, e2], fun s _ => ?_⟩
    unfold ouF ouX
    rw [e1, e2, if_pos rfl, if_pos rfl]
theorem un_S {n c : Nat} (hn : n ≤ 8) (hk : ok1 n c = true) : lnkS (LI (unC c)) n := fun a b a0 a1 b0 b1 => by
  obtain ⟨x, rfl⟩ := toN a0
  obtain ⟨y, rfl⟩ := toN b0
  unfold LI
  rw [Int.toNat_natCast, Int.toNat_natCast, tb_nat, tb_nat]
  exact ((ok1_at hk).1 x (by omega)).2.2.2 y (by omega)
theorem un_T {n c : Nat} (hk : ok2 n c = true) : lnkT (LI (unC c)) n := fun a b s a0 a1 b0 b1 hl hs => by
  obtain ⟨x, rfl⟩ := toN a0
  obtain ⟨y, rfl⟩ := toN b0
  unfold LI at hl
  rw [Int.toNat_natCast, tb_nat] at hl
  have := ok2_at hk (by omega) (by omega) hl
  rcases hs with rfl | rfl
  · exact this.1
  · exact this.2
theorem tri_ST {n : Nat} {L : LL} (hn : 3 ≤ n ∧ n ≤ 8) (h : L ∈ triN n) : lnkS (LI L) n ∧ lnkT (LI L) n := by
  obtain ⟨h1, h2, h3⟩ := tri_in hn h
  obtain ⟨k1, k2, -⟩ := ok_all hn h3
  have e : unC (cdN L) = L := un_cd h1 (fun k hk => by
    rw [List.getD_eq_getElem?_getD, List.getElem?_eq_getElem (by omega)]
    exact h2 _ (List.getElem_mem _))
  rw [← e]
  exact ⟨un_S hn.2 k1, un_T k2⟩
theorem cnt_P {P : LL → Bool} {Ls : List LL} : ∀ k : Nat, k ≤ Ls.length → cntB (fun i => P (Ls.getD i [])) k = (Ls.take k).countP P
  | 0, _ => rfl
  | k + 1, h => by
    rw [cntB, cnt_P k (by omega), List.take_add_one, List.countP_append, List.getD_eq_getElem?_getD, List.getElem?_eq_getElem (show k < Ls.length by omega)]
    simp only [Option.getD_some, Option.toList_some, List.countP_cons, List.countP_nil]
    omega
theorem fd_eq {n : Nat} {f : Int → Int} {o m w : Int} (hn : 3 ≤ n ∧ n ≤ 8) (hm : 0 ≤ m) (hw : whB f n o m.toNat = true) : fdX (triN n) n f o m w = fdA (triN n) n f o m w := by
  have g : ∀ L, L ∈ triN n → gsM (LI L) n f o m = gsX (LI L) n f o m ∧ ∀ s : Int, s = 0 ∨ s = 1 → ouF s (LI L) n f o m = ouX s (LI L) n f o m := fun L hL => gs_eq (by omega) (tri_ST hn hL).1 (tri_ST hn hL).2 hm hw
  have e1 : thF (triN n) n f o m = (((triN n).countP (fun L => decide (gsX (LI L) n f o m ≠ -4)) : Nat) : Int) := by
    unfold thF
    rw [cnt_P (P := fun L => decide (gsM (LI L) n f o m ≠ -4)) _ (Nat.le_refl _), List.take_length]
    congr 1
    exact List.countP_congr (fun L hL => by rw [(g L hL).1])
  have e2 : ∀ s : Int, s = 0 ∨ s = 1 → grF s (triN n) n f o m = mx9 (fun k => (((triN n).countP (fun L => decide (ouX s (LI L) n f o m = k)) : Nat) : Int)) 9 := fun s hs => by
    unfold grF
    congr 1
    funext k
    rw [cnt_P (P := fun L => decide (ouF s (LI L) n f o m = k)) _ (Nat.le_refl _), List.take_length]
    congr 1
    exact List.countP_congr (fun L hL => by rw [(g L hL).2 s hs])
  unfold fdX fdA
  rw [e1, e2 0 (Or.inl rfl), e2 1 (Or.inr rfl)]
/-! the same items at other places -/
def sameF (f h : Int → Int) (o p k : Int) : Prop := ∀ i : Int, 0 ≤ i → i < k → f (o + i) = h (p + i)
theorem sameF.at {f h : Int → Int} {o p k i x y : Int} (s : sameF f h o p k) (h0 : 0 ≤ i) (h1 : i < k) (ex : x = o + i) (ey : y = p + i) : f x = h y := by rw [ex, ey]; exact s i h0 h1
theorem whB_f {f h : Int → Int} {N o p k : Int} (s : sameF f h o p k) : ∀ n : Nat, 2 + 2 * (n : Int) ≤ k → whB f N o n = whB h N p n
  | 0, hk => by rw [whB, whB, s.at (i := 0) (y := p) (by omega) (by omega) (by omega) (by omega), s.at (i := 1) (x := o + 1) (y := p + 1) (by omega) (by omega) (by omega) (by omega)]
  | n + 1, hk => by
    rw [whB, whB, whB_f s n (by omega), s.at (i := 2 * ((n : Int) + 1)) (x := o + 2 * ((n : Int) + 1)) (y := p + 2 * ((n : Int) + 1)) (by omega) (by omega) (by omega) (by omega), s.at (i := 2 * ((n : Int) + 1) + 1) (x := o + 2 * ((n : Int) + 1) + 1) (y := p + 2 * ((n : Int) + 1) + 1) (by omega) (by omega) (by omega) (by omega)]
theorem gsGo_f {L : Int → Int} {N : Int} {f h : Int → Int} {o p k : Int} (s : sameF f h o p k) : ∀ (n : Nat) {j fr bk : Int}, 1 ≤ j → 2 * j + 2 * (n : Int) ≤ k → gsGo L N f o n j fr bk = gsGo L N h p n j fr bk
  | 0, j, fr, bk, _, _ => by rw [gsGo, gsGo]
  | n + 1, j, fr, bk, h0, hk => by
    have e1 : f (o + 2 * j) = h (p + 2 * j) := s (2 * j) (by omega) (by omega)
    have e2 : f (o + 2 * j + 1) = h (p + 2 * j + 1) := s.at (i := 2 * j + 1) (by omega) (by omega) (by omega) (by omega)
    have e3 : gsP L N f o j fr bk = gsP L N h p j fr bk := by unfold gsP; rw [e1]
    rw [gsGo, gsGo, e3, e2, gsGo_f s n (by omega) (by omega)]
theorem gsM_f {L : Int → Int} {N : Int} {f h : Int → Int} {o p k n : Int} (s : sameF f h o p k) (hn : 0 ≤ n) (hk : 2 + 2 * n ≤ k) : gsM L N f o n = gsM L N h p n := by
  unfold gsM
  rw [s.at (i := 0) (x := o) (y := p) (by omega) (by omega) (by omega) (by omega), s.at (i := 1) (x := o + 1) (y := p + 1) (by omega) (by omega) (by omega) (by omega), gsGo_f s n.toNat (by omega) (by omega)]
theorem fdA_f {Ls : List LL} {N : Int} {f h : Int → Int} {o p k n w : Int} (s : sameF f h o p k) (hn : 0 ≤ n) (hk : 2 + 2 * n ≤ k) : fdA Ls N f o n w = fdA Ls N h p n w := by
  have e : ∀ L, gsM L N f o n = gsM L N h p n := fun L => gsM_f s hn hk
  unfold fdA thF grF ouF
  simp only [e]
/-! kinds -/
theorem tb_setOf {f : Int → Bool} : ∀ (k : Nat) {z : Int}, 0 ≤ z → tb (setOf f k) z = (decide (z < k) && f z)
  | 0, z, h => by
    rw [setOf, tb_0]
    rw [decide_eq_false (by omega)]; rfl
  | k + 1, z, h => by
    rw [setOf]
    by_cases q : f k = true
    · rw [if_pos q, tb_sb (by omega) h, tb_setOf k h]
      by_cases e : z = k
      · rw [e, q, decide_eq_false (show ¬ (k : Int) < k by omega), decide_eq_true (show (k : Int) = k from rfl), decide_eq_true (show (k : Int) < ((k + 1 : Nat) : Int) by omega)]; rfl
      · rw [decide_eq_false e, Bool.or_false]
        by_cases l : z < k
        · rw [decide_eq_true l, decide_eq_true (show z < ((k + 1 : Nat) : Int) by omega)]
        · rw [decide_eq_false l, decide_eq_false (show ¬ z < ((k + 1 : Nat) : Int) by omega)]
    · rw [if_neg q, tb_setOf k h]
      by_cases e : z = k
      · have q2 : f k = false := by cases w : f k; rfl; exact absurd w q
        rw [e, q2, Bool.and_false, Bool.and_false]
      · by_cases l : z < k
        · rw [decide_eq_true l, decide_eq_true (show z < ((k + 1 : Nat) : Int) by omega)]
        · rw [decide_eq_false l, decide_eq_false (show ¬ z < ((k + 1 : Nat) : Int) by omega)]
theorem isM_fr {f : Int → Int} {kd : Int} : ∀ (n : Nat) (o : Int), isM f kd o (n + 1) = (decide (effK kd (f o) = f (o + 1)) && isM f kd (o + 2) n)
  | 0, o => by
    rw [isM, isM, isM]
    rw [show o + 2 * (((0 : Nat) : Int)) = o by omega]
    simp
  | n + 1, o => by
    rw [isM, isM_fr n o, isM, Bool.and_assoc]
    rw [show o + 2 + 2 * (n : Int) = o + 2 * ((n + 1 : Nat) : Int) by omega]
theorem okM_fr {f : Int → Int} : ∀ (n : Nat) (o : Int), okM f o (n + 1) = (decide (0 ≤ f o ∧ f o ≤ 99) && okM f (o + 2) n)
  | 0, o => by
    rw [okM, okM, okM]
    rw [show o + 2 * (((0 : Nat) : Int)) = o by omega]
    simp
  | n + 1, o => by
    rw [okM, okM_fr n o, okM, Bool.and_assoc]
    rw [show o + 2 + 2 * (n : Int) = o + 2 * ((n + 1 : Nat) : Int) by omega]
theorem tb_big {x z : Int} (hx : 0 ≤ x ∧ x < 64) (hz : 6 ≤ z) : tb x z = false := by
  obtain ⟨n, rfl⟩ := toN hx.1
  obtain ⟨k, rfl⟩ := toN (show 0 ≤ z by omega)
  rw [tb_nat]
  exact Nat.testBit_lt_two_pow (Nat.lt_of_lt_of_le (show n < 2 ^ 6 by omega) (Nat.pow_le_pow_right (by decide) (by omega)))
theorem fit_sp {f : Int → Int} : ∀ (n : Nat) (i set : Int), 0 ≤ set → set < 64 → (okM f i n = false → fitX f n i set = -2) ∧ (okM f i n = true → (0 ≤ fitX f n i set ∧ fitX f n i set < 64) ∧ ∀ z : Int, 0 ≤ z → z < 6 → tb (fitX f n i set) z = (tb set z && ((n == 0 || decide (1 ≤ z)) && isM f z i n)))
  | 0, i, set, h0, h1 => by
    refine ⟨fun h => (by rw [okM] at h; cases h), fun _ => ⟨(by rw [fitX]; exact ⟨h0, h1⟩), fun z _ _ => (by rw [fitX, isM]; simp)⟩⟩
  | n + 1, i, set, h0, h1 => by
    rw [okM_fr, fitX]
    by_cases q : f i < 0 ∨ 99 < f i
    · rw [if_pos q, decide_eq_false (by omega)]
      exact ⟨fun _ => rfl, fun h => by cases h⟩
    · rw [if_neg q, decide_eq_true (by omega), Bool.true_and]
      have hb := band_le (x := set) (y := takeS (f i) (f (i + 1))) (by omega)
      have hb2 : band set (takeS (f i) (f (i + 1))) < 64 := by
        unfold band
        have : set.toNat &&& (takeS (f i) (f (i + 1))).toNat ≤ set.toNat := Nat.and_le_left
        omega
      obtain ⟨g1, g2⟩ := fit_sp n (i + 2) (band set (takeS (f i) (f (i + 1)))) hb.1 hb2
      refine ⟨g1, fun h => ⟨(g2 h).1, fun z z0 z1 => ?_⟩⟩
      rw [(g2 h).2 z z0 z1, tb_band, isM_fr]
      have e : tb (takeS (f i) (f (i + 1))) z = (decide (1 ≤ z) && decide (effK z (f i) = f (i + 1))) := by
        unfold takeS
        rw [tb_setOf 6 z0, decide_eq_true (show z < ((6 : Nat) : Int) by omega), Bool.true_and]
        unfold takeF
        by_cases a : 1 ≤ z <;> by_cases b : effK z (f i) = f (i + 1) <;> simp [a, b]
      rw [e]
      cases tb set z <;> cases decide (1 ≤ z) <;> cases decide (effK z (f i) = f (i + 1)) <;> cases isM f z (i + 2) n <;> simp
theorem fit_eq {f : Int → Int} {n : Nat} {i : Int} (hn : 0 < n) : fitX f n i 62 = if okM f i n = false then -2 else stK f i n := by
  obtain ⟨g1, g2⟩ := fit_sp (f := f) n i 62 (by decide) (by decide)
  by_cases q : okM f i n = false
  · rw [if_pos q]; exact g1 q
  · rw [if_neg q]
    have q2 : okM f i n = true := by cases w : okM f i n; exact absurd w q; rfl
    obtain ⟨g3, g4⟩ := g2 q2
    have hs := setOf_in6 (kdF f i n) (by unfold kdF; rw [decide_eq_false (by decide)]; rfl) 6 (by decide)
    refine tb_ext (m := 6) g3 (by unfold stK; omega) (fun z z0 z1 => ?_)
    rw [g4 z z0 z1]
    unfold stK
    rw [tb_setOf 6 z0, decide_eq_true z1, Bool.true_and]
    unfold kdF
    have e0 : (n == 0) = false := by
      cases w : n == 0
      · rfl
      · have := eq_of_beq w; omega
    rw [e0, Bool.false_or]
    have : z = 0 ∨ z = 1 ∨ z = 2 ∨ z = 3 ∨ z = 4 ∨ z = 5 := by omega
    rcases this with rfl | rfl | rfl | rfl | rfl | rfl
    · rfl
    · rw [show tb 62 1 = true from by decide]; rfl
    · rw [show tb 62 2 = true from by decide]; rfl
    · rw [show tb 62 3 = true from by decide]; rfl
    · rw [show tb 62 4 = true from by decide]; rfl
    · rw [show tb 62 5 = true from by decide]; rfl
theorem isM_f {f h : Int → Int} {o p k kd : Int} (s : sameF f h o p k) : ∀ n : Nat, 2 * (n : Int) ≤ k → isM f kd o n = isM h kd p n
  | 0, _ => rfl
  | n + 1, hk => by
    rw [isM, isM, isM_f s n (by omega), s (2 * n) (by omega) (by omega), s.at (i := 2 * n + 1) (x := o + 2 * n + 1) (y := p + 2 * n + 1) (by omega) (by omega) (by omega) (by omega)]
theorem okM_ff {f h : Int → Int} {o p k : Int} (s : sameF f h o p k) : ∀ n : Nat, 2 * (n : Int) ≤ k → okM f o n = okM h p n
  | 0, _ => rfl
  | n + 1, hk => by
    rw [okM, okM, okM_ff s n (by omega), s (2 * n) (by omega) (by omega)]
theorem stK_f {f h : Int → Int} {o p k : Int} (s : sameF f h o p k) {n : Nat} (hk : 2 * (n : Int) ≤ k) : stK f o n = stK h p n := by
  have : kdF f o n = kdF h p n := by funext z; unfold kdF; rw [isM_f s n hk]
  unfold stK
  rw [this]
theorem knd_eq {f h : Int → Int} {o p n w : Int} (hn : 1 ≤ n) (s : sameF f h o p (2 * n)) : (if w = 0 ∨ fitX f n.toNat o 62 = -2 then fitX f n.toNat o 62 else tryK (fitX f n.toNat o 62)) = kndA h p n w := by
  rw [fit_eq (by omega), okM_ff s n.toNat (by omega), stK_f s (by omega)]
  unfold kndA
  by_cases q : okM h p n.toNat = false
  · rw [if_pos q, if_pos (Or.inr rfl), if_pos q]
  · have hs := setOf_in6 (kdF h p n.toNat) (by unfold kdF; rw [decide_eq_false (by decide)]; rfl) 6 (by decide)
    rw [if_neg q, if_neg q]
    by_cases e : w = 0
    · rw [if_pos (Or.inl e), if_pos e]
    · rw [if_neg e, if_neg (fun z => by rcases z with z | z; exact e z; unfold stK at z; omega)]
