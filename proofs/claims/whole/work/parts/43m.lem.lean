/-! how it would go in a folding, as the reference asks it -/
def gsP (L : Int → Int) (N : Int) (f : Int → Int) (o j fr bk : Int) : Int := if f (o + 2 * j) = 2 then bk else brM L N fr bk (f (o + 2 * j))
def gsGo (L : Int → Int) (N : Int) (f : Int → Int) (o : Int) : Nat → Int → Int → Int → Int
  | 0, _, fr, bk => 8 * fr + bk
  | k + 1, j, fr, bk => if gsP L N f o j fr bk = f (o + 2 * j + 1) then gsGo L N f o k (j + 1) (gsP L N f o j fr bk) fr else -4
def gsM (L : Int → Int) (N : Int) (f : Int → Int) (o n : Int) : Int := if tb (L (f o)) (f (o + 1)) = true then gsGo L N f o n.toNat 1 (f o) (f (o + 1)) else -4
def whB (f : Int → Int) (N o : Int) : Nat → Bool
  | 0 => decide (0 ≤ f o ∧ f o ≤ N - 1) && (decide (0 ≤ f (o + 1) ∧ f (o + 1) ≤ N - 1) && decide (f o ≠ f (o + 1)))
  | k + 1 => whB f N o k && (decide (0 ≤ f (o + 2 * ((k : Int) + 1)) ∧ f (o + 2 * ((k : Int) + 1)) ≤ 2) && decide (0 ≤ f (o + 2 * ((k : Int) + 1) + 1) ∧ f (o + 2 * ((k : Int) + 1) + 1) ≤ N - 1))
theorem whB_0 {f : Int → Int} {N o : Int} : ∀ {n : Nat}, whB f N o n = true → (0 ≤ f o ∧ f o ≤ N - 1) ∧ (0 ≤ f (o + 1) ∧ f (o + 1) ≤ N - 1) ∧ f o ≠ f (o + 1)
  | 0, h => by
    rw [whB, Bool.and_eq_true, Bool.and_eq_true] at h
    exact ⟨of_decide_eq_true h.1, of_decide_eq_true h.2.1, of_decide_eq_true h.2.2⟩
  | n + 1, h => by
    rw [whB, Bool.and_eq_true] at h
    exact whB_0 h.1
theorem whB_at {f : Int → Int} {N o : Int} : ∀ {n : Nat}, whB f N o n = true → ∀ k : Int, 1 ≤ k → k ≤ n → (0 ≤ f (o + 2 * k) ∧ f (o + 2 * k) ≤ 2) ∧ (0 ≤ f (o + 2 * k + 1) ∧ f (o + 2 * k + 1) ≤ N - 1)
  | 0, h, k, h0, h1 => by omega
  | n + 1, h, k, h0, h1 => by
    rw [whB, Bool.and_eq_true, Bool.and_eq_true] at h
    by_cases q : k = (n : Int) + 1
    · rw [q]; exact ⟨of_decide_eq_true h.2.1, of_decide_eq_true h.2.2⟩
    · exact whB_at h.1 k h0 (by omega)
theorem whB_1 {f : Int → Int} {N o k w : Int} (hk : 1 ≤ k) (h : w = b01 (whB f N o (k - 1).toNat)) (h1 : w ≠ 0) (h2 : 0 ≤ f (o + 2 * k) ∧ f (o + 2 * k) ≤ 2) (h3 : 0 ≤ f (o + 2 * k + 1) ∧ f (o + 2 * k + 1) ≤ N - 1) : (1 : Int) = b01 (whB f N o (k + 1 - 1).toNat) := by
  have e : whB f N o (k - 1).toNat = true := by cases q : whB f N o (k - 1).toNat <;> simp_all [b01]
  rw [show (k + 1 - 1).toNat = (k - 1).toNat + 1 by omega, whB, show (((k - 1).toNat : Nat) : Int) + 1 = k by omega, e, decide_eq_true h2, decide_eq_true h3]; rfl
theorem whB_2 {f : Int → Int} {N o k w : Int} (hk : 1 ≤ k) (h : w = b01 (whB f N o (k - 1).toNat)) (h1 : w = 0 ∨ ¬ (0 ≤ f (o + 2 * k) ∧ f (o + 2 * k) ≤ 2) ∨ ¬ (0 ≤ f (o + 2 * k + 1) ∧ f (o + 2 * k + 1) ≤ N - 1)) : (0 : Int) = b01 (whB f N o (k + 1 - 1).toNat) := by
  rw [show (k + 1 - 1).toNat = (k - 1).toNat + 1 by omega, whB, show (((k - 1).toNat : Nat) : Int) + 1 = k by omega]
  rcases h1 with q | q | q
  · have e : whB f N o (k - 1).toNat = false := b01_f.1 (by rw [← h, q])
    rw [e]; rfl
  · rw [decide_eq_false q, Bool.false_and, Bool.and_false]; rfl
  · rw [decide_eq_false q, Bool.and_false, Bool.and_false]; rfl
theorem whB_s1 {f : Int → Int} {N o : Int} (h1 : 0 ≤ f o ∧ f o ≤ N - 1) (h2 : 0 ≤ f (o + 1) ∧ f (o + 1) ≤ N - 1) (h3 : f o ≠ f (o + 1)) : (1 : Int) = b01 (whB f N o ((1 : Int) - 1).toNat) := by
  show 1 = b01 (whB f N o 0)
  rw [whB, decide_eq_true h1, decide_eq_true h2, decide_eq_true h3]; rfl
theorem whB_s0 {f : Int → Int} {N o : Int} (h : ¬ (0 ≤ f o ∧ f o ≤ N - 1) ∨ ¬ (0 ≤ f (o + 1) ∧ f (o + 1) ≤ N - 1) ∨ f o = f (o + 1)) : (0 : Int) = b01 (whB f N o ((1 : Int) - 1).toNat) := by
  show 0 = b01 (whB f N o 0)
  rw [whB]
  rcases h with q | q | q
  · rw [decide_eq_false q, Bool.false_and]; rfl
  · rw [decide_eq_false q, Bool.false_and, Bool.and_false]; rfl
  · rw [decide_eq_false (show ¬ (f o ≠ f (o + 1)) from fun z => z q), Bool.and_false, Bool.and_false]; rfl
theorem gsP_in {L : Int → Int} {N : Int} {f : Int → Int} {o j fr bk : Int} (hN : 0 < N) (hb : 0 ≤ bk ∧ bk < N) : gsP L N f o j fr bk = -4 ∨ (0 ≤ gsP L N f o j fr bk ∧ gsP L N f o j fr bk < N) := by
  unfold gsP
  split
  · exact Or.inr hb
  · exact brM_in hN
theorem gsGo_in {L : Int → Int} {N : Int} {f : Int → Int} {o : Int} (hN : 0 < N ∧ N ≤ 8) : ∀ (k : Nat) {j fr bk : Int}, 0 ≤ j → (0 ≤ fr ∧ fr < N) → (0 ≤ bk ∧ bk < N) → (∀ i : Int, j ≤ i → i < j + k → 0 ≤ f (o + 2 * i + 1) ∧ f (o + 2 * i + 1) ≤ N - 1) → gsGo L N f o k j fr bk = -4 ∨ ((0 ≤ gsGo L N f o k j fr bk ∧ gsGo L N f o k j fr bk < 64) ∧ gsGo L N f o k j fr bk / 8 < N ∧ gsGo L N f o k j fr bk % 8 < N)
  | 0, j, fr, bk, _, hf, hb, _ => by rw [gsGo]; right; omega
  | k + 1, j, fr, bk, hj, hf, hb, h => by
    rw [gsGo]
    split
    · rename_i q
      have := h j (Int.le_refl _) (by omega)
      exact gsGo_in hN k (by omega) (by omega) hf (fun i i0 i1 => h i (by omega) (by omega))
    · exact Or.inl rfl
theorem gsM_in {L : Int → Int} {N : Int} {f : Int → Int} {o n : Int} (hN : 0 < N ∧ N ≤ 8) (hn : 0 ≤ n) (hw : whB f N o n.toNat = true) : gsM L N f o n = -4 ∨ ((0 ≤ gsM L N f o n ∧ gsM L N f o n < 64) ∧ gsM L N f o n / 8 < N ∧ gsM L N f o n % 8 < N) := by
  have h0 := whB_0 hw
  unfold gsM
  split
  · exact gsGo_in hN n.toNat (by omega) (by omega) (by omega) (fun i i0 i1 => (whB_at hw i i0 (by omega)).2)
  · exact Or.inl rfl
theorem gsGo_c {L L2 : Int → Int} {N : Int} {f : Int → Int} {o : Int} (hN : 0 < N ∧ N ≤ 8) (hL : ∀ p : Int, 0 ≤ p → p < 8 → L p = L2 p) : ∀ (k : Nat) {j fr bk : Int}, 0 ≤ j → (0 ≤ fr ∧ fr < N) → (0 ≤ bk ∧ bk < N) → (∀ i : Int, j ≤ i → i < j + k → 0 ≤ f (o + 2 * i + 1) ∧ f (o + 2 * i + 1) ≤ N - 1) → gsGo L N f o k j fr bk = gsGo L2 N f o k j fr bk
  | 0, j, fr, bk, _, _, _, _ => rfl
  | k + 1, j, fr, bk, hj, hf, hb, h => by
    have e : gsP L N f o j fr bk = gsP L2 N f o j fr bk := by
      unfold gsP
      rw [brM_c (L := L) (L2 := L2) (hL fr hf.1 (by omega)) (hL bk hb.1 (by omega))]
    rw [gsGo, gsGo, e]
    split
    · rename_i q
      have := h j (Int.le_refl _) (by omega)
      exact gsGo_c hN hL k (by omega) (by omega) hf (fun i i0 i1 => h i (by omega) (by omega))
    · rfl
theorem gsM_c {L L2 : Int → Int} {N : Int} {f : Int → Int} {o n : Int} (hN : 0 < N ∧ N ≤ 8) (hn : 0 ≤ n) (hw : whB f N o n.toNat = true) (hL : ∀ p : Int, 0 ≤ p → p < 8 → L p = L2 p) : gsM L N f o n = gsM L2 N f o n := by
  have h0 := whB_0 hw
  unfold gsM
  rw [hL (f o) h0.1.1 (by omega)]
  split
  · exact gsGo_c hN hL n.toNat (by omega) (by omega) (by omega) (fun i i0 i1 => (whB_at hw i i0 (by omega)).2)
  · rfl
/-- what the next move would bring: none of it, if it doesn't go so -/
def ouF (s : Int) (L : Int → Int) (N : Int) (f : Int → Int) (o n : Int) : Int := if gsM L N f o n = -4 then -1 else if brM L N (gsM L N f o n / 8) (gsM L N f o n % 8) s = -4 then 8 else brM L N (gsM L N f o n / 8) (gsM L N f o n % 8) s
theorem ouF_c {s : Int} {L L2 : Int → Int} {N : Int} {f : Int → Int} {o n : Int} (hN : 0 < N ∧ N ≤ 8) (hn : 0 ≤ n) (hw : whB f N o n.toNat = true) (hL : ∀ p : Int, 0 ≤ p → p < 8 → L p = L2 p) : ouF s L N f o n = ouF s L2 N f o n := by
  have e := gsM_c (o := o) hN hn hw hL
  have i := gsM_in (L := L2) (o := o) hN hn hw
  unfold ouF
  rw [e]
  by_cases q : gsM L2 N f o n = -4
  · rw [if_pos q, if_pos q]
  · rw [if_neg q, if_neg q, brM_c (L := L) (L2 := L2) (hL _ (by omega) (by omega)) (hL _ (by omega) (by omega))]
def mx9 (g : Int → Int) : Nat → Int
  | 0 => 0
  | k + 1 => if mx9 g k < g k then g k else mx9 g k
theorem mx9_step {g : Int → Int} {k : Int} (hk : 0 ≤ k) : mx9 g (k + 1).toNat = if mx9 g k.toNat < g k then g k else mx9 g k.toNat := by
  rw [show (k + 1).toNat = k.toNat + 1 by omega, mx9, show ((k.toNat : Nat) : Int) = k by omega]
theorem mx9_in {g : Int → Int} {B : Int} (hB : 0 ≤ B) (h : ∀ k : Int, 0 ≤ k → k < 9 → 0 ≤ g k ∧ g k ≤ B) : ∀ k : Nat, k ≤ 9 → 0 ≤ mx9 g k ∧ mx9 g k ≤ B
  | 0, _ => by rw [mx9]; omega
  | k + 1, hk => by
    have := mx9_in hB h k (by omega)
    have := h k (by omega) (by omega)
    rw [mx9]; split <;> omega
theorem cntB_step {f : Nat → Bool} {k : Int} (hk : 0 ≤ k) : cntB f (k + 1).toNat = cntB f k.toNat + (if f k.toNat then 1 else 0) := by
  rw [show (k + 1).toNat = k.toNat + 1 by omega, cntB]
theorem cntB_c {f g : Nat → Bool} : ∀ k : Nat, (∀ i, i < k → f i = g i) → cntB f k = cntB g k
  | 0, _ => rfl
  | k + 1, h => by rw [cntB, cntB, cntB_c k (fun i hi => h i (by omega)), h k (by omega)]
def LI (L : LL) : Int → Int := fun p => ((L.getD p.toNat 0 : Nat) : Int)
theorem mem8_LI {F : Int → Int} {o : Int} {L : LL} (h : mem8 F o L) : ∀ p : Int, 0 ≤ p → p < 8 → F (o + p) = LI L p := fun p p0 p1 => by
  obtain ⟨k, rfl⟩ := toN p0
  rw [h.2 k (by omega)]; unfold LI; rw [Int.toNat_natCast]
def thF (Ls : List LL) (N : Int) (f : Int → Int) (o n : Int) : Int := (cntB (fun i => decide (gsM (LI (Ls.getD i [])) N f o n ≠ -4)) Ls.length : Nat)
def grF (s : Int) (Ls : List LL) (N : Int) (f : Int → Int) (o n : Int) : Int := mx9 (fun k => (cntB (fun i => decide (ouF s (LI (Ls.getD i [])) N f o n = k)) Ls.length : Nat)) 9
def fdA (Ls : List LL) (N : Int) (f : Int → Int) (o n w : Int) : Int := if w = 0 then thF Ls N f o n else if thF Ls N f o n = 0 then -4 else if grF 1 Ls N f o n < grF 0 Ls N f o n then 1 else 0
theorem upD2 {E : Dat} {c : Nat} {i v k : Int} : upD E c i v c k = if k = i then v else E c k := by
  by_cases q : k = i
  · rw [if_pos q, q, upD_s]
  · rw [if_neg q, upD_n (Or.inr q)]
