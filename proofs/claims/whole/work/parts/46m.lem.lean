/-! how the class goes through all foldings -/
def thL (N : Int) (L : Int → Int) (a b s : Int) : Int := if s = 0 then thGo N (band (L a) (L b)) a b 8 1 else thGo N (band (L a) (L b)) b a 8 1
theorem thX_L (r : Row) (a b s : Int) : thX r a b s = thL (rN r) (rL r) a b s := rfl
theorem thL_c {L L2 : Int → Int} {N a b s : Int} (ha : L a = L2 a) (hb : L b = L2 b) : thL N L a b s = thL N L2 a b s := by unfold thL; rw [ha, hb]
theorem thL_in {L : Int → Int} {N a b s : Int} (hn : 0 < N) : thL N L a b s = -4 ∨ (0 ≤ thL N L a b s ∧ thL N L a b s < N) := by
  unfold thL
  split <;> exact thGo_in hn _ _
def gxP (L : Int → Int) (N : Int) (f : Int → Int) (o j fr bk : Int) : Int := if f (o + 2 * j) = 2 then bk else thL N L fr bk (f (o + 2 * j))
def gxGo (L : Int → Int) (N : Int) (f : Int → Int) (o : Int) : Nat → Int → Int → Int → Int
  | 0, _, fr, bk => 8 * fr + bk
  | k + 1, j, fr, bk => if gxP L N f o j fr bk = f (o + 2 * j + 1) then gxGo L N f o k (j + 1) (gxP L N f o j fr bk) fr else -4
def gsX (L : Int → Int) (N : Int) (f : Int → Int) (o n : Int) : Int := if tb (L (f o)) (f (o + 1)) = true then gxGo L N f o n.toNat 1 (f o) (f (o + 1)) else -4
theorem gxP_in {L : Int → Int} {N : Int} {f : Int → Int} {o j fr bk : Int} (hN : 0 < N) (hb : 0 ≤ bk ∧ bk < N) : gxP L N f o j fr bk = -4 ∨ (0 ≤ gxP L N f o j fr bk ∧ gxP L N f o j fr bk < N) := by
  unfold gxP
  split
  · exact Or.inr hb
  · exact thL_in hN
/-- what has been heard -/
def hrdM (D : Dat) (f : Int → Int) (o n : Int) : Prop := D 247 8 = n ∧ D 247 9 = f o ∧ D 247 10 = f (o + 1) ∧ ∀ k : Int, 0 ≤ k → k < n → D 258 k = f (o + 2 * (k + 1)) ∧ D 259 k = f (o + 2 * (k + 1) + 1)
theorem hrdM_c {D E : Dat} {f : Int → Int} {o n : Int} (h : hrdM D f o n) (e : ∀ j : Int, j = 8 ∨ j = 9 ∨ j = 10 → E 247 j = D 247 j) (e1 : E 258 = D 258) (e2 : E 259 = D 259) : hrdM E f o n := by
  unfold hrdM
  rw [e 8 (by omega), e 9 (by omega), e 10 (by omega), e1, e2]; exact h
def ouX (s : Int) (L : Int → Int) (N : Int) (f : Int → Int) (o n : Int) : Int := if gsX L N f o n = -4 then -1 else if thL N L (gsX L N f o n / 8) (gsX L N f o n % 8) s = -4 then 8 else thL N L (gsX L N f o n / 8) (gsX L N f o n % 8) s
theorem gxGo_in {L : Int → Int} {N : Int} {f : Int → Int} {o : Int} (hN : 0 < N ∧ N ≤ 8) : ∀ (k : Nat) {j fr bk : Int}, 0 ≤ j → (0 ≤ fr ∧ fr < N) → (0 ≤ bk ∧ bk < N) → (∀ i : Int, j ≤ i → i < j + k → 0 ≤ f (o + 2 * i + 1) ∧ f (o + 2 * i + 1) ≤ N - 1) → gxGo L N f o k j fr bk = -4 ∨ ((0 ≤ gxGo L N f o k j fr bk ∧ gxGo L N f o k j fr bk < 64) ∧ gxGo L N f o k j fr bk / 8 < N ∧ gxGo L N f o k j fr bk % 8 < N)
  | 0, j, fr, bk, _, hf, hb, _ => by rw [gxGo]; right; omega
  | k + 1, j, fr, bk, hj, hf, hb, h => by
    rw [gxGo]
    split
    · rename_i q
      have := h j (Int.le_refl _) (by omega)
      exact gxGo_in hN k (by omega) (by omega) hf (fun i i0 i1 => h i (by omega) (by omega))
    · exact Or.inl rfl
theorem gsX_in {L : Int → Int} {N : Int} {f : Int → Int} {o n : Int} (hN : 0 < N ∧ N ≤ 8) (hn : 0 ≤ n) (hw : whB f N o n.toNat = true) : gsX L N f o n = -4 ∨ ((0 ≤ gsX L N f o n ∧ gsX L N f o n < 64) ∧ gsX L N f o n / 8 < N ∧ gsX L N f o n % 8 < N) := by
  have h0 := whB_0 hw
  unfold gsX
  split
  · exact gxGo_in hN n.toNat (by omega) (by omega) (by omega) (fun i i0 i1 => (whB_at hw i i0 (by omega)).2)
  · exact Or.inl rfl
theorem gxGo_c {L L2 : Int → Int} {N : Int} {f : Int → Int} {o : Int} (hN : 0 < N ∧ N ≤ 8) (hL : ∀ p : Int, 0 ≤ p → p < 8 → L p = L2 p) : ∀ (k : Nat) {j fr bk : Int}, 0 ≤ j → (0 ≤ fr ∧ fr < N) → (0 ≤ bk ∧ bk < N) → (∀ i : Int, j ≤ i → i < j + k → 0 ≤ f (o + 2 * i + 1) ∧ f (o + 2 * i + 1) ≤ N - 1) → gxGo L N f o k j fr bk = gxGo L2 N f o k j fr bk
  | 0, j, fr, bk, _, _, _, _ => rfl
  | k + 1, j, fr, bk, hj, hf, hb, h => by
    have e : gxP L N f o j fr bk = gxP L2 N f o j fr bk := by
      unfold gxP
      rw [thL_c (L := L) (L2 := L2) (hL fr hf.1 (by omega)) (hL bk hb.1 (by omega))]
    rw [gxGo, gxGo, e]
    split
    · rename_i q
      have := h j (Int.le_refl _) (by omega)
      exact gxGo_c hN hL k (by omega) (by omega) hf (fun i i0 i1 => h i (by omega) (by omega))
    · rfl
theorem gsX_c {L L2 : Int → Int} {N : Int} {f : Int → Int} {o n : Int} (hN : 0 < N ∧ N ≤ 8) (hn : 0 ≤ n) (hw : whB f N o n.toNat = true) (hL : ∀ p : Int, 0 ≤ p → p < 8 → L p = L2 p) : gsX L N f o n = gsX L2 N f o n := by
  have h0 := whB_0 hw
  unfold gsX
  rw [hL (f o) h0.1.1 (by omega)]
  split
  · exact gxGo_c hN hL n.toNat (by omega) (by omega) (by omega) (fun i i0 i1 => (whB_at hw i i0 (by omega)).2)
  · rfl
theorem ouX_c {s : Int} {L L2 : Int → Int} {N : Int} {f : Int → Int} {o n : Int} (hN : 0 < N ∧ N ≤ 8) (hn : 0 ≤ n) (hw : whB f N o n.toNat = true) (hL : ∀ p : Int, 0 ≤ p → p < 8 → L p = L2 p) : ouX s L N f o n = ouX s L2 N f o n := by
  have e := gsX_c (o := o) hN hn hw hL
  have i := gsX_in (L := L2) (o := o) hN hn hw
  unfold ouX
  rw [e]
  by_cases q : gsX L2 N f o n = -4
  · rw [if_pos q, if_pos q]
  · rw [if_neg q, if_neg q, thL_c (L := L) (L2 := L2) (hL _ (by omega) (by omega)) (hL _ (by omega) (by omega))]
def crsP (p q : Nat × Nat) : Prop := ¬ (q.1 = p.1 ∨ q.1 = p.2 ∨ q.2 = p.1 ∨ q.2 = p.2) ∧ (((p.1 < q.1 ∧ q.1 < p.2) ∧ ¬ (p.1 < q.2 ∧ q.2 < p.2)) ∨ (¬ (p.1 < q.1 ∧ q.1 < p.2) ∧ (p.1 < q.2 ∧ q.2 < p.2)))
def crsB (p q : Nat × Nat) : Bool := decide (¬ (q.1 = p.1 ∨ q.1 = p.2 ∨ q.2 = p.1 ∨ q.2 = p.2) ∧ (((p.1 < q.1 ∧ q.1 < p.2) ∧ ¬ (p.1 < q.2 ∧ q.2 < p.2)) ∨ (¬ (p.1 < q.1 ∧ q.1 < p.2) ∧ (p.1 < q.2 ∧ q.2 < p.2))))
def crP (n i : Nat) : Nat → Nat
  | 0 => 0
  | k + 1 => if crsB (abN n i) (abN n k) then crP n i k ||| 2 ^ k else crP n i k
def crN (n i : Nat) : Nat := crP n i (prsN n).length
theorem crP_lt (n i : Nat) : ∀ k, k ≤ 20 → crP n i k < 2 ^ 20
  | 0, _ => by rw [crP]; decide
  | k + 1, h => by
    rw [crP]
    split
    · exact Nat.or_lt_two_pow (crP_lt n i k (by omega)) (Nat.pow_lt_pow_right (by omega) (by omega))
    · exact crP_lt n i k (by omega)
theorem crP_1 {n : Nat} {i k acc : Int} (hk : 0 ≤ k) (ha : acc = (crP n i.toNat k.toNat : Int)) (h : crsP (abN n i.toNat) (abN n k.toNat)) : sb acc k = (crP n i.toNat (k + 1).toNat : Int) := by
  have e : crsB (abN n i.toNat) (abN n k.toNat) = true := decide_eq_true h
  rw [show (k + 1).toNat = k.toNat + 1 by omega, crP, if_pos e, ha]
  unfold sb
  rw [Int.toNat_natCast]
theorem crP_0 {n : Nat} {i k acc : Int} (hk : 0 ≤ k) (ha : acc = (crP n i.toNat k.toNat : Int)) (h : ¬ crsP (abN n i.toNat) (abN n k.toNat)) : acc = (crP n i.toNat (k + 1).toNat : Int) := by
  have e : crsB (abN n i.toNat) (abN n k.toNat) = false := decide_eq_false h
  rw [show (k + 1).toNat = k.toNat + 1 by omega, crP, e, ha]; rfl
theorem wh_f {f : Int → Int} {N o : Int} {n : Nat} (h : ¬ whB f N o n = true) : whB f N o n = false := by cases q : whB f N o n; rfl; exact absurd q h
theorem wh_no0 {f : Int → Int} {N o : Int} {n : Nat} (h : ¬ (0 ≤ f o ∧ f o < N) ∨ ¬ (0 ≤ f (o + 1) ∧ f (o + 1) < N)) : whB f N o n = false := wh_f (fun z => by have := whB_0 z; omega)
theorem wh_no {f : Int → Int} {N o k : Int} {n : Nat} (h0 : 1 ≤ k) (h1 : k ≤ n) (h : ¬ ((0 ≤ f (o + 2 * k) ∧ f (o + 2 * k) ≤ 2) ∧ (0 ≤ f (o + 2 * k + 1) ∧ f (o + 2 * k + 1) ≤ N - 1))) : whB f N o n = false := wh_f (fun z => h (whB_at z k h0 h1))
theorem wh_eq {f : Int → Int} {N o : Int} {n : Nat} (h : f o = f (o + 1)) : whB f N o n = false := wh_f (fun z => (whB_0 z).2.2 h)
theorem wh_yes {f : Int → Int} {N o k : Int} (hk : 0 ≤ k) (hb : (0 ≤ f o ∧ f o < N) ∧ (0 ≤ f (o + 1) ∧ f (o + 1) < N)) (hw : ∀ j : Int, 1 ≤ j → j ≤ k → (0 ≤ f (o + 2 * j) ∧ f (o + 2 * j) ≤ 2) ∧ (0 ≤ f (o + 2 * j + 1) ∧ f (o + 2 * j + 1) ≤ N - 1)) (h : f o ≠ f (o + 1)) : whB f N o k.toNat = true := by
  have key : ∀ m : Nat, (m : Int) ≤ k → whB f N o m = true := by
    intro m
    induction m with
    | zero =>
      intro _
      rw [whB, decide_eq_true (show 0 ≤ f o ∧ f o ≤ N - 1 by omega), decide_eq_true (show 0 ≤ f (o + 1) ∧ f (o + 1) ≤ N - 1 by omega), decide_eq_true h]; rfl
    | succ m ih =>
      intro hm
      have := hw ((m : Int) + 1) (by omega) (by omega)
      rw [whB, ih (by omega), decide_eq_true this.1, decide_eq_true this.2]; rfl
  exact key k.toNat (by omega)
