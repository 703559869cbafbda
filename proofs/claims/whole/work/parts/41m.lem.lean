/-! two by turns: all that may be done, by numbers -/
def p3 : Nat → Int
  | 0 => 1
  | k + 1 => 3 * p3 k
theorem p3_pos : ∀ k, 1 ≤ p3 k
  | 0 => Int.le_refl _
  | k + 1 => by have := p3_pos k; rw [p3]; omega
theorem p3_tab : ∀ k, k < 7 → p3 k ≤ 729 := by decide +kernel
theorem p3_div (k : Nat) : p3 (k + 1) / 3 = p3 k := by rw [p3]; omega
def wrt (r : Row) (m : Int) : Int := if m = 2 then 0 else rW r (comesR r m)
def sgt (t w : Int) : Int := if t % 2 = 0 then w else -w
def cTo : Nat → Int → Int → Int → Row → Int → Int
  | 0, _, _, _, _, s => s
  | k + 1, t, u, x, r, s => if 0 ≤ comesR r (x / (u / 3) % 3) then cTo k (t + 1) (u / 3) x (goR r (x / (u / 3) % 3)) (s + sgt t (wrt r (x / (u / 3) % 3))) else if t % 2 = 0 then -1000000 else 1000000
theorem cTo_step {n t u u2 x m s : Int} {r : Row} (h : t < n) (hu : u2 = u / 3) (hm : m = x / u2 % 3) : cTo (n - t).toNat t u x r s = if 0 ≤ comesR r m then cTo (n - (t + 1)).toNat (t + 1) u2 x (goR r m) (s + sgt t (wrt r m)) else if t % 2 = 0 then -1000000 else 1000000 := by
  rw [show (n - t).toNat = (n - (t + 1)).toNat + 1 by omega, cTo, ← hu, ← hm]
theorem go_W {r : Row} {m p : Int} (h : pOk r) (hp : 0 ≤ p ∧ p < 8) : rW (goR r m) p = rW r p := by
  obtain ⟨hl, ho, hf, hb⟩ := h
  have h8 := ho.2.1
  rcases goR_cases (r := r) (m := m) hb.1 with ⟨-, e⟩ | ⟨-, -, e⟩ | ⟨hc, -, e⟩
  · rw [e]
  · rw [e]; unfold rW; rw [rg_turn hl (by omega), if_neg (by omega), if_neg (by omega), if_neg (by omega)]
  · have hin := comesR_in (r := r) (m := m) (by omega) hb
    rw [e]; exact fl_W hl (by omega) hp
theorem wrt_in {r : Row} {m : Int} (h : pOk r) (hc : 0 ≤ comesR r m) : 0 ≤ wrt r m ∧ wrt r m ≤ 9 := by
  have hin := comesR_in (r := r) (m := m) (by have := h.2.2.1; omega) h.2.2.2
  have h8 := h.2.1.2.1
  unfold wrt
  split
  · omega
  · exact (h.2.1.2.2.2.2 (comesR r m) hc (by omega)).2.1
theorem sgt_in {t w : Int} (h : 0 ≤ w ∧ w ≤ 9) : -9 ≤ sgt t w ∧ sgt t w ≤ 9 := by unfold sgt; split <;> omega
theorem cTo_in : ∀ (k : Nat) {t u x s B : Int} {r : Row}, pOk r → -B ≤ s ∧ s ≤ B → 0 ≤ B → -(1000000 + B + 9 * k) ≤ cTo k t u x r s ∧ cTo k t u x r s ≤ 1000000 + B + 9 * k
  | 0, t, u, x, s, B, r, _, hs, _ => by rw [cTo]; omega
  | k + 1, t, u, x, s, B, r, h, hs, hB => by
    rw [cTo]
    split
    · rename_i hc
      have hw := sgt_in (t := t) (wrt_in h hc)
      have := cTo_in k (t := t + 1) (u := u / 3) (x := x) (B := B + 9) (s := s + sgt t (wrt r (x / (u / 3) % 3))) (goR_ok (m := x / (u / 3) % 3) h).1 (by omega) (by omega)
      omega
    · split <;> omega
def opt2 (t v o : Int) : Int := if t % 2 = 0 then (if o < v then v else o) else (if v < o then v else o)
def FLv (f : Int → Int) : Nat → Int → Int → Int
  | 0, _, x => f x
  | d + 1, t, x => opt2 t (FLv f d (t + 1) (3 * x + 2)) (opt2 t (FLv f d (t + 1) (3 * x + 1)) (FLv f d (t + 1) (3 * x)))
theorem opt2_in {t v o A B : Int} (hv : A ≤ v ∧ v ≤ B) (ho : A ≤ o ∧ o ≤ B) : A ≤ opt2 t v o ∧ opt2 t v o ≤ B := by
  unfold opt2
  repeat' split
  all_goals omega
theorem FLv_in {f : Int → Int} {A B : Int} (h : ∀ x, A ≤ f x ∧ f x ≤ B) : ∀ (d : Nat) (t x : Int), A ≤ FLv f d t x ∧ FLv f d t x ≤ B
  | 0, _, x => h x
  | d + 1, t, x => opt2_in (FLv_in h d _ _) (opt2_in (FLv_in h d _ _) (FLv_in h d _ _))
theorem div_p3 {y x m : Int} {d : Nat} (h : y / p3 d = 3 * x + m) (hm : 0 ≤ m ∧ m ≤ 2) : y / p3 (d + 1) = x := by
  rw [p3, Int.mul_comm, ← Int.ediv_ediv_of_nonneg (by have := p3_pos d; omega), h]; omega
theorem FLv_c {f : Int → Int} {c : Int} : ∀ (d : Nat) (t x : Int), 0 ≤ x → (∀ y : Int, 0 ≤ y → y / p3 d = x → f y = c) → FLv f d t x = c
  | 0, t, x, h0, h => h x h0 (by rw [p3]; omega)
  | d + 1, t, x, h0, h => by
    have k : ∀ m : Int, 0 ≤ m → m ≤ 2 → FLv f d (t + 1) (3 * x + m) = c := fun m m0 m2 => FLv_c d (t + 1) (3 * x + m) (by omega) (fun y y0 hy => h y y0 (div_p3 hy ⟨m0, m2⟩))
    have k0 := k 0 (by omega) (by omega)
    rw [Int.add_zero] at k0
    rw [FLv, k 2 (by omega) (by omega), k 1 (by omega) (by omega), k0]
    unfold opt2
    repeat' split
    all_goals rfl
theorem gain_b : ∀ (k : Nat) {r : Row}, pOk r → k ≤ 6 → -(9 * (k : Int)) ≤ gainR k r ∧ gainR k r ≤ 9 * k
  | 0, r, _, _ => by rw [gainR]; omega
  | k + 1, r, h, hk => by
    have i : ∀ m : Int, -(9 * (k : Int)) ≤ gainR k (goR r m) ∧ gainR k (goR r m) ≤ 9 * (k : Int) := fun m => gain_b k (goR_ok (m := m) h).1 (by omega)
    have w : ∀ m : Int, 0 ≤ comesR r m → 0 ≤ (if m = 2 then 0 else rW r (comesR r m)) ∧ (if m = 2 then 0 else rW r (comesR r m)) ≤ 9 := fun m hm => wrt_in h hm
    have c2 : 0 ≤ comesR r 2 := h.2.2.2.1
    rw [gainR]
    unfold gStep
    have i0 := i 0
    have i1 := i 1
    have i2 := i 2
    have w0 := w 0
    have w1 := w 1
    generalize (if (0 : Int) = 2 then 0 else rW r (comesR r 0)) = x0 at *
    generalize (if (1 : Int) = 2 then 0 else rW r (comesR r 1)) = x1 at *
    rw [if_pos c2, if_pos (show (2 : Int) = 2 from rfl)]
    generalize gainR k (goR r 0) = y0 at *
    generalize gainR k (goR r 1) = y1 at *
    generalize gainR k (goR r 2) = y2 at *
    repeat' split
    all_goals omega
theorem FLv_g {f : Int → Int} : ∀ (d : Nat) (t x s : Int) (r : Row), 0 ≤ x → 0 ≤ t → d ≤ 6 → pOk r → (-(100 + 9 * (6 - (d : Int))) ≤ s ∧ s ≤ 100 + 9 * (6 - (d : Int))) → (∀ y : Int, 0 ≤ y → y / p3 d = x → f y = cTo d t (p3 d) y r s) → FLv f d t x = s + sgt t (gainR d r)
  | 0, t, x, s, r, h0, _, _, _, _, h => by
    rw [FLv, h x h0 (by rw [p3]; omega), cTo, gainR]
    unfold sgt
    split <;> omega
  | d + 1, t, x, s, r, h0, ht, hd, hp, hs, h => by
    have k : ∀ m : Int, 0 ≤ m → m ≤ 2 → FLv f d (t + 1) (3 * x + m) = if 0 ≤ comesR r m then s + sgt t (wrt r m) + sgt (t + 1) (gainR d (goR r m)) else if t % 2 = 0 then -1000000 else 1000000 := fun m m0 m2 => by
      have hl : ∀ y : Int, 0 ≤ y → y / p3 d = 3 * x + m → f y = if 0 ≤ comesR r m then cTo d (t + 1) (p3 d) y (goR r m) (s + sgt t (wrt r m)) else if t % 2 = 0 then -1000000 else 1000000 := fun y y0 hy => by
        rw [h y y0 (div_p3 hy ⟨m0, m2⟩), cTo, p3_div, hy, show (3 * x + m) % 3 = m by omega]
      by_cases hc : 0 ≤ comesR r m
      · rw [if_pos hc]
        have hw := sgt_in (t := t) (wrt_in hp hc)
        refine FLv_g d (t + 1) (3 * x + m) _ _ (by omega) (by omega) (by omega) (goR_ok (m := m) hp).1 (by omega) (fun y y0 hy => ?_)
        rw [hl y y0 hy, if_pos hc]
      · rw [if_neg hc]
        refine FLv_c d (t + 1) (3 * x + m) (by omega) (fun y y0 hy => ?_)
        rw [hl y y0 hy, if_neg hc]
    have k0 := k 0 (by omega) (by omega)
    rw [Int.add_zero] at k0
    rw [FLv, k 2 (by omega) (by omega), k 1 (by omega) (by omega), k0]
    have i : ∀ m : Int, -(9 * (d : Int)) ≤ gainR d (goR r m) ∧ gainR d (goR r m) ≤ 9 * (d : Int) := fun m => gain_b d (goR_ok (m := m) hp).1 (by omega)
    have c2 : 0 ≤ comesR r 2 := hp.2.2.2.1
    have w0 := fun hc => wrt_in (m := 0) hp hc
    have w1 := fun hc => wrt_in (m := 1) hp hc
    have i0 := i 0
    have i1 := i 1
    have i2 := i 2
    rw [gainR]
    unfold gStep
    rw [if_pos c2, if_pos c2, if_pos (show (2 : Int) = 2 from rfl), show wrt r 2 = 0 from rfl]
    rw [show (if (0 : Int) = 2 then 0 else rW r (comesR r 0)) = wrt r 0 from rfl, show (if (1 : Int) = 2 then 0 else rW r (comesR r 1)) = wrt r 1 from rfl]
    generalize wrt r 0 = x0 at *
    generalize wrt r 1 = x1 at *
    generalize gainR d (goR r 0) = y0 at *
    generalize gainR d (goR r 1) = y1 at *
    generalize gainR d (goR r 2) = y2 at *
    unfold opt2 sgt
    have t2 : t % 2 = 0 ∨ t % 2 = 1 := by omega
    rcases t2 with t2 | t2
    · rw [if_pos t2, if_pos t2, if_pos t2, if_pos t2, if_neg (show ¬ (t + 1) % 2 = 0 by omega), if_neg (show ¬ (t + 1) % 2 = 0 by omega), if_neg (show ¬ (t + 1) % 2 = 0 by omega)]
      by_cases c0 : 0 ≤ comesR r 0 <;> by_cases c1 : 0 ≤ comesR r 1 <;> simp only [if_pos, if_neg, c0, c1, t2, if_true, if_false] <;> (repeat' split) <;> omega
    · have t3 : ¬ t % 2 = 0 := by omega
      have t4 : (t + 1) % 2 = 0 := by omega
      simp only [if_neg t3, if_pos t4]
      by_cases c0 : 0 ≤ comesR r 0 <;> by_cases c1 : 0 ≤ comesR r 1 <;> simp only [c0, c1, if_true, if_false] <;> (repeat' split) <;> omega
