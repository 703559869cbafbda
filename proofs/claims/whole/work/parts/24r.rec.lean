/-! the two that call themselves -/
theorem zX1_parts_n {g : Gm} {l : Launch} {p q : Int} (hp : 0 ≤ p ∧ p < 8) (hq : 0 ≤ q ∧ q ≤ 10) : ∀ (n : Nat) {D : Dat}, n ≤ 6 → pOk (rowX D (stGo n)) → CrI g l (7 + n) mX1_parts [vR 196, vI (n : Int), vI p, vI q] D (fun v D1 => v = partsR p q n (rowX D (stGo n)) ∧ frm 198 (7 * n) D D1) := by
  intro n
  induction n with
  | zero =>
    intro D _ h
    exact zX1_parts_step (k := ((0 : Nat) : Int)) (e := 6) (by omega) (by omega) hp hq h (fun E h1 => absurd h1 (by omega))
  | succ n ih =>
    intro D hn h
    refine zX1_parts_step (k := ((n + 1 : Nat) : Int)) (e := 7 + n) (by omega) (by omega) hp hq h (fun E _ hE => ?_)
    have e : ((n + 1 : Nat) : Int) - 1 = (n : Int) := by omega
    rw [e] at hE ⊢
    exact ih (by omega) hE
theorem zX1_parts {g : Gm} {l : Launch} {D : Dat} {k p q : Int} (hk : 0 ≤ k ∧ k ≤ 6) (hp : 0 ≤ p ∧ p < 8) (hq : 0 ≤ q ∧ q ≤ 10) (h : pOk (rowX D (stGo k.toNat))) : CrI g l (7 + k.toNat) mX1_parts [vR 196, vI k, vI p, vI q] D (fun v D1 => v = partsR p q k.toNat (rowX D (stGo k.toNat)) ∧ frm 198 (7 * k.toNat) D D1) := by
  obtain ⟨n, rfl⟩ := toN hk.1
  exact zX1_parts_n hp hq n (by omega) h
theorem zX1_gain_n {g : Gm} {l : Launch} : ∀ (n : Nat) {D : Dat}, n ≤ 6 → pOk (rowX D (stGo n)) → CrI g l (7 + n) mX1_gain [vR 196, vI (n : Int)] D (fun v D1 => v = gainR n (rowX D (stGo n)) ∧ frm 198 (7 * n) D D1) := by
  intro n
  induction n with
  | zero =>
    intro D _ h
    exact zX1_gain_step (k := ((0 : Nat) : Int)) (e := 6) (by omega) (by omega) h (fun E h1 => absurd h1 (by omega))
  | succ n ih =>
    intro D hn h
    refine zX1_gain_step (k := ((n + 1 : Nat) : Int)) (e := 7 + n) (by omega) (by omega) h (fun E _ hE => ?_)
    have e : ((n + 1 : Nat) : Int) - 1 = (n : Int) := by omega
    rw [e] at hE ⊢
    exact ih (by omega) hE
theorem zX1_gain {g : Gm} {l : Launch} {D : Dat} {k : Int} (hk : 0 ≤ k ∧ k ≤ 6) (h : pOk (rowX D (stGo k.toNat))) : CrI g l (7 + k.toNat) mX1_gain [vR 196, vI k] D (fun v D1 => v = gainR k.toNat (rowX D (stGo k.toNat)) ∧ frm 198 (7 * k.toNat) D D1) := by
  obtain ⟨n, rfl⟩ := toN hk.1
  exact zX1_gain_n n (by omega) h
