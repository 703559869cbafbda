theorem row_cp {E F : Dat} {c d : Nat} {o p : Int} (h : ∀ i : Int, 0 ≤ i → i < 52 → E c (o + i) = F d (p + i)) : rowM E c o = rowM F d p := by
  unfold rowM
  apply List.map_congr_left
  intro i hi
  have := List.mem_range.1 hi
  exact h i (by omega) (by omega)
/-- a copy of a row -/
def cpF (D E : Dat) (c : Nat) (o : Int) (d : Nat) (p k : Int) : Prop := (∀ i : Int, 0 ≤ i → i < k → E c (o + i) = D d (p + i)) ∧ (∀ j : Int, (j < o ∨ o + k ≤ j) → E c j = D c j) ∧ ∀ b, b ≠ c → E b = D b
theorem cpF.z {D : Dat} {c d : Nat} {o p : Int} : cpF D D c o d p 0 := ⟨fun i h0 h1 => by omega, fun _ _ => rfl, fun _ _ => rfl⟩
theorem cpF.s {D E : Dat} {c d : Nat} {o p k i v : Int} (h : cpF D E c o d p k) (hi : i = o + k) (hk : 0 ≤ k) (hv : v = D d (p + k)) : cpF D (upD E c i v) c o d p (k + 1) := by
  subst hi hv
  refine ⟨fun j h0 h1 => ?_, fun j hj => ?_, fun b hb => (upD_other hb).trans (h.2.2 b hb)⟩
  · by_cases e : j = k
    · rw [e, upD_s]
    · rw [upD_n (Or.inr (by omega))]; exact h.1 j h0 (by omega)
  · rw [upD_n (Or.inr (by omega))]; exact h.2.1 j (by omega)
theorem cpF.row {D E : Dat} {c d : Nat} {o p k : Int} (h : cpF D E c o d p k) (hk : 52 ≤ k) : rowM E c o = rowM D d p := row_cp (fun i h0 h1 => h.1 i h0 (by omega))
def stripQ (D D1 : Dat) (v : Int) (x : PR) : Prop := ((x.1 = true ∧ v = rN x.2.1 ∧ rowM D1 284 0 = x.2.1 ∧ D1 283 6 = 0) ∨ (x.1 = false ∧ v = -100 - x.2.2 ∧ D1 284 = D 284 ∧ D1 283 6 = D 283 6)) ∧ D1 283 2 = 0 ∧ (∀ c, c ≠ 283 → c ≠ 284 → c ≠ 286 → D1 c = D c) ∧ ∀ j : Int, j ≠ 2 → j ≠ 3 → j ≠ 6 → D1 283 j = D 283 j
theorem strip_f {D F G : Dat} {w v : Int} {x : PR} (m : MB D F w x) (hw : w = 0) (eG : G = upD F 283 2 0) (hv : v = -100 - G 283 3) : stripQ D G v x := by
  have e3 : G 283 3 = F 283 3 := by rw [eG, upD_n (Or.inr (by decide))]
  rcases m.1 with h | h
  · omega
  refine ⟨Or.inr ⟨h.1, by rw [hv, e3, m.2.1], ?_, ?_⟩, by rw [eG, upD_s], fun c h1 h2 h3 => ?_, fun j h1 h2 h3 => ?_⟩
  · rw [eG, upD_other (by omega)]; exact m.2.2.1.1 284 (by omega) (by omega)
  · rw [eG, upD_n (Or.inr (by decide))]; exact m.2.2.1.2 6 (by omega)
  · rw [eG, upD_other h1]; exact m.2.2.1.1 c h1 h3
  · rw [eG, upD_n (Or.inr h1)]; exact m.2.2.1.2 j h2
theorem strip_t {D F E H : Dat} {w v k : Int} {x : PR} (m : MB D F w x) (hw : w ≠ 0) (hc : cpF (upD F 283 2 0) E 284 0 286 0 k) (hk : 52 ≤ k) (eH : H = upD E 283 6 0) (hv : v = H 284 0) : stripQ D H v x := by
  rcases m.1.symm with h | h
  · omega
  have eR : rowM H 284 0 = x.2.1 := by
    rw [← h.2.2, rowM_c (D := E) (by rw [eH, upD_other (by omega)]), hc.row hk, rowM_c (upD_other (by omega))]
  have e1 : ∀ b, b ≠ 284 → E b = upD F 283 2 0 b := hc.2.2
  refine ⟨Or.inl ⟨h.1, by rw [hv, ← eR, mN], eR, by rw [eH, upD_s]⟩, ?_, fun c h1 h2 h3 => ?_, fun j h1 h2 h3 => ?_⟩
  · rw [eH, upD_n (Or.inr (by decide)), e1 283 (by omega), upD_s]
  · rw [eH, upD_other h1, e1 c h2, upD_other h1]; exact m.2.2.1.1 c h1 h3
  · rw [eH, upD_n (Or.inr h3), e1 283 (by omega), upD_n (Or.inr h1)]; exact m.2.2.1.2 j h2
theorem mOk.lk {D : Dat} {c : Nat} (h : mOk D c) : lkOk D c 44 := fun _ h0 h1 => (h.at ⟨h0, h1⟩).2.2.2.2.2.1
abbrev bnM (D : Dat) (s : Int) : Int := brM (fun p => D 284 (44 + p)) (D 284 0) (D 284 1) (D 284 2) s
theorem brM_in {L : Int → Int} {n f b s : Int} (hn : 0 < n) : brM L n f b s = -4 ∨ (0 ≤ brM L n f b s ∧ brM L n f b s < n) := by
  unfold brM
  split
  · rcases thMk_in (L := L) (n := n) (a := f) (b := b) n.toNat with h | h
    · exact Or.inl h
    · right; omega
  · rcases thMk_in (L := L) (n := n) (a := b) (b := f) n.toNat with h | h
    · exact Or.inl h
    · right; omega
theorem bnM_in {D : Dat} {s : Int} (hn : 0 < D 284 0) : bnM D s = -4 ∨ (0 ≤ bnM D s ∧ bnM D s < D 284 0) := brM_in hn
def gmR (r : Row) (m c : Int) : Row := if m = 2 then ((r.set 3 (rE r + 1)).set 1 (rB r)).set 2 (rF r) else ((((r.set 3 (rE r + effK (rK r c) (rSh r c))).set 1 c).set 2 (rF r)).set (28 + c.toNat) (rWe r c + wearK (rK r c))).set (36 + c.toNat) (rSh r c + (if rSh r c < 99 then 1 else 0))
def movQ (D D1 : Dat) (v m : Int) : Prop := rowM D1 284 0 = gmR (rowM D 284 0) m (bnM D m) ∧ v = (if m = 2 then -4 else bnM D m) ∧ ∀ c, c ≠ 284 → D1 c = D c
theorem mov_t {D D1 : Dat} {m : Int} (hm : m = 2) (h : D1 = upD (upD (upD D 284 3 (D 284 3 + 1)) 284 1 (D 284 2)) 284 2 (D 284 1)) : movQ D D1 (-4) m := by
  refine ⟨?_, by rw [if_pos hm], fun c hc => by rw [h, upD_other hc, upD_other hc, upD_other hc]⟩
  unfold gmR
  rw [if_pos hm, h, rowM_up (by omega), rowM_up (by omega), rowM_up (by omega), mE, mB, mF]; rfl
theorem mov_f {D D1 : Dat} {m p e w s : Int} (hm : ¬ m = 2) (hp : p = bnM D m) (h8 : 0 ≤ p ∧ p < 8) (he : e = effK (D 284 (4 + p)) (D 284 (36 + p))) (hw : w = wearK (D 284 (4 + p))) (hs : s = if D 284 (36 + p) < 99 then 1 else 0) (h : D1 = upD (upD (upD (upD (upD D 284 3 (D 284 3 + e)) 284 1 p) 284 2 (D 284 1)) 284 (28 + p) (D 284 (28 + p) + w)) 284 (36 + p) (D 284 (36 + p) + s)) : movQ D D1 p m := by
  refine ⟨?_, by rw [if_neg hm, hp], fun c hc => by rw [h, upD_other hc, upD_other hc, upD_other hc, upD_other hc, upD_other hc]⟩
  unfold gmR
  rw [if_neg hm, ← hp, h, rowM_up (by omega), rowM_up (by omega), rowM_up (by omega), rowM_up (by omega), rowM_up (by omega), mE, mF, mK h8, mSh h8, mWe h8, he, hw, hs, show (28 + p - 0).toNat = 28 + p.toNat by omega, show (36 + p - 0).toNat = 36 + p.toNat by omega]; rfl
