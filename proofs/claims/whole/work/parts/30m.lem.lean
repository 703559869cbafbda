/-! whether two can be joined, as the reference asks it -/
abbrev jnP (L : Int → Int) (n a b c d : Int) : Prop := btw n a b c → btw n b a d → tb (L c) d = false
def jnM (L : Int → Int) (n a b : Int) : Prop := (a ≠ b ∧ tb (L a) b = false) ∧ ∀ c d : Int, 0 ≤ c → c < n → 0 ≤ d → d < n → jnP L n a b c d
def mayO (L : Int → Int) (n a b ci m : Int) : Prop := (m = 1 ∧ (a ≠ b ∧ tb (L a) b = false) ∧ ∀ c d : Int, 0 ≤ c → c < ci → 0 ≤ d → d < n → jnP L n a b c d) ∨ (m = 0 ∧ ¬ jnM L n a b)
def mayI (L : Int → Int) (n a b ci d0 m : Int) : Prop := (m = 1 ∧ ((a ≠ b ∧ tb (L a) b = false) ∧ ∀ c d : Int, 0 ≤ c → c < ci → 0 ≤ d → d < n → jnP L n a b c d) ∧ ∀ d : Int, 0 ≤ d → d < d0 → jnP L n a b ci d) ∨ (m = 0 ∧ ¬ jnM L n a b)
theorem if10 {b : Bool} : (if b then (1 : Int) else 0) = 0 ↔ b = false := by cases b <;> simp
theorem mayO.b {L : Int → Int} {n a b ci m : Int} (h : mayO L n a b ci m) : m = 0 ∨ m = 1 := by rcases h with h | h <;> omega
theorem mayI.b {L : Int → Int} {n a b ci d m : Int} (h : mayI L n a b ci d m) : m = 0 ∨ m = 1 := by rcases h with h | h <;> omega
theorem mayO_1 {L : Int → Int} {n a b : Int} (h : a ≠ b) (h2 : (if tb (L a) b then (1 : Int) else 0) = 0) : mayO L n a b 0 1 := Or.inl ⟨rfl, ⟨h, if10.1 h2⟩, fun c d h0 h1 => by omega⟩
theorem mayO_0 {L : Int → Int} {n a b : Int} (h : a = b) : mayO L n a b 0 0 := Or.inr ⟨rfl, fun z => z.1.1 h⟩
theorem mayO_2 {L : Int → Int} {n a b : Int} (h : (if tb (L a) b then (1 : Int) else 0) ≠ 0) : mayO L n a b 0 0 := Or.inr ⟨rfl, fun z => h (if10.2 z.1.2)⟩
theorem mayI_0 {L : Int → Int} {n a b ci m : Int} (h : mayO L n a b ci m) (h2 : m ≠ 0) : mayI L n a b ci 0 m := by
  rcases h with h | h
  · exact Or.inl ⟨h.1, h.2, fun d h0 h1 => by omega⟩
  · exact absurd h.1 h2
theorem mayI_s {L : Int → Int} {n a b ci d m : Int} (h : mayI L n a b ci d m) (h2 : m ≠ 0) (h3 : jnP L n a b ci d) : mayI L n a b ci (d + 1) 1 := by
  rcases h with h | h
  · refine Or.inl ⟨rfl, h.2.1, fun e h0 h1 => ?_⟩
    by_cases he : e = d
    · rw [he]; exact h3
    · exact h.2.2 e h0 (by omega)
  · exact absurd h.1 h2
theorem mayI_a {L : Int → Int} {n a b ci d m : Int} (h : mayI L n a b ci d m) (h2 : m ≠ 0) (h3 : ¬ btw n a b ci) : mayI L n a b ci (d + 1) 1 := mayI_s h h2 (fun z => absurd z h3)
theorem mayI_b {L : Int → Int} {n a b ci d m : Int} (h : mayI L n a b ci d m) (h2 : m ≠ 0) (h3 : ¬ btw n b a d) : mayI L n a b ci (d + 1) 1 := mayI_s h h2 (fun _ z => absurd z h3)
theorem mayI_c {L : Int → Int} {n a b ci d m : Int} (h : mayI L n a b ci d m) (h2 : m ≠ 0) (h3 : (if tb (L ci) d then (1 : Int) else 0) = 0) : mayI L n a b ci (d + 1) 1 := mayI_s h h2 (fun _ _ => if10.1 h3)
theorem mayI_d {L : Int → Int} {n a b ci d : Int} (hc : 0 ≤ ci ∧ ci < n) (hd : 0 ≤ d ∧ d < n) (h1 : btw n a b ci) (h2 : btw n b a d) (h3 : (if tb (L ci) d then (1 : Int) else 0) ≠ 0) : mayI L n a b ci (d + 1) 0 :=
  Or.inr ⟨rfl, fun z => h3 (if10.2 (z.2 ci d hc.1 hc.2 hd.1 hd.2 h1 h2))⟩
theorem mayI_x {L : Int → Int} {n a b ci d m : Int} (h : mayI L n a b ci d m) (h2 : n ≤ d ∨ m = 0) : mayO L n a b (ci + 1) m := by
  rcases h with h | h
  · refine Or.inl ⟨h.1, h.2.1.1, fun e f h0 h1 g0 g1 => ?_⟩
    by_cases he : e = ci
    · rw [he]; exact h.2.2 f g0 (by omega)
    · exact h.2.1.2 e f h0 (by omega) g0 g1
  · exact Or.inr h
theorem mayO_x {L : Int → Int} {n a b ci m : Int} (h : mayO L n a b ci m) (h2 : n ≤ ci ∨ m = 0) : (jnM L n a b ∧ m = 1) ∨ (¬ jnM L n a b ∧ m = 0) := by
  rcases h with h | h
  · exact Or.inl ⟨⟨h.2.1, fun c d h0 h1 => h.2.2 c d h0 (by omega)⟩, h.1⟩
  · exact Or.inr ⟨h.2, h.1⟩
theorem if10_in {b : Bool} : 0 ≤ (if b then (1 : Int) else 0) ∧ (if b then (1 : Int) else 0) ≤ 1 := by cases b <;> decide
theorem mAt_in {D : Dat} (h : ∀ i : Int, 0 ≤ i → i < 80 → 0 ≤ D 285 i ∧ D 285 i ≤ 255) {p : Int} (hp : 0 ≤ p ∧ D 283 2 ≤ 80) : -1 ≤ mAt D p ∧ mAt D p ≤ 255 ∧ (D 283 2 ≤ p → mAt D p = -1) := by
  unfold mAt
  by_cases hq : p < D 283 2
  · rw [if_pos hq]
    have := h p hp.1 (by omega)
    omega
  · rw [if_neg hq]
    omega
