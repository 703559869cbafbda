/-! whether two can be joined, as the reference asks it -/
abbrev jnP (L : Int → Int) (n a b c d : Int) : Prop := btw n a b c → btw n b a d → tb (L c) d = false
def jnM (L : Int → Int) (n a b : Int) : Prop := (a ≠ b ∧ tb (L a) b = false) ∧ ∀ c d : Int, 0 ≤ c → c < n → 0 ≤ d → d < n → jnP L n a b c d
def mayO (L : Int → Int) (n a b ci m : Int) : Prop := (m = 1 ∧ (a ≠ b ∧ tb (L a) b = false) ∧ ∀ c d : Int, 0 ≤ c → c < ci → 0 ≤ d → d < n → jnP L n a b c d) ∨ (m = 0 ∧ ¬ jnM L n a b)
def mayI (L : Int → Int) (n a b ci d0 m : Int) : Prop := (m = 1 ∧ ((a ≠ b ∧ tb (L a) b = false) ∧ ∀ c d : Int, 0 ≤ c → c < ci → 0 ≤ d → d < n → jnP L n a b c d) ∧ ∀ d : Int, 0 ≤ d → d < d0 → jnP L n a b ci d) ∨ (m = 0 ∧ ¬ jnM L n a b)
theorem if10 {b : Bool} : (if b then (1 : Int) else 0) = 0 ↔ b = false := by cases b <;> simp
theorem mayO.b {L : Int → Int} {n a b ci m : Int} (h : mayO L n a b ci m) : m = 0 ∨ m = 1 := by rcases h with h | h <;> omega
theorem mayI.b {L : Int → Int} {n a b ci d m : Int} (h : mayI L n a b ci d m) : m = 0 ∨ m = 1 := by rcases h with h | h <;> omega
theorem mayO_1 {L : Int → Int} {n a b : Int} (h : a ≠ b) (h2 : (if tb (L a) b then (1 : Int) else 0) = 0) : mayO L n a b 0 1 := Or.inl ⟨rfl, ⟨h, if10.1 h2⟩, fun c d h0 h1 => by omega⟩
theorem mayO_0 {L : Int → Int} {n a b : Int} (h : a = b) : mayO L n a b 0 0 := Or.inr ⟨rfl, fun z => z.1.1 h⟩
theorem mayO_2 {L : Int → Int} {n a b : Int} (h : (if tb (L a) b then (1 : Int) else 0) ≠ 0) : mayO L n a b 0 0 := Or.inr ⟨rfl, fun z => h (if10.2 z.1.2)⟩
theorem mayI_0 {L : Int → Int} {n a b ci m : Int} (h : mayO L n a b ci m) (h2 : m ≠ 0) : mayI L n a b ci 0 m := by
  rcases h with h | h
  · exact Or.inl ⟨h.1, h.2, fun d h0 h1 => by omega⟩
  · exact absurd h.1 h2
theorem mayI_s {L : Int → Int} {n a b ci d m : Int} (h : mayI L n a b ci d m) (h2 : m ≠ 0) (h3 : jnP L n a b ci d) : mayI L n a b ci (d + 1) 1 := by
  rcases h with h | h
  · refine Or.inl ⟨rfl, h.2.1, fun e h0 h1 => ?_⟩
    by_cases he : e = d
    · rw [he]; exact h3
    · exact h.2.2 e h0 (by omega)
  · exact absurd h.1 h2
theorem mayI_a {L : Int → Int} {n a b ci d m : Int} (h : mayI L n a b ci d m) (h2 : m ≠ 0) (h3 : ¬ btw n a b ci) : mayI L n a b ci (d + 1) 1 := mayI_s h h2 (fun z => absurd z h3)
theorem mayI_b {L : Int → Int} {n a b ci d m : Int} (h : mayI L n a b ci d m) (h2 : m ≠ 0) (h3 : ¬ btw n b a d) : mayI L n a b ci (d + 1) 1 := mayI_s h h2 (fun _ z => absurd z h3)
theorem mayI_c {L : Int → Int} {n a b ci d m : Int} (h : mayI L n a b ci d m) (h2 : m ≠ 0) (h3 : (if tb (L ci) d then (1 : Int) else 0) = 0) : mayI L n a b ci (d + 1) 1 := mayI_s h h2 (fun _ _ => if10.1 h3)
theorem mayI_d {L : Int → Int} {n a b ci d : Int} (hc : 0 ≤ ci ∧ ci < n) (hd : 0 ≤ d ∧ d < n) (h1 : btw n a b ci) (h2 : btw n b a d) (h3 : (if tb (L ci) d then (1 : Int) else 0) ≠ 0) : mayI L n a b ci (d + 1) 0 :=
  Or.inr ⟨rfl, fun z => h3 (if10.2 (z.2 ci d hc.1 hc.2 hd.1 hd.2 h1 h2))⟩
theorem mayI_x {L : Int → Int} {n a b ci d m : Int} (h : mayI L n a b ci d m) (h2 : n ≤ d ∨ m = 0) : mayO L n a b (ci + 1) m := by
  rcases h with h | h
  · refine Or.inl ⟨h.1, h.2.1.1, fun e f h0 h1 g0 g1 => ?_⟩
    by_cases he : e = ci
    · rw [he]; exact h.2.2 f g0 (by omega)
    · exact h.2.1.2 e f h0 (by omega) g0 g1
  · exact Or.inr h
theorem mayO_x {L : Int → Int} {n a b ci m : Int} (h : mayO L n a b ci m) (h2 : n ≤ ci ∨ m = 0) : (jnM L n a b ∧ m = 1) ∨ (¬ jnM L n a b ∧ m = 0) := by
  rcases h with h | h
  · exact Or.inl ⟨⟨h.2.1, fun c d h0 h1 => h.2.2 c d h0 (by omega)⟩, h.1⟩
  · exact Or.inr ⟨h.2, h.1⟩
theorem if10_in {b : Bool} : 0 ≤ (if b then (1 : Int) else 0) ∧ (if b then (1 : Int) else 0) ≤ 1 := by cases b <;> decide
theorem mAt_in {D : Dat} (h : ∀ i : Int, 0 ≤ i → i < 80 → 0 ≤ D 285 i ∧ D 285 i ≤ 255) {p : Int} (hp : 0 ≤ p ∧ D 283 2 ≤ 80) : -1 ≤ mAt D p ∧ mAt D p ≤ 255 ∧ (D 283 2 ≤ p → mAt D p = -1) := by
  unfold mAt
  by_cases hq : p < D 283 2
  · rw [if_pos hq]
    have := h p hp.1 (by omega)
    omega
  · rw [if_neg hq]
    omega
/-! the reference's reading -/
def pf (D E : Dat) : Prop := (∀ c, c ≠ 283 → c ≠ 286 → E c = D c) ∧ ∀ j : Int, j ≠ 3 → E 283 j = D 283 j
theorem pf.rf {D : Dat} : pf D D := ⟨fun _ _ _ => rfl, fun _ _ => rfl⟩
theorem pf.tr {D E F : Dat} (h : pf D E) (g : pf E F) : pf D F := ⟨fun c h1 h2 => (g.1 c h1 h2).trans (h.1 c h1 h2), fun j hj => (g.2 j hj).trans (h.2 j hj)⟩
theorem pf.up {D E : Dat} {i v : Int} (h : pf D E) : pf D (upD E 286 i v) := ⟨fun c h1 h2 => (upD_other h2).trans (h.1 c h1 h2), fun j hj => (upD_n (Or.inl (by omega))).trans (h.2 j hj)⟩
theorem pf.pl {D E : Dat} {v : Int} (h : pf D E) : pf D (upD E 283 3 v) := ⟨fun c h1 h2 => (upD_other h1).trans (h.1 c h1 h2), fun j hj => (upD_n (Or.inr (by omega))).trans (h.2 j hj)⟩
theorem pf.at {D E : Dat} (h : pf D E) : mAt E = mAt D := by
  funext p
  unfold mAt
  rw [h.1 285 (by omega) (by omega), h.2 2 (by omega)]
theorem pf.ts {D E : Dat} (h : pf D E) : E 283 2 = D 283 2 := h.2 2 (by omega)
theorem pf.tp {D E : Dat} (h : pf D E) (g : ∀ i : Int, 0 ≤ i → i < 80 → 0 ≤ D 285 i ∧ D 285 i ≤ 255) : ∀ i : Int, 0 ≤ i → i < 80 → 0 ≤ E 285 i ∧ E 285 i ≤ 255 := by
  rw [h.1 285 (by omega) (by omega)]; exact g
def figQ (D D1 : Dat) (x y v : Int) : Prop := pf D D1 ∧ D1 286 = D 286 ∧ (((x ≤ figT (mAt D) (D 283 3) ∧ figT (mAt D) (D 283 3) ≤ y) ∧ v = figT (mAt D) (D 283 3) ∧ D1 283 3 = D 283 3 + 1 ∧ D 283 3 < D 283 2) ∨ (¬ (x ≤ figT (mAt D) (D 283 3) ∧ figT (mAt D) (D 283 3) ≤ y) ∧ v = -1 ∧ D1 283 3 = D 283 3))
theorem figQ_of {D D1 : Dat} {x y v : Int} (hx : 0 ≤ x) (hy : y ≤ 9) (h : ((x ≤ mAt D (D 283 3) - 48 ∧ mAt D (D 283 3) - 48 ≤ y) ∧ v = mAt D (D 283 3) - 48 ∧ D1 = upD D 283 3 (D 283 3 + 1)) ∨ (¬ (x ≤ mAt D (D 283 3) - 48 ∧ mAt D (D 283 3) - 48 ≤ y) ∧ v = -1 ∧ D1 = D)) : figQ D D1 x y v := by
  have hf : figT (mAt D) (D 283 3) = if 48 ≤ mAt D (D 283 3) ∧ mAt D (D 283 3) ≤ 57 then mAt D (D 283 3) - 48 else -4 := rfl
  rcases h with ⟨h1, h2, h3⟩ | ⟨h1, h2, h3⟩
  · rw [if_pos (by omega)] at hf
    refine ⟨h3 ▸ pf.rf.pl, by rw [h3, upD_other (by omega)], Or.inl ⟨by omega, by omega, by rw [h3, upD_s], ?_⟩⟩
    unfold mAt at h1
    by_cases hq : D 283 3 < D 283 2
    · exact hq
    · rw [if_neg hq] at h1; omega
  · refine ⟨h3 ▸ pf.rf, by rw [h3], Or.inr ⟨?_, h2, by rw [h3]⟩⟩
    split at hf <;> omega
def hasQ (D D1 : Dat) (x v : Int) : Prop := pf D D1 ∧ D1 286 = D 286 ∧ ((mAt D (D 283 3) = x ∧ v = 1 ∧ D1 283 3 = D 283 3 + 1 ∧ D 283 3 < D 283 2) ∨ (¬ mAt D (D 283 3) = x ∧ v = 0 ∧ D1 283 3 = D 283 3))
theorem hasQ_of {D D1 : Dat} {x v : Int} (hx : 0 ≤ x) (h : (mAt D (D 283 3) = x ∧ v = 1 ∧ D1 = upD D 283 3 (D 283 3 + 1)) ∨ (¬ mAt D (D 283 3) = x ∧ v = 0 ∧ D1 = D)) : hasQ D D1 x v := by
  rcases h with ⟨h1, h2, h3⟩ | ⟨h1, h2, h3⟩
  · refine ⟨h3 ▸ pf.rf.pl, by rw [h3, upD_other (by omega)], Or.inl ⟨h1, h2, by rw [h3, upD_s], ?_⟩⟩
    unfold mAt at h1
    by_cases hq : D 283 3 < D 283 2
    · exact hq
    · rw [if_neg hq] at h1; omega
  · exact ⟨h3 ▸ pf.rf, by rw [h3], Or.inr ⟨h1, h2, by rw [h3]⟩⟩
theorem rowM_c {D E : Dat} {c : Nat} {o : Int} (h : E c = D c) : rowM E c o = rowM D c o := by unfold rowM; rw [h]
theorem row_ext {r s : Row} (hr : r.length = 52) (hs : s.length = 52) (h : ∀ i : Nat, i < 52 → rg r i 0 = rg s i 0) : r = s := by
  apply List.ext_getElem?
  intro i
  by_cases hi : i < 52
  · have e : ∀ r : Row, r.length = 52 → r[i]? = some (rg r i 0) := fun r hr => by
      unfold rg
      rw [List.getD_eq_getElem?_getD, List.getElem?_eq_getElem (by omega)]
      rw [show i + (0 : Int).toNat = i from rfl, List.getElem?_eq_getElem (by omega)]; rfl
    rw [e r hr, e s hs, h i hi]
  · rw [List.getElem?_eq_none (by omega), List.getElem?_eq_none (by omega)]
/-- what a row that is being read holds: nothing worn, nothing shown -/
def rdZ (r : Row) : Prop := r.length = 52 ∧ ∀ p : Int, 0 ≤ p → p < 8 → rWe r p = 0 ∧ rSh r p = 0
def zR : Row := List.replicate 52 0
theorem zR_Z : rdZ zR := ⟨rfl, fun p h0 h1 => by rcases in8 ⟨h0, h1⟩ with rfl | rfl | rfl | rfl | rfl | rfl | rfl | rfl <;> exact ⟨rfl, rfl⟩⟩
theorem rdZ.add {r : Row} {k w b : Int} (h : rdZ r) (hn : 0 ≤ rN r ∧ rN r < 8) : rdZ (addR r k w b) := by
  refine ⟨addR_len h.1, fun p h0 h1 => ?_⟩
  rw [add_We h.1 hn ⟨h0, h1⟩, add_Sh h.1 hn ⟨h0, h1⟩]
  have := h.2 p h0 h1
  split <;> simp [this]
theorem pic_row {r : Row} {k w b n : Int} (h : rdZ r) (hn : rN r = n) (h8 : 0 ≤ n ∧ n < 8) : ((((r.set 0 0).set (4 + n.toNat) k).set (12 + n.toNat) w).set (20 + n.toNat) b) = (addR r k w b).set 0 0 := by
  have hl := h.1
  have h28 : rg r (28 + n.toNat) 0 = 0 := (h.2 n h8.1 h8.2).1
  have h36 : rg r (36 + n.toNat) 0 = 0 := (h.2 n h8.1 h8.2).2
  refine row_ext (by simp [hl]) (by simp [addR_len hl]) (fun i hi => ?_)
  have e0 : i + (0 : Int).toNat = i := rfl
  rw [rg_set (by simp [hl]) (by omega), rg_set (by simp [hl]) (by omega), rg_set (by simp [hl]) (by omega), rg_set hl (by omega), rg_set (addR_len hl) (by omega), rg_add hl (by omega), hn, e0]
  by_cases h0 : i = 0
  · subst h0; rw [if_neg (by omega), if_neg (by omega), if_neg (by omega), if_pos rfl, if_pos rfl]
  by_cases h3 : i = 20 + n.toNat
  · rw [if_pos h3, if_neg h0, if_neg h0, if_neg (by omega), if_neg (by omega), if_pos h3]
  by_cases h2 : i = 12 + n.toNat
  · rw [if_neg h3, if_pos h2, if_neg h0, if_neg h0, if_neg (by omega), if_neg (by omega), if_neg h3, if_pos h2]
  by_cases h1 : i = 4 + n.toNat
  · rw [if_neg h3, if_neg h2, if_pos h1, if_neg h0, if_neg h0, if_neg (by omega), if_neg (by omega), if_neg h3, if_neg h2, if_pos h1]
  rw [if_neg h3, if_neg h2, if_neg h1, if_neg h0, if_neg h0, if_neg h0]
  by_cases h5 : i = 36 + n.toNat
  · rw [if_pos h5, h5, h36]
  by_cases h4 : i = 28 + n.toNat
  · rw [if_neg h5, if_pos h4, h4, h28]
  rw [if_neg h5, if_neg h4, if_neg h3, if_neg h2, if_neg h1]
/-- what a reading of the reference says -/
def MB (D D1 : Dat) (v : Int) (x : PR) : Prop := ((x.1 = true ∧ v = 1 ∧ rowM D1 286 0 = x.2.1) ∨ (x.1 = false ∧ v = 0)) ∧ D1 283 3 = x.2.2 ∧ pf D D1 ∧ (0 ≤ D1 283 3 ∧ D1 283 3 ≤ D1 283 2)
theorem kindM_L (x : Int) : (kindM x = 0 ∧ kindL x = -4) ∨ (kindM x = kindL x ∧ 1 ≤ kindL x ∧ kindL x ≤ 5) := by
  unfold kindM kindL
  repeat' split
  all_goals first | omega | (right; omega)
theorem pp_f {t : Int → Int} {r r' : Row} {p p' k : Int} {x : PR} (hk : 0 ≤ k ∧ k < 8) (hv : x = pPics t (8 - k).toNat r p) (h : pPic t r p = (false, r', p')) : x = (false, r', p') := by
  rw [hv, show (8 - k).toNat = (8 - (k + 1)).toNat + 1 by omega, pPics, h]; rfl
theorem pp_t {t : Int → Int} {r r' : Row} {p p' k : Int} {x : PR} (hk : 0 ≤ k ∧ k < 8) (hv : x = pPics t (8 - k).toNat r p) (h : pPic t r p = (true, r', p')) : x = if rN r' = 8 ∨ t p' ≠ 44 then (decide (3 ≤ rN r'), r', p') else pPics t (8 - (k + 1)).toNat r' (p' + 1) := by
  rw [hv, show (8 - k).toNat = (8 - (k + 1)).toNat + 1 by omega, pPics, h]; rfl
theorem MB_f {D D1 : Dat} {x : PR} {f : Row → Int → PR} {r' : Row} {p' : Int} (h : x = (false, r', p')) (hp : D1 283 3 = p') (hf : pf D D1) (hi : 0 ≤ D1 283 3 ∧ D1 283 3 ≤ D1 283 2) : MB D D1 0 (pb x f) := by
  rw [h]; exact ⟨Or.inr ⟨rfl, rfl⟩, hp, hf, hi⟩
theorem MB_s {D K D1 : Dat} {x : PR} {r' : Row} {p' c v w : Int} (h : x = (true, r', p')) (hK : pf D K) (hp : K 283 3 = p') (hr : rowM K 286 0 = r') (h0 : 0 ≤ K 283 3 ∧ K 283 3 ≤ K 283 2) (hq : hasQ K D1 c v) (hw : w = v) : MB D D1 w (pb x (fun r p => sgn (mAt D) c r p)) := by
  rw [h]
  obtain ⟨q1, q2, q3⟩ := hq
  rw [hK.at, hp] at q3
  have hts := q1.ts
  show MB D D1 w (sgn (mAt D) c r' p')
  unfold sgn
  rcases q3 with ⟨e1, e2, e3, e4⟩ | ⟨e1, e2, e3⟩
  · rw [if_pos e1]
    exact ⟨Or.inl ⟨rfl, hw.trans e2, (rowM_c q2).trans hr⟩, e3, hK.tr q1, by omega⟩
  · rw [if_neg e1]
    exact ⟨Or.inr ⟨rfl, hw.trans e2⟩, e3, hK.tr q1, by omega⟩
theorem set0 {s : Row} {v : Int} (hl : s.length = 52) (h : rN s = v) : (s.set 0 0).set 0 v = s := by
  refine row_ext (by simp [hl]) hl (fun i hi => ?_)
  rw [rg_set (by simp [hl]) (by simpa using hi), rg_set hl (by simpa using hi)]
  by_cases h0 : i = 0
  · subst h0; rw [if_pos (show 0 + Int.toNat 0 = 0 from rfl)]; exact h.symm
  · rw [if_neg (by simpa using h0), if_neg (by simpa using h0)]
