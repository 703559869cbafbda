/-! how a strip is read -/
noncomputable def cif {α : Type} (P : Prop) (a b : α) : α := @ite α P (Classical.propDecidable P) a b
theorem cif_t {α : Type} {P : Prop} {a b : α} (h : P) : cif P a b = a := by unfold cif; exact if_pos h
theorem cif_f {α : Type} {P : Prop} {a b : α} (h : ¬ P) : cif P a b = b := by unfold cif; exact if_neg h
abbrev PR : Type := Bool × Row × Int
def pb (x : PR) (f : Row → Int → PR) : PR := if x.1 then f x.2.1 x.2.2 else x
theorem pb_t {x : PR} {f : Row → Int → PR} (h : x.1 = true) : pb x f = f x.2.1 x.2.2 := by unfold pb; rw [if_pos h]
theorem pb_f {x : PR} {f : Row → Int → PR} (h : x.1 = false) : pb x f = x := by unfold pb; rw [h]; rfl
def figT (t : Int → Int) (p : Int) : Int := if 48 ≤ t p ∧ t p ≤ 57 then t p - 48 else -4
def sgn (t : Int → Int) (c : Int) (r : Row) (p : Int) : PR := if t p = c then (true, r, p + 1) else (false, r, p)
def pPic (t : Int → Int) (r : Row) (p : Int) : PR :=
  if kindL (t p) < 0 then (false, r, p) else if figT t (p + 1) < 0 then (false, r, p + 1) else if figT t (p + 2) < 1 then (false, r, p + 2) else (true, addR r (kindL (t p)) (figT t (p + 1)) (figT t (p + 2)), p + 3)
def pPics (t : Int → Int) : Nat → Row → Int → PR
  | 0, r, p => (false, r, p)
  | f + 1, r, p => pb (pPic t r p) (fun r p => if rN r = 8 ∨ t p ≠ 44 then (decide (3 ≤ rN r), r, p) else pPics t f r (p + 1))
noncomputable def pFold (t : Int → Int) (r : Row) (p : Int) : PR :=
  if ¬ (0 ≤ figT t p ∧ figT t p < rN r) then (false, r, p) else
  cif ((0 ≤ figT t (p + 1) ∧ figT t (p + 1) < rN r) ∧ canJ r (figT t p) (figT t (p + 1))) (true, joinR r (figT t p) (figT t (p + 1)), p + 2) (false, r, p + 1)
noncomputable def pFoldG (t : Int → Int) : Nat → Bool → Row → Int → PR
  | 0, _, r, p => (true, r, p)
  | m + 1, true, r, p => pb (pFold t r p) (fun r p => pFoldG t m false r p)
  | m + 1, false, r, p => pb (sgn t 44 r p) (fun r p => pb (pFold t r p) (fun r p => pFoldG t m false r p))
noncomputable def pFolds (t : Int → Int) (r : Row) (p : Int) : PR :=
  if rN r = 3 then sgn t 45 (ringR r (rN r).toNat) p else pFoldG t (rN r - 3).toNat true (ringR r (rN r).toNat) p
def pShown (t : Int → Int) (r : Row) (p : Int) : PR :=
  if ¬ (0 ≤ figT t p ∧ figT t p < rN r) then (false, r, p) else
  if (0 ≤ figT t (p + 1) ∧ figT t (p + 1) < rN r) ∧ tb (rL r (figT t p)) (figT t (p + 1)) = true then (true, (r.set 1 (figT t p)).set 2 (figT t (p + 1)), p + 2) else (false, r, p + 1)
noncomputable def pWhole (t : Int → Int) (len : Int) (r : Row) : PR :=
  pb (sgn t 120 (resetR r) 0) (fun r p => pb (pPics t 8 r p) (fun r p => pb (sgn t 59 r p) (fun r p => pb (pFolds t r p) (fun r p => pb (sgn t 59 r p) (fun r p => pb (pShown t r p) (fun r p => (decide (p = len), r, p)))))))
theorem tAt_f {D D1 : Dat} (h : frm 3 8 D D1) : tAt D1 = tAt D := by
  funext p
  unfold tAt
  rw [h 1 (by omega), h 2 (by omega)]
theorem tOk_f {D D1 : Dat} (h : frm 3 8 D D1) (ht : tOk D) : tOk D1 := by
  unfold tOk
  rw [h 1 (by omega), h 2 (by omega)]
  exact ht
theorem figT_in (t : Int → Int) (p : Int) : figT t p = -4 ∨ (0 ≤ figT t p ∧ figT t p ≤ 9) := by
  unfold figT
  split
  · right; omega
  · left; rfl
theorem kindL_in (x : Int) : kindL x = -4 ∨ (1 ≤ kindL x ∧ kindL x ≤ 5) := by
  unfold kindL
  repeat' split
  all_goals omega
/-- only what stands on the tape can be read: the place stays on it -/
theorem tAt_lt {D : Dat} {p : Int} (h : 0 ≤ tAt D p) : 0 ≤ p ∧ p < D 1 1 := by
  unfold tAt at h
  split at h
  · assumption
  · omega
theorem fig_lt {D : Dat} {p : Int} (h : 0 ≤ figT (tAt D) p) : 0 ≤ p ∧ p < D 1 1 := by
  unfold figT at h
  split at h
  · exact tAt_lt (by omega)
  · omega
theorem kind_lt {D : Dat} {p : Int} (h : 0 ≤ kindL (tAt D p)) : 0 ≤ p ∧ p < D 1 1 := by
  apply tAt_lt
  unfold kindL at h
  repeat' (split at h)
  all_goals omega
theorem rOk.shown {r : Row} {p q : Int} (h : rOk r) (hl : r.length = 52) (hp : 0 ≤ p ∧ p ≤ 7) (hq : 0 ≤ q ∧ q ≤ 7) : rOk ((r.set 1 p).set 2 q) := by
  obtain ⟨h1, h2, h3, h4, h5⟩ := h
  have hl2 := set_len (j := 1) (v := p) hl
  have e : ∀ (j : Nat) (i : Int), j + i.toNat < 52 → j + i.toNat ≠ 1 → j + i.toNat ≠ 2 → rg ((r.set 1 p).set 2 q) j i = rg r j i := fun j i h1 h2 h3 => by rw [rg_set hl2 h1, if_neg h3, rg_set hl h1, if_neg h2]
  have e0 : rN ((r.set 1 p).set 2 q) = rN r := e 0 0 (by decide) (by decide) (by decide)
  have e1 : rF ((r.set 1 p).set 2 q) = p := by unfold rF; rw [rg_set hl2 (by decide), if_neg (by decide), rg_set hl (by decide), if_pos (by decide)]
  have e2 : rB ((r.set 1 p).set 2 q) = q := by unfold rB; rw [rg_set hl2 (by decide), if_pos (by decide)]
  unfold rOk
  rw [e0, e1, e2]
  refine ⟨h1, h2, hp, hq, fun z z1 z2 => ?_⟩
  have h6 := h5 z z1 z2
  unfold rK rW rBe rWe rSh rL at h6 ⊢
  rw [e 4 z (by omega) (by omega) (by omega), e 12 z (by omega) (by omega) (by omega), e 20 z (by omega) (by omega) (by omega), e 28 z (by omega) (by omega) (by omega), e 36 z (by omega) (by omega) (by omega), e 44 z (by omega) (by omega) (by omega)]
  exact h6
/-- a row that is being read: as it may be, and so many pictures -/
def rdOk (D : Dat) : Prop := tOk D ∧ sOk D 4 ∧ 0 ≤ D 3 1 ∧ D 3 1 ≤ 80
def RB (D D1 : Dat) (v : Int) (x : PR) : Prop := ((x.1 = true ∧ v = 1) ∨ (x.1 = false ∧ v = 0)) ∧ rowX D1 4 = x.2.1 ∧ D1 3 1 = x.2.2 ∧ frm 3 8 D D1 ∧ rdOk D1
theorem RBmk {D D1 : Dat} {v p : Int} {b : Bool} {r : Row} (h1 : (b = true ∧ v = 1) ∨ (b = false ∧ v = 0)) (hr : rowX D1 4 = r) (hp : D1 3 1 = p) (hf : frm 3 8 D D1) (hto : tOk D) (hro : rOk r) (hpl : 0 ≤ p ∧ p ≤ 80) : RB D D1 v (b, r, p) :=
  ⟨h1, hr, hp, hf, tOk_f hf hto, (by unfold sOk; rw [hr]; exact hro), (by rw [hp]; exact hpl.1), (by rw [hp]; exact hpl.2)⟩
/-- the same end, seen from an earlier memory -/
theorem RB.tr {D D1 D2 : Dat} {v : Int} {x : PR} (hf : frm 3 8 D D1) (h : RB D1 D2 v x) : RB D D2 v x := ⟨h.1, h.2.1, h.2.2.1, hf.tr h.2.2.2.1, h.2.2.2.2⟩
theorem pPic_n {t : Int → Int} {r : Row} {p : Int} (h : (pPic t r p).1 = true) (hl : r.length = 52) : rN (pPic t r p).2.1 = rN r + 1 := by
  unfold pPic at h ⊢
  split
  · rename_i hh; rw [if_pos hh] at h; cases h
  · rename_i hh; rw [if_neg hh] at h
    split
    · rename_i hh; rw [if_pos hh] at h; cases h
    · rename_i hh; rw [if_neg hh] at h
      split
      · rename_i hh; rw [if_pos hh] at h; cases h
      · exact addR_n hl
theorem sgn_r (t : Int → Int) (c : Int) (r : Row) (p : Int) : (sgn t c r p).2.1 = r := by unfold sgn; split <;> rfl
theorem sgn_t {t : Int → Int} {c : Int} {r : Row} {p : Int} (h : (sgn t c r p).1 = true) : t p = c := by
  unfold sgn at h
  split at h
  · assumption
  · cases h
theorem sgn_n {t : Int → Int} {c : Int} {r : Row} {p : Int} (h : (sgn t c r p).1 = false) : t p ≠ c := by
  unfold sgn at h
  split at h
  · cases h
  · assumption
theorem sgn_p {t : Int → Int} {c : Int} {r : Row} {p : Int} (h : (sgn t c r p).1 = true) : (sgn t c r p).2.2 = p + 1 := by
  unfold sgn; rw [if_pos (sgn_t h)]
theorem sgn_p0 {t : Int → Int} {c : Int} {r : Row} {p : Int} (h : (sgn t c r p).1 = false) : (sgn t c r p).2.2 = p := by
  unfold sgn; rw [if_neg (sgn_n h)]
theorem pPics_step {t : Int → Int} {r : Row} {p k : Int} (h : k < 8) : pPics t (8 - k).toNat r p = pb (pPic t r p) (fun r p => if rN r = 8 ∨ t p ≠ 44 then (decide (3 ≤ rN r), r, p) else pPics t (8 - (k + 1)).toNat r (p + 1)) := by
  rw [show (8 - k).toNat = (8 - (k + 1)).toNat + 1 by omega, pPics]
theorem pFold_n {t : Int → Int} {r : Row} {p : Int} (hl : r.length = 52) : rN (pFold t r p).2.1 = rN r := by
  unfold pFold
  split
  · rfl
  · by_cases h : (0 ≤ figT t (p + 1) ∧ figT t (p + 1) < rN r) ∧ canJ r (figT t p) (figT t (p + 1))
    · rw [cif_t h]; exact joinR_lo hl (by decide)
    · rw [cif_f h]
theorem pFoldG_0 {t : Int → Int} {r : Row} {p k n : Int} (h : 0 ≤ k ∧ k < n - 3) (hk : k = 0) : pFoldG t (n - 3 - k).toNat (decide (k = 0)) r p = pb (pFold t r p) (fun r p => pFoldG t (n - 3 - (k + 1)).toNat (decide (k + 1 = 0)) r p) := by
  rw [show (n - 3 - k).toNat = (n - 3 - (k + 1)).toNat + 1 by omega, decide_eq_true hk, decide_eq_false (show ¬ k + 1 = 0 by omega), pFoldG]
theorem pFoldG_1 {t : Int → Int} {r : Row} {p k n : Int} (h : 0 ≤ k ∧ k < n - 3) (hk : 0 < k) : pFoldG t (n - 3 - k).toNat (decide (k = 0)) r p = pb (sgn t 44 r p) (fun r p => pb (pFold t r p) (fun r p => pFoldG t (n - 3 - (k + 1)).toNat (decide (k + 1 = 0)) r p)) := by
  rw [show (n - 3 - k).toNat = (n - 3 - (k + 1)).toNat + 1 by omega, decide_eq_false (show ¬ k = 0 by omega), decide_eq_false (show ¬ k + 1 = 0 by omega), pFoldG]
theorem pPics_n {t : Int → Int} : ∀ {f : Nat} {r : Row} {p : Int}, (pPics t f r p).1 = true → 3 ≤ rN (pPics t f r p).2.1
  | 0, r, p, h => by simp [pPics] at h
  | f + 1, r, p, h => by
    rw [pPics] at h ⊢
    cases hx : (pPic t r p).1 with
    | false => rw [pb_f hx] at h; rw [hx] at h; cases h
    | true =>
      rw [pb_t hx] at h ⊢
      by_cases hc : rN (pPic t r p).2.1 = 8 ∨ t (pPic t r p).2.2 ≠ 44
      · rw [if_pos hc] at h ⊢
        exact of_decide_eq_true h
      · rw [if_neg hc] at h ⊢
        exact pPics_n h
