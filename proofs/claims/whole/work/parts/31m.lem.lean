theorem fg_0 {t : Int → Int} {r : Row} {p n k : Int} {x : PR} (hk : 0 ≤ k ∧ k < n - 3) (h0 : k ≤ 0) (hv : x = pFoldG t (n - 3 - k).toNat (decide (k = 0)) r p) : x = pb (pFold t r p) (fun r p => pFoldG t (n - 3 - (k + 1)).toNat false r p) := by
  rw [hv, show (n - 3 - k).toNat = (n - 3 - (k + 1)).toNat + 1 by omega, decide_eq_true (show k = 0 by omega), pFoldG]
theorem fg_1 {t : Int → Int} {r : Row} {p n k : Int} {x : PR} (hk : 0 ≤ k ∧ k < n - 3) (h0 : 0 < k) (ht : t p = 44) (hv : x = pFoldG t (n - 3 - k).toNat (decide (k = 0)) r p) : x = pb (pFold t r (p + 1)) (fun r p => pFoldG t (n - 3 - (k + 1)).toNat false r p) := by
  rw [hv, show (n - 3 - k).toNat = (n - 3 - (k + 1)).toNat + 1 by omega, decide_eq_false (show ¬ k = 0 by omega), pFoldG, sgn, if_pos ht]; rfl
theorem fg_2 {t : Int → Int} {r : Row} {p n k : Int} {x : PR} (hk : 0 ≤ k ∧ k < n - 3) (h0 : 0 < k) (ht : ¬ t p = 44) (hv : x = pFoldG t (n - 3 - k).toNat (decide (k = 0)) r p) : x = (false, r, p) := by
  rw [hv, show (n - 3 - k).toNat = (n - 3 - (k + 1)).toNat + 1 by omega, decide_eq_false (show ¬ k = 0 by omega), pFoldG, sgn, if_neg ht]; rfl
theorem fg_f {t : Int → Int} {r r' : Row} {p p' : Int} {x : PR} {f : Row → Int → PR} (hv : x = pb (pFold t r p) f) (h : pFold t r p = (false, r', p')) : x = (false, r', p') := by
  rw [hv, h]; rfl
theorem fg_t {t : Int → Int} {r r' : Row} {p p' : Int} {x : PR} {f : Row → Int → PR} (hv : x = pb (pFold t r p) f) (h : pFold t r p = (true, r', p')) : x = f r' p' := by
  rw [hv, h]; rfl
theorem fg_z {t : Int → Int} {r : Row} {p n k : Int} {b : Bool} {x : PR} (hk : k = n - 3) (hv : x = pFoldG t (n - 3 - k).toNat b r p) : x = (true, r, p) := by
  rw [hv, show (n - 3 - k).toNat = 0 by omega, pFoldG]
theorem ln_pf {D E : Dat} {a b : Int} (h : pf D E) : pf D (lnM E 286 44 a b) := ⟨fun c h1 h2 => by funext j; rw [lnM_fr (Or.inl h2)]; rw [h.1 c h1 h2], fun j hj => by rw [lnM_fr (Or.inl (by omega))]; exact h.2 j hj⟩
theorem rn_pf {D : Dat} {n : Int} (hn : 0 < n ∧ n ≤ 8) : pf D (rnM D 286 44 n n.toNat) := ⟨fun c h1 h2 => by funext j; rw [rnM_fr hn _ (by omega) (Or.inl h2)], fun j hj => by rw [rnM_fr hn _ (by omega) (Or.inl (by omega))]⟩
theorem figT_b {t : Int → Int} {p b n : Int} (hb : b = t p - 48) (hn : n ≤ 9) : ((0 ≤ figT t p ∧ figT t p < n) ↔ (0 ≤ b ∧ b ≤ n - 1)) ∧ (0 ≤ b → b ≤ 9 → figT t p = b) := by
  unfold figT
  split <;> omega
theorem pFolds_3 {t : Int → Int} {r : Row} {p n : Int} (hn : rN r = n) (h : n = 3) : pFolds t r p = if t p = 45 then (true, ringR r n.toNat, p + 1) else (false, ringR r n.toNat, p) := by
  unfold pFolds sgn; rw [hn, if_pos h]
theorem pFolds_n {t : Int → Int} {r : Row} {p n : Int} (hn : rN r = n) (h : ¬ n = 3) : pFolds t r p = pFoldG t (n - 3 - 0).toNat (decide ((0 : Int) = 0)) (ringR r n.toNat) p := by
  unfold pFolds; rw [hn, if_neg h, show n - 3 - 0 = n - 3 by omega]; rfl
theorem pFold_1 {t : Int → Int} {r : Row} {p n : Int} (hn : rN r = n) (h : ¬ (0 ≤ figT t p ∧ figT t p < n)) : pFold t r p = (false, r, p) := by
  unfold pFold; rw [hn, if_pos h]
theorem pFold_2 {t : Int → Int} {r : Row} {p n a : Int} (hn : rN r = n) (ha : a = figT t p) (h : 0 ≤ a ∧ a < n) (h2 : ¬ (0 ≤ figT t (p + 1) ∧ figT t (p + 1) < n)) : pFold t r p = (false, r, p + 1) := by
  unfold pFold; rw [hn, if_neg (by omega), cif_f (fun z => h2 z.1)]
theorem pFold_3 {t : Int → Int} {r : Row} {p n a b : Int} (hn : rN r = n) (ha : a = figT t p) (h : 0 ≤ a ∧ a < n) (hb : figT t (p + 1) = b) (h2 : ¬ canJ r a b) : pFold t r p = (false, r, p + 1) := by
  unfold pFold; rw [hn, if_neg (by omega), ← ha, hb, cif_f (fun z => h2 z.2)]
theorem pFold_4 {t : Int → Int} {r : Row} {p n a b : Int} (hn : rN r = n) (ha : a = figT t p) (h : 0 ≤ a ∧ a < n) (hb : figT t (p + 1) = b) (hbn : 0 ≤ b ∧ b < n) (h2 : canJ r a b) : pFold t r p = (true, joinR r a b, p + 2) := by
  unfold pFold; rw [hn, if_neg (by omega), ← ha, hb, cif_t ⟨hbn, h2⟩]
theorem lk_c {D E : Dat} {c : Nat} {o : Int} (h : lkOk D c o) (e : E c = D c) : lkOk E c o := by unfold lkOk; rw [e]; exact h
