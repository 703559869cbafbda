theorem fg_0 {t : Int → Int} {r : Row} {p n k : Int} {x : PR} (hk : 0 ≤ k ∧ k < n - 3) (h0 : k ≤ 0) (hv : x = pFoldG t (n - 3 - k).toNat (decide (k = 0)) r p) : x = pb (pFold t r p) (fun r p => pFoldG t (n - 3 - (k + 1)).toNat false r p) := by
  rw [hv, show (n - 3 - k).toNat = (n - 3 - (k + 1)).toNat + 1 by omega, decide_eq_true (show k = 0 by omega), pFoldG]
theorem fg_1 {t : Int → Int} {r : Row} {p n k : Int} {x : PR} (hk : 0 ≤ k ∧ k < n - 3) (h0 : 0 < k) (ht : t p = 44) (hv : x = pFoldG t (n - 3 - k).toNat (decide (k = 0)) r p) : x = pb (pFold t r (p + 1)) (fun r p => pFoldG t (n - 3 - (k + 1)).toNat false r p) := by
  rw [hv, show (n - 3 - k).toNat = (n - 3 - (k + 1)).toNat + 1 by omega, decide_eq_false (show ¬ k = 0 by omega), pFoldG, sgn, if_pos ht]; rfl
theorem fg_2 {t : Int → Int} {r : Row} {p n k : Int} {x : PR} (hk : 0 ≤ k ∧ k < n - 3) (h0 : 0 < k) (ht : ¬ t p = 44) (hv : x = pFoldG t (n - 3 - k).toNat (decide (k = 0)) r p) : x = (false, r, p) := by
  rw [hv, show (n - 3 - k).toNat = (n - 3 - (k + 1)).toNat + 1 by omega, decide_eq_false (show ¬ k = 0 by omega), pFoldG, sgn, if_neg ht]; rfl
theorem fg_f {t : Int → Int} {r r' : Row} {p p' : Int} {x : PR} {f : Row → Int → PR} (hv : x = pb (pFold t r p) f) (h : pFold t r p = (false, r', p')) : x = (false, r', p') := by
  rw [hv, h]; rfl
theorem fg_t {t : Int → Int} {r r' : Row} {p p' : Int} {x : PR} {f : Row → Int → PR} (hv : x = pb (pFold t r p) f) (h : pFold t r p = (true, r', p')) : x = f r' p' := by
  rw [hv, h]; rfl
theorem fg_z {t : Int → Int} {r : Row} {p n k : Int} {b : Bool} {x : PR} (hk : k = n - 3) (hv : x = pFoldG t (n - 3 - k).toNat b r p) : x = (true, r, p) := by
  rw [hv, show (n - 3 - k).toNat = 0 by omega, pFoldG]
theorem ln_pf {D E : Dat} {a b : Int} (h : pf D E) : pf D (lnM E 286 44 a b) := ⟨fun c h1 h2 => by funext j; rw [lnM_fr (Or.inl h2)]; rw [h.1 c h1 h2], fun j hj => by rw [lnM_fr (Or.inl (by omega))]; exact h.2 j hj⟩
theorem rn_pf {D : Dat} {n : Int} (hn : 0 < n ∧ n ≤ 8) : pf D (rnM D 286 44 n n.toNat) := ⟨fun c h1 h2 => by funext j; rw [rnM_fr hn _ (by omega) (Or.inl h2)], fun j hj => by rw [rnM_fr hn _ (by omega) (Or.inl (by omega))]⟩
theorem figT_b {t : Int → Int} {p b n : Int} (hb : b = t p - 48) (hn : n ≤ 9) : ((0 ≤ figT t p ∧ figT t p < n) ↔ (0 ≤ b ∧ b ≤ n - 1)) ∧ (0 ≤ b → b ≤ 9 → figT t p = b) := by
  unfold figT
  split <;> omega
theorem pFolds_3 {t : Int → Int} {r : Row} {p n : Int} (hn : rN r = n) (h : n = 3) : pFolds t r p = if t p = 45 then (true, ringR r n.toNat, p + 1) else (false, ringR r n.toNat, p) := by
  unfold pFolds sgn; rw [hn, if_pos h]
theorem pFolds_n {t : Int → Int} {r : Row} {p n : Int} (hn : rN r = n) (h : ¬ n = 3) : pFolds t r p = pFoldG t (n - 3 - 0).toNat (decide ((0 : Int) = 0)) (ringR r n.toNat) p := by
  unfold pFolds; rw [hn, if_neg h, show n - 3 - 0 = n - 3 by omega]; rfl
theorem pFold_1 {t : Int → Int} {r : Row} {p n : Int} (hn : rN r = n) (h : ¬ (0 ≤ figT t p ∧ figT t p < n)) : pFold t r p = (false, r, p) := by
  unfold pFold; rw [hn, if_pos h]
theorem pFold_2 {t : Int → Int} {r : Row} {p n a : Int} (hn : rN r = n) (ha : a = figT t p) (h : 0 ≤ a ∧ a < n) (h2 : ¬ (0 ≤ figT t (p + 1) ∧ figT t (p + 1) < n)) : pFold t r p = (false, r, p + 1) := by
  unfold pFold; rw [hn, if_neg (by omega), cif_f (fun z => h2 z.1)]
theorem pFold_3 {t : Int → Int} {r : Row} {p n a b : Int} (hn : rN r = n) (ha : a = figT t p) (h : 0 ≤ a ∧ a < n) (hb : figT t (p + 1) = b) (h2 : ¬ canJ r a b) : pFold t r p = (false, r, p + 1) := by
  unfold pFold; rw [hn, if_neg (by omega), ← ha, hb, cif_f (fun z => h2 z.2)]
theorem pFold_4 {t : Int → Int} {r : Row} {p n a b : Int} (hn : rN r = n) (ha : a = figT t p) (h : 0 ≤ a ∧ a < n) (hb : figT t (p + 1) = b) (hbn : 0 ≤ b ∧ b < n) (h2 : canJ r a b) : pFold t r p = (true, joinR r a b, p + 2) := by
  unfold pFold; rw [hn, if_neg (by omega), ← ha, hb, cif_t ⟨hbn, h2⟩]
theorem lk_c {D E : Dat} {c : Nat} {o : Int} (h : lkOk D c o) (e : E c = D c) : lkOk E c o := by unfold lkOk; rw [e]; exact h
theorem pb_assoc {x : PR} {f g : Row → Int → PR} : pb (pb x f) g = pb x (fun r p => pb (f r p) g) := by
  unfold pb
  by_cases h : x.1 = true
  · rw [if_pos h, if_pos h]
  · rw [if_neg h, if_neg h, if_neg h]
theorem whole_eq {t : Int → Int} {len : Int} : pWhole t len zR = pb (sgn t 120 zR 0) (fun r p => pb (pb (pPics t 8 r p) (fun r p => sgn t 59 r p)) (fun r p => pb (pb (pFolds t r p) (fun r p => sgn t 59 r p)) (fun r p => pb (pShown t r p) (fun r p => (decide (p = len), r, p))))) := by
  unfold pWhole
  rw [show resetR zR = zR from rfl]
  simp only [pb_assoc]
theorem MB.tr {D D' E : Dat} {v : Int} {x : PR} (hf : pf D D') (h : MB D' E v x) : MB D E v x := ⟨h.1, h.2.1, hf.tr h.2.2.1, h.2.2.2⟩
theorem MB_l {D E : Dat} {v : Int} {x X : PR} {F : Row → Int → PR} (hx : x = pb X F) (h : MB D E v X) (hv : v = 0) : MB D E 0 x := by
  rcases h.1 with h1 | h1
  · omega
  · rw [hx]; unfold pb; rw [if_neg (by rw [h1.1]; decide)]
    exact ⟨Or.inr ⟨h1.1, rfl⟩, h.2⟩
theorem MB_r {D E : Dat} {v : Int} {x X : PR} {F : Row → Int → PR} (hx : x = pb X F) (h : MB D E v X) (hv : v ≠ 0) : x = F (rowM E 286 0) (E 283 3) := by
  rcases h.1 with h1 | h1
  · rw [hx]; unfold pb; rw [if_pos h1.1, ← h1.2.2, ← h.2.1]
  · omega
theorem MB.b {D E : Dat} {v : Int} {X : PR} (h : MB D E v X) : v = 0 ∨ v = 1 := by rcases h.1 with h1 | h1 <;> omega
theorem has_MB {D K D1 : Dat} {r : Row} {p c v : Int} (hK : pf D K) (hp : K 283 3 = p) (hr : rowM K 286 0 = r) (h0 : 0 ≤ K 283 3 ∧ K 283 3 ≤ K 283 2) (hq : hasQ K D1 c v) : MB D D1 v (sgn (mAt D) c r p) := MB_s (x := (true, r, p)) rfl hK hp hr h0 hq rfl
theorem sh_1 {t : Int → Int} {r : Row} {p n : Int} (hn : rN r = n) (h : ¬ (0 ≤ figT t p ∧ figT t p < n)) : pShown t r p = (false, r, p) := by
  unfold pShown; rw [hn, if_pos h]
theorem sh_2 {t : Int → Int} {r : Row} {p n a : Int} (hn : rN r = n) (ha : a = figT t p) (h : 0 ≤ a ∧ a < n) (h2 : ¬ ((0 ≤ figT t (p + 1) ∧ figT t (p + 1) < n) ∧ tb (rL r a) (figT t (p + 1)) = true)) : pShown t r p = (false, r, p + 1) := by
  unfold pShown; rw [hn, if_neg (by omega), ← ha, if_neg h2]
theorem sh_3 {t : Int → Int} {r : Row} {p n a b : Int} (hn : rN r = n) (ha : a = figT t p) (h : 0 ≤ a ∧ a < n) (hb : figT t (p + 1) = b) (h2 : 0 ≤ b ∧ b < n) (h3 : tb (rL r a) b = true) : pShown t r p = (true, (r.set 1 a).set 2 b, p + 2) := by
  unfold pShown; rw [hn, if_neg (by omega), ← ha, hb, if_pos ⟨h2, h3⟩]
theorem MB_e {D E : Dat} {v p len : Int} {x X : PR} {r : Row} (hx : x = pb X (fun r p => (decide (p = len), r, p))) (hX : X = (true, r, p)) (hr : rowM E 286 0 = r) (hp : E 283 3 = p) (hf : pf D E) (hi : 0 ≤ E 283 3 ∧ E 283 3 ≤ E 283 2) (hv : (p = len ∧ v = 1) ∨ (¬ p = len ∧ v = 0)) : MB D E v x := by
  rw [hx, hX]
  show MB D E v (decide (p = len), r, p)
  rcases hv with ⟨h1, h2⟩ | ⟨h1, h2⟩
  · exact ⟨Or.inl ⟨decide_eq_true h1, h2, hr⟩, hp, hf, hi⟩
  · exact ⟨Or.inr ⟨decide_eq_false h1, h2⟩, hp, hf, hi⟩
theorem MB_g {D E : Dat} {p : Int} {x X : PR} {r : Row} {F : Row → Int → PR} (hx : x = pb X F) (hX : X = (false, r, p)) (hp : E 283 3 = p) (hf : pf D E) (hi : 0 ≤ E 283 3 ∧ E 283 3 ≤ E 283 2) : MB D E 0 x := by
  rw [hx]; exact MB_f hX hp hf hi
theorem zrow {E : Dat} (h : ∀ i : Int, 0 ≤ i → i < 52 → E 286 i = 0) : rowM E 286 0 = zR := by
  refine row_ext (rowM_len _ _ _) rfl (fun i hi => ?_)
  have e : rg zR i 0 = 0 := by
    unfold rg zR
    rw [List.getD_eq_getElem?_getD, List.getElem?_replicate]
    split <;> rfl
  rw [e, mg0 (by omega) (by omega)]
  exact h _ (by omega) (by omega)
