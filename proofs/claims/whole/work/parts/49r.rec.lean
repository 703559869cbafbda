theorem zX0_choose_n {g : Gm} {l : Launch} {n : Nat} {f : Int → Int} {o m : Int} (hn8 : 3 ≤ n ∧ n ≤ 8) (hmn : 0 ≤ m ∧ m ≤ 8) (hwh : whB f (n : Int) o m.toNat = true) : ∀ (k : Nat) {D : Dat} {fr b : Int} {bn : Nat} {L : LL}, k ≤ 5 → 0 ≤ fr → fr ≤ ((prsN n).length : Int) → b = (bn : Int) → bn < 1048576 → mrow (rowX D 248) n L → CXp D n f o m → CrV g l (5 + k) mX0_choose [vR 247, vI fr, vI b, vI (k : Int)] D (fun D1 => mrow (rowX D1 248) n (chN n (rgX fr.toNat (prsN n).length) k bn L).2 ∧ accQ f o m (n : Int) D D1 (chN n (rgX fr.toNat (prsN n).length) k bn L).1 ∧ fr1 D D1) := by
  intro k
  induction k with
  | zero =>
    intro D fr b bn L _ h0 h1 hb hbn hm hc
    exact zX0_choose_step (k := ((0 : Nat) : Int)) (e := 4) (by omega) hn8 (by omega) ⟨h0, h1⟩ hb hbn hm hmn hc hwh (fun E fr b bn L h => absurd h (by omega))
  | succ k ih =>
    intro D fr b bn L hk h0 h1 hb hbn hm hc
    refine zX0_choose_step (k := ((k + 1 : Nat) : Int)) (e := 5 + k) (by omega) hn8 (by omega) ⟨h0, h1⟩ hb hbn hm hmn hc hwh (fun E fr b bn L _ g0 g1 gb gbn gm gc => ?_)
    have e : ((k + 1 : Nat) : Int) - 1 = (k : Int) := by omega
    rw [e, Int.toNat_natCast]
    exact ih (by omega) g0 g1 gb gbn gm gc
theorem zX0_choose {g : Gm} {l : Launch} {D : Dat} {n : Nat} {f : Int → Int} {o m fr b k : Int} {bn : Nat} {L : LL} (hn8 : 3 ≤ n ∧ n ≤ 8) (hmn : 0 ≤ m ∧ m ≤ 8) (hwh : whB f (n : Int) o m.toNat = true) (hk : 0 ≤ k ∧ k ≤ 5) (hfr : 0 ≤ fr ∧ fr ≤ ((prsN n).length : Int)) (hb : b = (bn : Int)) (hbn : bn < 1048576) (hm : mrow (rowX D 248) n L) (hc : CXp D n f o m) : CrV g l (5 + k.toNat) mX0_choose [vR 247, vI fr, vI b, vI k] D (fun D1 => mrow (rowX D1 248) n (chN n (rgX fr.toNat (prsN n).length) k.toNat bn L).2 ∧ accQ f o m (n : Int) D D1 (chN n (rgX fr.toNat (prsN n).length) k.toNat bn L).1 ∧ fr1 D D1) := by
  obtain ⟨j, rfl⟩ := toN hk.1
  exact zX0_choose_n hn8 hmn hwh j (by omega) hfr.1 hfr.2 hb hbn hm hc
theorem ch_3 : (chN 3 (rgX 0 (prsN 3).length) 0 0 (rgN 3 3)).1 = triN 3 := by decide +kernel
theorem ch_4 : (chN 4 (rgX 0 (prsN 4).length) 1 0 (rgN 4 4)).1 = triN 4 := by decide +kernel
theorem ch_5 : (chN 5 (rgX 0 (prsN 5).length) 2 0 (rgN 5 5)).1 = triN 5 := by decide +kernel
theorem ch_6 : (chN 6 (rgX 0 (prsN 6).length) 3 0 (rgN 6 6)).1 = triN 6 := by decide +kernel
set_option maxRecDepth 20000 in
theorem ch_7 : (chN 7 (rgX 0 (prsN 7).length) 4 0 (rgN 7 7)).1 = triN 7 := by decide +kernel
set_option maxRecDepth 20000 in
theorem ch_8 : (chN 8 (rgX 0 (prsN 8).length) 5 0 (rgN 8 8)).1 = r8_1805.2.2.2 := by decide +kernel
theorem stp8 : 1805 ≤ stpN 8 := by decide
theorem tri8 : triN 8 = r8_1805.2.2.2 := by
  have h := run_out stp8 run_8.1
  rw [run8] at h
  exact h.symm
theorem ch_tri {n k : Nat} (hn : 3 ≤ n ∧ n ≤ 8) (hk : k = n - 3) : (chN n (rgX 0 (prsN n).length) k 0 (rgN n n)).1 = triN n := by
  have : (n = 3 ∧ k = 0) ∨ (n = 4 ∧ k = 1) ∨ (n = 5 ∧ k = 2) ∨ (n = 6 ∧ k = 3) ∨ (n = 7 ∧ k = 4) ∨ (n = 8 ∧ k = 5) := by omega
  clear hn hk
  rcases this with ⟨rfl, rfl⟩ | ⟨rfl, rfl⟩ | ⟨rfl, rfl⟩ | ⟨rfl, rfl⟩ | ⟨rfl, rfl⟩ | ⟨rfl, rfl⟩
  · exact ch_3
  · exact ch_4
  · exact ch_5
  · exact ch_6
  · exact ch_7
  · exact ch_8.trans tri8.symm
theorem bare_m {r s : Row} {n : Nat} (hl : r.length = 52) (ho : rOk r) (hn : 1 ≤ n ∧ n ≤ 8) (e : s = bareR r n) : mrow s n (rgN n n) := by
  obtain ⟨h1, h2, h3⟩ := addN_ok (ho.reset hl) (resetR_len hl) (by unfold rN; rw [rg_reset hl (by decide), if_pos (by decide)]) n (by omega)
  rw [e]
  exact mrow_rg h2 h1 h3 (by omega) n (Nat.le_refl _)
