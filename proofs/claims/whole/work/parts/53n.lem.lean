/-! what holds of all of them -/
def okA3 (n x w : Nat) : Bool := (List.range w).all (fun i => ((sF n (n - 3)).getD (x + i) []).all (fun c => ok1 n c && ok2 n c && ok3 n c))
theorem ok_3 : okA3 3 0 24 = true := by decide +kernel
theorem ok_4 : okA3 4 0 24 = true := by decide +kernel
theorem ok_5 : okA3 5 0 24 = true := by decide +kernel
theorem ok_6 : okA3 6 0 24 = true := by decide +kernel
theorem ok_7 : okA3 7 0 24 = true := by decide +kernel
theorem ok_8_0 : okA3 8 0 3 = true := by decide +kernel
theorem ok_8_3 : okA3 8 3 3 = true := by decide +kernel
theorem ok_8_6 : okA3 8 6 3 = true := by decide +kernel
theorem ok_8_9 : okA3 8 9 3 = true := by decide +kernel
theorem ok_8_12 : okA3 8 12 3 = true := by decide +kernel
theorem ok_8_15 : okA3 8 15 3 = true := by decide +kernel
theorem ok_8_18 : okA3 8 18 3 = true := by decide +kernel
theorem ok_8_21 : okA3 8 21 3 = true := by decide +kernel
def triC (n : Nat) (l : List LL) : Bool := l.all (fun L => Nat.beq L.length 8 && L.all (fun x => Nat.blt x 256) && eqC (cdN L) (sF n (n - 3)))
theorem tc_3 : triC 3 (triN 3) = true := by decide +kernel
theorem tc_4 : triC 4 (triN 4) = true := by decide +kernel
theorem tc_5 : triC 5 (triN 5) = true := by decide +kernel
theorem tc_6 : triC 6 (triN 6) = true := by decide +kernel
theorem tc_7 : triC 7 (triN 7) = true := by decide +kernel
theorem tc_8 : triC 8 r8_1805.2.2.2 = true := by decide +kernel
theorem rg_in : ∀ n, n < 9 → 3 ≤ n → eqC (cdN (rgN n n)) (sF n 0) = true := by decide +kernel
