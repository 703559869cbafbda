/-! the constants of Kinds, and the script -/
set_option maxRecDepth 100000 in
theorem sta_0 {args : Array Value} {s : State} {A : Nat → Prop} (hq : (Jvm.Cond.and given_1 narrow_1).before args s = true) (hts : ∀ w ∈ lw_tbl, w.before args s = true) (hA : ∀ a : Nat, a < s.heap.size → ¬ A a) : ∃ t : Nat, va_Z RX3 (stN 0) "[I" (.ref t) A s s.heap ∧ va_T .int t 6 (fun j => .int (Int32.ofInt (stV 0 j))) A s s.heap := by
  have hs := flat_of_before _ hq
  obtain ⟨t, ht, hT⟩ := va_Tof (N := 6) (tm := (Term.static RX3 "OVER" "[I")) (ty := .int) (f := fun j => .int (Int32.ofInt (stV 0 j))) (A := A) (by decide) (hs _ (by decide +kernel)) (va_eqt (hs (Cond.eq (.length (Term.static RX3 "OVER" "[I")) (.int 6)) (by decide +kernel))) (fun j hj => by
    have : j = 0 ∨ j = 1 ∨ j = 2 ∨ j = 3 ∨ j = 4 ∨ j = 5 := by omega
    rcases this with rfl | rfl | rfl | rfl | rfl | rfl
    · exact va_eqt (hs (Cond.eq (.elem (Term.static RX3 "OVER" "[I") (.int 0)) (.int (-4))) (by decide +kernel))
    · exact va_eqt (hs (Cond.eq (.elem (Term.static RX3 "OVER" "[I") (.int 1)) (.int (0))) (by decide +kernel))
    · exact va_eqt (hs (Cond.eq (.elem (Term.static RX3 "OVER" "[I") (.int 2)) (.int (1))) (by decide +kernel))
    · exact va_eqt (hs (Cond.eq (.elem (Term.static RX3 "OVER" "[I") (.int 3)) (.int (1))) (by decide +kernel))
    · exact va_eqt (hs (Cond.eq (.elem (Term.static RX3 "OVER" "[I") (.int 4)) (.int (0))) (by decide +kernel))
    · exact va_eqt (hs (Cond.eq (.elem (Term.static RX3 "OVER" "[I") (.int 5)) (.int (4))) (by decide +kernel))) hA
  exact ⟨t, va_Zref (hts _ (by decide +kernel)) (hts _ (by decide +kernel)) ht hA, hT⟩
set_option maxRecDepth 100000 in
theorem sta_1 {args : Array Value} {s : State} {A : Nat → Prop} (hq : (Jvm.Cond.and given_1 narrow_1).before args s = true) (hts : ∀ w ∈ lw_tbl, w.before args s = true) (hA : ∀ a : Nat, a < s.heap.size → ¬ A a) : ∃ t : Nat, va_Z RX3 (stN 1) "[I" (.ref t) A s s.heap ∧ va_T .int t 6 (fun j => .int (Int32.ofInt (stV 1 j))) A s s.heap := by
  have hs := flat_of_before _ hq
  obtain ⟨t, ht, hT⟩ := va_Tof (N := 6) (tm := (Term.static RX3 "EFFORT_AT_FIRST" "[I")) (ty := .int) (f := fun j => .int (Int32.ofInt (stV 1 j))) (A := A) (by decide) (hs _ (by decide +kernel)) (va_eqt (hs (Cond.eq (.length (Term.static RX3 "EFFORT_AT_FIRST" "[I")) (.int 6)) (by decide +kernel))) (fun j hj => by
    have : j = 0 ∨ j = 1 ∨ j = 2 ∨ j = 3 ∨ j = 4 ∨ j = 5 := by omega
    rcases this with rfl | rfl | rfl | rfl | rfl | rfl
    · exact va_eqt (hs (Cond.eq (.elem (Term.static RX3 "EFFORT_AT_FIRST" "[I") (.int 0)) (.int (0))) (by decide +kernel))
    · exact va_eqt (hs (Cond.eq (.elem (Term.static RX3 "EFFORT_AT_FIRST" "[I") (.int 1)) (.int (2))) (by decide +kernel))
    · exact va_eqt (hs (Cond.eq (.elem (Term.static RX3 "EFFORT_AT_FIRST" "[I") (.int 2)) (.int (1))) (by decide +kernel))
    · exact va_eqt (hs (Cond.eq (.elem (Term.static RX3 "EFFORT_AT_FIRST" "[I") (.int 3)) (.int (2))) (by decide +kernel))
    · exact va_eqt (hs (Cond.eq (.elem (Term.static RX3 "EFFORT_AT_FIRST" "[I") (.int 4)) (.int (4))) (by decide +kernel))
    · exact va_eqt (hs (Cond.eq (.elem (Term.static RX3 "EFFORT_AT_FIRST" "[I") (.int 5)) (.int (4))) (by decide +kernel))) hA
  exact ⟨t, va_Zref (hts _ (by decide +kernel)) (hts _ (by decide +kernel)) ht hA, hT⟩
set_option maxRecDepth 100000 in
theorem sta_2 {args : Array Value} {s : State} {A : Nat → Prop} (hq : (Jvm.Cond.and given_1 narrow_1).before args s = true) (hts : ∀ w ∈ lw_tbl, w.before args s = true) (hA : ∀ a : Nat, a < s.heap.size → ¬ A a) : ∃ t : Nat, va_Z RX3 (stN 2) "[I" (.ref t) A s s.heap ∧ va_T .int t 6 (fun j => .int (Int32.ofInt (stV 2 j))) A s s.heap := by
  have hs := flat_of_before _ hq
  obtain ⟨t, ht, hT⟩ := va_Tof (N := 6) (tm := (Term.static RX3 "WEARS" "[I")) (ty := .int) (f := fun j => .int (Int32.ofInt (stV 2 j))) (A := A) (by decide) (hs _ (by decide +kernel)) (va_eqt (hs (Cond.eq (.length (Term.static RX3 "WEARS" "[I")) (.int 6)) (by decide +kernel))) (fun j hj => by
    have : j = 0 ∨ j = 1 ∨ j = 2 ∨ j = 3 ∨ j = 4 ∨ j = 5 := by omega
    rcases this with rfl | rfl | rfl | rfl | rfl | rfl
    · exact va_eqt (hs (Cond.eq (.elem (Term.static RX3 "WEARS" "[I") (.int 0)) (.int (0))) (by decide +kernel))
    · exact va_eqt (hs (Cond.eq (.elem (Term.static RX3 "WEARS" "[I") (.int 1)) (.int (1))) (by decide +kernel))
    · exact va_eqt (hs (Cond.eq (.elem (Term.static RX3 "WEARS" "[I") (.int 2)) (.int (1))) (by decide +kernel))
    · exact va_eqt (hs (Cond.eq (.elem (Term.static RX3 "WEARS" "[I") (.int 3)) (.int (2))) (by decide +kernel))
    · exact va_eqt (hs (Cond.eq (.elem (Term.static RX3 "WEARS" "[I") (.int 4)) (.int (0))) (by decide +kernel))
    · exact va_eqt (hs (Cond.eq (.elem (Term.static RX3 "WEARS" "[I") (.int 5)) (.int (0))) (by decide +kernel))) hA
  exact ⟨t, va_Zref (hts _ (by decide +kernel)) (hts _ (by decide +kernel)) ht hA, hT⟩
