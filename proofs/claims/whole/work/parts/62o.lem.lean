/-! what holds when the law begins -/
theorem arr_of {ty : FieldType} {args : Array Value} {s : State} (h : (Cond.arrayClass ty).before args s = true) (hne : ∀ C, ty ≠ .object C) : ∃ cA : ClassId, ArrOfT s cA ty ∧ va_RA s cA ty := by
  obtain ⟨cA, kA, comp, h1, h2, h3⟩ := Cond.arrayClass_spec h
  refine ⟨cA, fun n z => ⟨fun k h => (by cases h), kA, h2, comp, h3⟩, ?_⟩
  cases ty with
  | object C => exact absurd rfl (hne C)
  | _ => exact h1
theorem arr_ofO {C : String} {s : State} (h : va_AO C s) : ∃ cA : ClassId, ArrOfT s cA (.object C) ∧ va_RA s cA (.object C) := by
  obtain ⟨comp, cA, kA, h1, h2, h3, h4, h5⟩ := Cond.arrayOver_spec h
  exact ⟨cA, fun n z => ⟨fun k h => (by cases h), kA, h3, comp, h4⟩, kA, comp, h3, h4, h1, h5⟩
theorem kn_one {args : Array Value} {s : State} {C : String} {T : u_T} {N n : Nat} (hts : ∀ w ∈ Wd, w.before args s = true) (hck : CK C T N) (hi : Cond.instantiable C n ∈ Wd) : ∃ p : ClassId × (Nat → Nat), u_Kn s C T N p.1 p.2 := by
  obtain ⟨cC, iS, h⟩ := u_known hts hck.1 (hts _ hi)
  exact ⟨(cC, iS), h⟩
theorem kn_all {args : Array Value} {s : State} (hts : ∀ w ∈ Wd, w.before args s = true) : ∃ D : va_G, ∀ (c : Nat) (q : vw_C), vwCl[c]? = some q → u_Kn s q.1 q.2.1 q.2.2 (D.1 c) (D.2 c) := by
  have h : ∀ c : Nat, ∃ p : ClassId × (Nat → Nat), ∀ q : vw_C, vwCl[c]? = some q → u_Kn s q.1 q.2.1 q.2.2 p.1 p.2 := fun c => by
    match c with
    | 0 => obtain ⟨p, h⟩ := kn_one hts ck_X0 is_X0.1; exact ⟨p, fun q hq => by cases hq; exact h⟩
    | 1 => obtain ⟨p, h⟩ := kn_one hts ck_X1 is_X1.1; exact ⟨p, fun q hq => by cases hq; exact h⟩
    | 2 => obtain ⟨p, h⟩ := kn_one hts ck_X2 is_X2.1; exact ⟨p, fun q hq => by cases hq; exact h⟩
    | 3 => obtain ⟨p, h⟩ := kn_one hts ck_X4 is_X4.1; exact ⟨p, fun q hq => by cases hq; exact h⟩
    | 4 => obtain ⟨p, h⟩ := kn_one hts ck_X5 is_X5.1; exact ⟨p, fun q hq => by cases hq; exact h⟩
    | 5 => obtain ⟨p, h⟩ := kn_one hts ck_X6 is_X6.1; exact ⟨p, fun q hq => by cases hq; exact h⟩
    | 6 => obtain ⟨p, h⟩ := kn_one hts ck_X7 is_X7.1; exact ⟨p, fun q hq => by cases hq; exact h⟩
    | 7 => obtain ⟨p, h⟩ := kn_one hts ck_X8 is_X8.1; exact ⟨p, fun q hq => by cases hq; exact h⟩
    | 8 => obtain ⟨p, h⟩ := kn_one hts ck_X9 is_X9.1; exact ⟨p, fun q hq => by cases hq; exact h⟩
    | 9 => obtain ⟨p, h⟩ := kn_one hts ck_X10 is_X10.1; exact ⟨p, fun q hq => by cases hq; exact h⟩
    | n + 10 => exact ⟨(0, fun _ => 0), fun q hq => by cases hq⟩
  obtain ⟨f, hf⟩ := Classical.axiomOfChoice h
  exact ⟨(fun c => (f c).1, fun c => (f c).2), fun c q hq => hf c q hq⟩
