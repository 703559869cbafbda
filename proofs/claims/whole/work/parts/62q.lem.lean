/-! all that the walk rests on, at the law's begin -/
theorem amb_0 {s : State} {args : Array Value} {b L : Nat} {xs : Nat → Int32} (hts : ∀ w ∈ lw_tbl, w.before args s = true) (hX : va_X b L xs s s.heap) (hb : b < s.heap.size) (hq : (Jvm.Cond.and given_1 narrow_1).before args s = true) : ∃ g : Gm, Amb g s ∧ gH g = s.heap.size ∧ gX g = (b, L, fun j => (xs j).toInt) := by
  have htw : ∀ w ∈ Wd, w.before args s = true := fun w hw => hts w (List.mem_filter.mp hw).1
  obtain ⟨D, hD⟩ := kn_all htw
  have o7 : va_AO RX7 s := va_AO.of (hts _ (by decide +kernel))
  have o6 : va_AO RX6 s := va_AO.of (hts _ (by decide +kernel))
  obtain ⟨c0, a0, b0⟩ := arr_of (ty := .int) (htw _ ac_int) (fun C h => by cases h)
  obtain ⟨c1, a1, b1⟩ := arr_of (ty := .long) (htw _ ac_long) (fun C h => by cases h)
  obtain ⟨c2, a2, b2⟩ := arr_of (ty := .boolean) (htw _ ac_boolean) (fun C h => by cases h)
  obtain ⟨c3, a3, b3⟩ := arr_ofO o7
  obtain ⟨c4, a4, b4⟩ := arr_ofO o6
  have hA : ∀ a : Nat, a < s.heap.size → ¬ (s.heap.size ≤ a) := fun a h => by omega
  obtain ⟨t0, z0, y0⟩ := sta_0 (A := fun q => s.heap.size ≤ q) hq hts hA
  obtain ⟨t1, z1, y1⟩ := sta_1 (A := fun q => s.heap.size ≤ q) hq hts hA
  obtain ⟨t2, z2, y2⟩ := sta_2 (A := fun q => s.heap.size ≤ q) hq hts hA
  refine ⟨(s.heap.size, D, (fun k => match k with | 0 => c0 | 1 => c1 | 2 => c2 | 3 => c3 | _ => c4), (fun k => match k with | 0 => t0 | 1 => t1 | _ => t2), (b, L, fun j => (xs j).toInt)), ⟨⟨hD, fun k q hk => ?_⟩, Nat.le_refl _, fun w hw => va_Nw.of (nst_tab hw) (hts w (List.mem_append_right _ (List.mem_filter.mp hw).1)), fun k hk => ?_, ?_, o7, o6⟩, rfl, rfl⟩
  · match k, hk with
    | 0, hk => cases hk; exact ⟨a0, b0⟩
    | 1, hk => cases hk; exact ⟨a1, b1⟩
    | 2, hk => cases hk; exact ⟨a2, b2⟩
    | 3, hk => cases hk; exact ⟨a3, b3⟩
    | 4, hk => cases hk; exact ⟨a4, b4⟩
  · match k, hk with
    | 0, _ => exact ⟨z0, y0⟩
    | 1, _ => exact ⟨z1, y1⟩
    | 2, _ => exact ⟨z2, y2⟩
  · obtain ⟨scr, h1, h2, h3, h4, h5⟩ := hX
    refine ⟨scr, h1, h2, h3, by rw [h4]; exact Nat.le_refl _, by rw [h4], fun j hj => ?_, hA b hb⟩
    rw [h5 j hj]
    show some (Value.int (xs j)) = some (Value.int (Int32.ofInt (xs j).toInt))
    rw [Int32.ofInt_toInt]
