theorem tri_le {n : Nat} (hn : 3 ≤ n ∧ n ≤ 8) : (triN n).length ≤ 132 := (stp_end hn).2
theorem l8_nil : l8 [] := fun k => by rw [List.getD_eq_getElem?_getD]; exact Nat.zero_lt_succ _
def allL8 (o : List LL) : Prop := ∀ f : Nat, l8 (o.getD f [])
theorem allL8_s {o : List LL} {L : LL} (h : allL8 o) (hL : l8 L) : allL8 (o ++ [L]) := fun f => by
  rcases Nat.lt_trichotomy f o.length with q | q | q
  · rw [List.getD_eq_getElem?_getD, List.getElem?_append_left q, ← List.getD_eq_getElem?_getD]; exact h f
  · rw [List.getD_eq_getElem?_getD, q, List.getElem?_append_right (Nat.le_refl _), Nat.sub_self]; exact hL
  · rw [List.getD_eq_getElem?_getD, List.getElem?_eq_none (by rw [List.length_append]; simp; omega)]; exact l8_nil
theorem lay_l8 {n : Nat} {s : StA} (hn : 3 ≤ n ∧ n ≤ 8) (h : okA n s) : l8 (layN n (s.2.2.1.take (s.1 - 1))) := by
  refine l8_lay (by omega) _ _ (l8_rg (by omega) n (Nat.le_refl _)) (fun i hi => ?_)
  obtain ⟨k, hk, rfl⟩ := List.mem_iff_getElem.mp hi
  have hk2 : k < s.1 - 1 := by rw [List.length_take] at hk; omega
  have hk3 : k < s.2.2.1.length := by rw [List.length_take] at hk; omega
  have := h.2.2 k hk2
  rw [List.getD_eq_getElem?_getD, List.getElem?_eq_getElem hk3] at this
  rw [List.getElem_take]; exact this
theorem run_l8 {n : Nat} (hn : 3 ≤ n ∧ n ≤ 8) : ∀ j, allL8 (runN n j).2.2.2
  | 0 => fun f => by show l8 (List.getD [] f []); rw [List.getD_eq_getElem?_getD]; exact l8_nil
  | j + 1 => by
    have ih := run_l8 hn j
    have hl := lay_l8 hn (okA_run hn j)
    rw [runN]
    unfold stepN
    by_cases h0 : (runN n j).1 = 0
    · rw [if_pos h0]; exact ih
    · rw [if_neg h0]
      have key : allL8 (if (runN n j).1 = n - 2 then (runN n j).2.2.2 ++ [layN n ((runN n j).2.2.1.take ((runN n j).1 - 1))] else (runN n j).2.2.2) := by
        split
        · exact allL8_s ih hl
        · exact ih
      generalize nxN n (layN n ((runN n j).2.2.1.take ((runN n j).1 - 1))) 21 (if (runN n j).1 = n - 2 then (prsN n).length else (runN n j).2.1) = x
      by_cases hx : x < (prsN n).length
      · rw [if_pos hx]; exact key
      · rw [if_neg hx]; exact key
theorem tri_l8 {n : Nat} (hn : 3 ≤ n ∧ n ≤ 8) (f : Nat) : l8 ((triN n).getD f []) := run_l8 hn (stpN n) f
theorem gr_eq {D E : Dat} {s o n : Int} {Ls : List LL} (hw : whB (D 297) (D 284 0) o n.toNat = true) (hn : 0 ≤ n) (hN : 0 < D 284 0 ∧ D 284 0 ≤ 8) (e284 : E 284 = D 284) (e297 : E 297 = D 297) (e20 : E 283 20 = (Ls.length : Int)) (ho : outF E Ls) : mx9 (fun k => (cntB (fun i => decide (ouF s (fun p => E 299 (8 * (i : Int) + p)) (E 284 0) (E 297) o n = k)) (E 283 20).toNat : Nat)) 9 = grF s Ls (D 284 0) (D 297) o n := by
  unfold grF
  rw [e284, e297, e20, Int.toNat_natCast]
  congr 1
  funext k
  congr 1
  refine cntB_c _ (fun i hi => ?_)
  rw [ouF_c (L2 := LI (Ls.getD i [])) hN hn hw (mem8_LI (ho i hi))]
theorem gr_in {s N o n : Int} {f : Int → Int} {Ls : List LL} : 0 ≤ grF s Ls N f o n ∧ grF s Ls N f o n ≤ Ls.length := by
  unfold grF
  exact mx9_in (by omega) (fun k _ _ => by have := cntB_le (fun i => decide (ouF s (LI (Ls.getD i [])) N f o n = k)) Ls.length; constructor <;> omega) 9 (Nat.le_refl _)
