theorem wrt_w {E F : Dat} {m v w : Int} (hE : gdR (rowM E 284 0)) (hc : 0 ≤ comesR (rowM E 284 0) m) (g : rowM F 284 0 = goR (rowM E 284 0) m) (hv : (m = 2 ∧ v = -4) ∨ (m ≠ 2 ∧ v = comesR (rowM E 284 0) m)) (hw : (v = -4 ∧ w = 0) ∨ (v ≠ -4 ∧ w = F 284 (12 + v))) : w = wrt (rowM E 284 0) m := by
  have hci := comesR_in (r := rowM E 284 0) (m := m) (by have := hE.1.2.2.1; omega) hE.1.2.2.2
  have hn8 := hE.1.2.1.2.1
  unfold wrt
  rcases hv with q | q
  · rw [if_pos q.1]
    rcases hw with z | z
    · exact z.2
    · exact absurd q.2 z.1
  · rw [if_neg q.1]
    rcases hw with z | z
    · omega
    · have e : rW (rowM F 284 0) v = F 284 (12 + v) := mW (by omega)
      rw [z.2, ← e, g, go_W hE.1 (by omega), q.2]
theorem tried_fin {t b le sh : Int} (ht : 0 ≤ t ∧ t ≤ 63) (hs : 0 ≤ sh ∧ sh ≤ 10) (h0 : t = 0 → sh = 0) (hbl : (b, le) = bstM t sh.toNat) (h : 10 ≤ sh ∨ t = 0) : b = tryK t := by
  unfold tryK
  by_cases q : t = 0
  · have e : sh.toNat = 0 := by have := h0 q; omega
    rw [if_pos q]
    rw [e] at hbl
    exact congrArg Prod.fst hbl
  · have e : sh.toNat = 10 := by omega
    rw [if_neg q]
    rw [e] at hbl
    have e2 := congrArg Prod.fst hbl
    have e3 := bst_tab t.toNat (by omega) (by omega)
    rw [show ((t.toNat : Nat) : Int) = t by omega] at e3
    exact e2.trans e3
