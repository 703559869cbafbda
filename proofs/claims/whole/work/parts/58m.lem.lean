/-! each side leaves the other alone -/
def frX (D D1 : Dat) : Prop := ∀ c, 283 ≤ c → D1 c = D c
def frM (E E1 : Dat) : Prop := ∀ c, c < 283 → E1 c = E c
theorem frX.of {D D1 : Dat} (h : D1 = D) : frX D D1 := fun c _ => by rw [h]
theorem frM.of {D D1 : Dat} (h : D1 = D) : frM D D1 := fun c _ => by rw [h]
theorem frX.fr {D D1 : Dat} {a n : Nat} (h : frm a n D D1) (ha : a + n ≤ 283) : frX D D1 := fun c hc => h c (by omega)
theorem kep_X {D K D1 : Dat} (hh : hOk D) (hk : kepX D K) (hf : frm 11 7 K D1) : frX D D1 := fun c hc => by
  have h1 := hh.1
  rw [hf c (by omega), hk.2.2.2 c (by omega) (by unfold stHist; omega)]
theorem fX_feed {D D1 : Dat} {x v : Int} (h : qX_feed x D v D1) : frX D D1 := by
  rcases h with ⟨-, -, c⟩ | ⟨-, -, -, c⟩ | ⟨-, -, -, c⟩
  · exact frX.of c
  · exact frX.of c
  · intro z hz; rw [c, upD_other (by omega), upD_other (by omega)]
theorem fX_strip {D D1 : Dat} {v : Int} (h : qX_strip D v D1) : frX D D1 := fun c hc => h.2.2.2.2 c (by omega)
theorem fX_flex {D D1 : Dat} {s v : Int} (hh : hOk D) (h : qX_flex s D v D1) : frX D D1 := by
  rcases h with ⟨-, -, c⟩ | ⟨-, ⟨-, -, c⟩ | ⟨-, K, k1, -, k3, -⟩⟩
  · exact frX.of c
  · exact frX.of c
  · exact kep_X hh k1 k3
theorem fX_turn {D D1 : Dat} {v : Int} (hh : hOk D) (h : qX_turn D v D1) : frX D D1 := by
  rcases h with ⟨-, -, c⟩ | ⟨-, K, k1, -, k3, -⟩
  · exact frX.of c
  · exact kep_X hh k1 k3
theorem fX_refold {D D1 : Dat} {p q v : Int} (hh : hOk D) (h : qX_refold p q D v D1) : frX D D1 := by
  rcases h with ⟨-, -, c⟩ | ⟨-, -, -, c⟩ | ⟨-, -, ⟨K, k1, -, k3⟩, -⟩
  · exact frX.of c
  · exact frX.of c
  · exact kep_X hh k1 k3
theorem fX_mend {D D1 : Dat} {p v : Int} (hh : hOk D) (h : qX_mend p D v D1) : frX D D1 := by
  rcases h with ⟨-, -, c⟩ | ⟨-, -, -, c⟩ | ⟨-, -, -, K, k1, -, k3⟩
  · exact frX.of c
  · exact frX.of c
  · exact kep_X hh k1 k3
theorem fX_undo {D D1 : Dat} {v : Int} (h : qX_undo D v D1) : frX D D1 := by
  rcases h with ⟨-, -, c⟩ | ⟨-, -, -, -, -, c⟩
  · exact frX.of c
  · exact fun z hz => c z (by omega) (by omega)
theorem fX_image {D D1 : Dat} {k v : Int} (h : qX_image k D v D1) : frX D D1 := by
  rcases h with ⟨-, -, c⟩ | ⟨-, -, -, c⟩ | ⟨a, -, -, -, c⟩
  · exact frX.of c
  · exact frX.of c
  · exact frX.fr c (by unfold stImg; omega)
theorem fX_restore {D D1 : Dat} {k v : Int} (h : qX_restore k D v D1) : frX D D1 := by
  rcases h with ⟨-, -, c⟩ | ⟨-, -, -, c⟩ | ⟨-, -, -, -, -, -, c⟩
  · exact frX.of c
  · exact frX.of c
  · exact fun z hz => c z (by omega) (by omega)
theorem fX_reach {D D1 : Dat} {v : Int} (h : qX_reach D v D1) : frX D D1 := by
  rcases h with ⟨-, -, c⟩ | ⟨-, -, c⟩
  · exact frX.of c
  · exact frX.fr c (by omega)
theorem fX_way {D D1 : Dat} {p k v : Int} (h : qX_way p k D v D1) : frX D D1 := by
  rcases h with ⟨-, -, c⟩ | ⟨-, -, c⟩
  · exact frX.of c
  · exact frX.fr c (by omega)
theorem fX_tour {D D1 : Dat} {v : Int} (h : qX_tour D v D1) : frX D D1 := by
  rcases h with ⟨-, -, c⟩ | ⟨-, -, c⟩
  · exact frX.of c
  · exact frX.fr c (by omega)
theorem fX_round {D D1 : Dat} {x v : Int} (h : qX_round x D v D1) : frX D D1 := by
  rcases h with ⟨-, -, c⟩ | ⟨-, -, -, c⟩ | ⟨-, -, -, c⟩
  · exact frX.of c
  · exact frX.of c
  · exact frX.fr c (by omega)
theorem fX_hand {D D1 : Dat} {p n q x v : Int} (h : qX_hand p n q x D v D1) : frX D D1 := by
  rcases h with ⟨-, -, c⟩ | ⟨-, -, c⟩
  · exact frX.of c
  · exact frX.fr c (by omega)
theorem fX_duel {D D1 : Dat} {n v : Int} (h : qX_duel n D v D1) : frX D D1 := by
  rcases h with ⟨-, -, c⟩ | ⟨-, -, -, c⟩ | ⟨-, -, -, c⟩
  · exact frX.of c
  · exact frX.of c
  · exact frX.fr c (by omega)
theorem fX_decades {D D1 : Dat} {n x y v : Int} (h : qX_decades n x y D v D1) : frX D D1 := by
  rcases h with ⟨-, -, c⟩ | ⟨-, -, -, c⟩ | ⟨-, -, -, c⟩
  · exact frX.of c
  · exact frX.of c
  · exact frX.fr c (by omega)
theorem fX_sheet {D D1 : Dat} {s n k v : Int} (h : qX_sheet s n k D v D1) : frX D D1 := by
  rcases h with ⟨-, -, c⟩ | ⟨-, -, -, c⟩ | ⟨a, -, -, -, -, -, c⟩
  · exact frX.of c
  · exact frX.of c
  · exact frX.fr c (by unfold shAt; omega)
theorem fX_drop {D D1 : Dat} {s v : Int} (h : qX_drop s D v D1) : frX D D1 := by
  rcases h with ⟨-, -, c⟩ | ⟨-, -, -, c⟩ | ⟨a, -, -, c⟩
  · exact frX.of c
  · exact frX.of c
  · intro z hz; rw [c, upD_other (by unfold shAt; omega), upD_other (by unfold shAt; omega)]
theorem fX_item {D D1 : Dat} {s n i x v : Int} (h : qX_item s n i x D v D1) : frX D D1 := by
  rcases h with ⟨-, -, c⟩ | ⟨-, -, -, c⟩ | ⟨a, -, -, c⟩
  · exact frX.of c
  · exact frX.of c
  · intro z hz; rw [c, upD_other (by unfold shAt; omega)]
theorem fX_copy {D D1 : Dat} {f i t j n v : Int} (h : qX_copy f i t j n D v D1) : frX D D1 := by
  rcases h with ⟨-, -, c⟩ | ⟨-, -, -, c⟩ | ⟨-, -, -, -, c⟩ | ⟨-, -, -, -, c⟩ | ⟨a, -, -, -, c⟩
  · exact frX.of c
  · exact frX.of c
  · exact frX.of c
  · exact frX.of c
  · intro z hz; rw [c]; funext y; unfold cpD; rw [if_neg (by unfold shAt; omega)]
theorem fX_log {D D1 : Dat} {s n i k v : Int} (h : qX_log s n i k D v D1) : frX D D1 := by
  rcases h with ⟨-, -, c⟩ | ⟨-, -, -, c⟩ | ⟨-, -, -, -, c⟩ | ⟨a, -, -, -, -, -, c⟩
  · exact frX.of c
  · exact frX.of c
  · exact frX.of c
  · intro z hz; exact c z (by unfold shAt; omega) (by omega)
theorem fX_foldings {D D1 : Dat} {s n i m x v : Int} (h : qX_foldings s n i m x D v D1) : frX D D1 := fun c hc => h.2.1 c (by omega)
theorem not_M {E N : Dat} (h : notQ E N) : frM E N := fun c hc => h.1 c (by omega) (by omega)
theorem bk_M {E N : Dat} (h : bkF E N) : frM E N := fun c hc => h.2.1 c (by omega) (by omega) (by omega) (by omega)
theorem fM_feed {D D1 : Dat} {x v : Int} (h : qM_feed x D v D1) : frM D D1 := by
  rcases h with ⟨-, -, c⟩ | ⟨-, -, -, c⟩ | ⟨-, -, -, c⟩
  · exact frM.of c
  · exact frM.of c
  · intro z hz; rw [c, upD_other (by omega), upD_other (by omega)]
theorem fM_strip {D D1 : Dat} {v : Int} (h : qM_strip D v D1) : frM D D1 := fun c hc => h.2.2.1 c (by omega) (by omega) (by omega)
theorem fM_flex {D D1 : Dat} {s v : Int} (h : qM_flex s D v D1) : frM D D1 := by
  rcases h with ⟨-, -, c⟩ | ⟨-, -, -, c⟩ | ⟨-, -, N, n1, n2⟩
  · exact frM.of c
  · exact frM.of c
  · exact fun z hz => (n2.2.2 z (by omega)).trans (not_M n1 z hz)
theorem fM_turn {D D1 : Dat} {v : Int} (h : qM_turn D v D1) : frM D D1 := by
  rcases h with ⟨-, -, c⟩ | ⟨-, -, N, u, n1, n2⟩
  · exact frM.of c
  · exact fun z hz => (n2.2.2 z (by omega)).trans (not_M n1 z hz)
theorem fM_refold {D D1 : Dat} {p q v : Int} (h : qM_refold p q D v D1) : frM D D1 := by
  rcases h with ⟨-, -, c⟩ | ⟨-, -, -, c⟩ | ⟨-, -, N, n1, n2, -⟩
  · exact frM.of c
  · exact frM.of c
  · intro z hz; rw [n2, lnM_fo (by omega), ptM_fr (by omega)]; exact not_M n1 z hz
theorem fM_mend {D D1 : Dat} {p v : Int} (h : qM_mend p D v D1) : frM D D1 := by
  rcases h with ⟨-, -, c⟩ | ⟨-, -, -, c⟩ | ⟨-, -, -, N, n1, n2⟩
  · exact frM.of c
  · exact frM.of c
  · intro z hz; rw [n2, upD_other (by omega)]; exact not_M n1 z hz
theorem fM_undo {D D1 : Dat} {v : Int} (h : qM_undo D v D1) : frM D D1 := by
  rcases h with ⟨-, -, c⟩ | ⟨-, -, -, -, c⟩
  · exact frM.of c
  · intro z hz; rw [c z (by omega), upD_other (by omega)]
theorem fM_image {D D1 : Dat} {k v : Int} (h : qM_image k D v D1) : frM D D1 := by
  rcases h with ⟨-, -, c⟩ | ⟨-, -, -, c⟩ | ⟨-, -, -, -, -, c⟩
  · exact frM.of c
  · exact frM.of c
  · exact fun z hz => c z (by omega)
theorem fM_restore {D D1 : Dat} {k v : Int} (h : qM_restore k D v D1) : frM D D1 := by
  rcases h with ⟨-, -, c⟩ | ⟨-, -, -, c⟩ | ⟨-, -, -, F, ⟨-, -, c⟩, d⟩
  · exact frM.of c
  · exact frM.of c
  · intro z hz; rw [d, upD_other (by omega), c z (by omega)]
theorem fM_reach {D D1 : Dat} {v : Int} (h : qM_reach D v D1) : frM D D1 := by
  rcases h with ⟨-, -, c⟩ | ⟨-, -, c⟩
  · exact frM.of c
  · exact fun z hz => c z (by omega) (by omega)
theorem fM_way {D D1 : Dat} {p k v : Int} (h : qM_way p k D v D1) : frM D D1 := by
  rcases h with ⟨-, -, c⟩ | ⟨-, -, c⟩
  · exact frM.of c
  · exact fun z hz => c z (by omega)
theorem fM_tour {D D1 : Dat} {v : Int} (h : qM_tour D v D1) : frM D D1 := by
  rcases h with ⟨-, -, c⟩ | ⟨-, -, c⟩
  · exact frM.of c
  · exact fun z hz => c z (by omega) (by omega)
theorem fM_round {D D1 : Dat} {x v : Int} (h : qM_round x D v D1) : frM D D1 := by
  rcases h with ⟨-, -, c⟩ | ⟨-, -, -, c⟩ | ⟨-, -, -, c⟩
  · exact frM.of c
  · exact frM.of c
  · exact fun z hz => c z (by omega)
theorem fM_hand {D D1 : Dat} {p n q x v : Int} (h : qM_hand p n q x D v D1) : frM D D1 := by
  rcases h with ⟨-, -, c⟩ | ⟨-, -, c⟩
  · exact frM.of c
  · exact bk_M c
theorem fM_duel {D D1 : Dat} {n v : Int} (h : qM_duel n D v D1) : frM D D1 := by
  rcases h with ⟨-, -, c⟩ | ⟨-, -, -, c⟩ | ⟨-, -, -, c⟩
  · exact frM.of c
  · exact frM.of c
  · exact bk_M c
theorem fM_decades {D D1 : Dat} {n x y v : Int} (h : qM_decades n x y D v D1) : frM D D1 := by
  rcases h with ⟨-, -, c⟩ | ⟨-, -, -, c⟩ | ⟨-, -, -, c⟩
  · exact frM.of c
  · exact frM.of c
  · exact bk_M c
theorem fM_sheet {D D1 : Dat} {s n k v : Int} (h : qM_sheet s n k D v D1) : frM D D1 := by
  rcases h with ⟨-, -, c⟩ | ⟨-, -, -, c⟩ | ⟨a, -, -, -, -, c⟩
  · exact frM.of c
  · exact frM.of c
  · intro z hz; rw [c z (by omega), upD_other (by omega), upD_other (by omega)]
theorem fM_drop {D D1 : Dat} {s v : Int} (h : qM_drop s D v D1) : frM D D1 := by
  rcases h with ⟨-, -, c⟩ | ⟨-, -, -, c⟩ | ⟨a, -, -, c⟩
  · exact frM.of c
  · exact frM.of c
  · intro z hz; rw [c, upD_other (by omega)]
theorem fM_item {D D1 : Dat} {s n i x v : Int} (h : qM_item s n i x D v D1) : frM D D1 := by
  rcases h with ⟨-, -, c⟩ | ⟨-, -, -, c⟩ | ⟨a, -, -, c⟩
  · exact frM.of c
  · exact frM.of c
  · intro z hz; rw [c, upD_other (by omega)]
theorem fM_copy {D D1 : Dat} {f i t j n v : Int} (h : qM_copy f i t j n D v D1) : frM D D1 := by
  rcases h with ⟨-, -, c⟩ | ⟨-, -, -, c⟩ | ⟨-, -, -, -, c⟩ | ⟨-, -, -, -, c⟩ | ⟨a, -, -, -, C, ⟨-, -, c⟩, -, -, d⟩
  · exact frM.of c
  · exact frM.of c
  · exact frM.of c
  · exact frM.of c
  · intro z hz; rw [d z (by omega), c z (by omega)]
theorem fM_log {D D1 : Dat} {s n i k v : Int} (h : qM_log s n i k D v D1) : frM D D1 := by
  rcases h with ⟨-, -, c⟩ | ⟨-, -, -, c⟩ | ⟨-, -, -, -, c⟩ | ⟨a, -, -, -, -, -, c⟩
  · exact frM.of c
  · exact frM.of c
  · exact frM.of c
  · intro z hz; exact c z (by omega)
theorem fM_foldings {D D1 : Dat} {s n i m x v : Int} (h : qM_foldings s n i m x D v D1) : frM D D1 := by
  rcases h with ⟨-, -, c⟩ | ⟨-, -, -, c⟩ | ⟨-, -, -, c⟩ | ⟨-, -, -, -, c⟩ | ⟨-, -, -, -, c, -⟩
  · exact frM.of c
  · exact frM.of c
  · exact frM.of c
  · exact frM.of c
  · exact fun z hz => c z (by omega) (by omega) (by omega) (by omega) (by omega) (by omega) (by omega)
theorem I2.mX {D E D1 : Dat} (h : I2 D E) (f : frX E D1) : I2 D D1 := h.cm (exM.of (fun c hc => f c (by omega)))
theorem I2.xM {D E E1 : Dat} (h : I2 D E) (f : frM D E1) : I2 E1 E := h.cx ⟨fun c hc => f c (by omega), by
  unfold sOk
  rw [rowX_c (D := D) (fun c c0 c1 => f c (by omega))]
  exact h.s8⟩
