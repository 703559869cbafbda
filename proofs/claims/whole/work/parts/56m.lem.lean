/-! both sides in step: the class' memory D, the reference's memory E -/
def rR (r s : Row) : Prop := rQ r s ∧ (rN r = 0 ∨ (Vr r ∧ Vr s))
theorem rR.v {r s : Row} (h : rR r s) (h0 : rN r ≠ 0) : rV r s := ⟨h.1, (h.2.resolve_left h0).1, (h.2.resolve_left h0).2⟩
theorem rV.r {r s : Row} (h : rV r s) : rR r s := ⟨h.1, Or.inr h.2⟩
def Itp (D E : Dat) : Prop := D 1 1 = E 283 2 ∧ tOk D ∧ ∀ i : Int, 0 ≤ i → i < 80 → D 2 i = E 285 i
def hsAt (D : Dat) (k : Int) : Nat := stHist ((D 18 1 + 24 - D 18 2 + k) % 24).toNat
def Ihs (D E : Dat) : Prop := hOk D ∧ D 18 2 = E 283 6 ∧ ∀ k : Int, 0 ≤ k → k < D 18 2 → rR (rowX D (hsAt D k)) (rowM E 287 (52 * k))
def Iim (D E : Dat) : Prop := ∀ k : Int, 0 ≤ k → k ≤ 1 → rR (rowX D (stImg k.toNat)) (rowM E 288 (52 * k))
def Ish (D E : Dat) : Prop := ∀ s : Int, 0 ≤ s → s ≤ 3 → shOk D (shAt s.toNat) ∧ D (shAt s.toNat) 1 = E 295 s ∧ (0 ≤ E 296 s ∧ E 296 s ≤ 24) ∧ (E 295 s ≠ -1 → D (shAt s.toNat) 2 = E 296 s) ∧ ∀ i : Int, 0 ≤ i → i < 24 → D (shAt s.toNat + 1) i = E 297 (24 * s + i)
def I2 (D E : Dat) : Prop := Itp D E ∧ rR (rowX D 11) (rowM E 284 0) ∧ Ihs D E ∧ Iim D E ∧ Ish D E ∧ sOk D 4 ∧ sOk D 248
theorem rowX_c {D D1 : Dat} {a : Nat} (h : ∀ c, a ≤ c → c < a + 7 → D1 c = D c) : rowX D1 a = rowX D a := by
  unfold rowX
  rw [h a (by omega) (by omega), h (a + 1) (by omega) (by omega), h (a + 2) (by omega) (by omega), h (a + 3) (by omega) (by omega), h (a + 4) (by omega) (by omega), h (a + 5) (by omega) (by omega), h (a + 6) (by omega) (by omega)]
theorem hsAt_in {D : Dat} {k : Int} : ∃ j : Nat, j < 24 ∧ hsAt D k = 20 + 7 * j := by
  refine ⟨((D 18 1 + 24 - D 18 2 + k) % 24).toNat, ?_, rfl⟩
  have h1 := Int.emod_nonneg (D 18 1 + 24 - D 18 2 + k) (show (24 : Int) ≠ 0 by decide)
  have h2 := Int.emod_lt_of_pos (D 18 1 + 24 - D 18 2 + k) (show (0 : Int) < 24 by decide)
  omega
/-- what the class' part of it reads -/
def exX (D D1 : Dat) : Prop := (∀ c, (c < 190 ∨ (261 ≤ c ∧ c < 283)) → D1 c = D c) ∧ sOk D1 248
theorem Iim.cx {D D1 E : Dat} (h : Iim D E) (e : ∀ c, 261 ≤ c → c < 275 → D1 c = D c) : Iim D1 E := fun k k0 k1 => by
  rw [rowX_c (D := D) (fun c c0 c1 => e c (by unfold stImg at c0; omega) (by unfold stImg at c1; omega))]
  exact h k k0 k1
theorem Ish.cx {D D1 E : Dat} (h : Ish D E) (e : ∀ c, 275 ≤ c → c < 283 → D1 c = D c) : Ish D1 E := fun s s0 s1 => by
  have e1 : D1 (shAt s.toNat) = D (shAt s.toNat) := e _ (by unfold shAt; omega) (by unfold shAt; omega)
  have e2 : D1 (shAt s.toNat + 1) = D (shAt s.toNat + 1) := e _ (by unfold shAt; omega) (by unfold shAt; omega)
  have := h s s0 s1
  unfold shOk at this ⊢
  rw [e1, e2]; exact this
theorem Ihs.cx {D D1 E : Dat} (h : Ihs D E) (e : ∀ c, 18 ≤ c → c < 188 → D1 c = D c) : Ihs D1 E := by
  have e1 := e 18 (by omega) (by omega)
  unfold Ihs hOk hsAt
  rw [e1]
  refine ⟨h.1, h.2.1, fun k k0 k1 => ?_⟩
  obtain ⟨j, hj, ej⟩ := hsAt_in (D := D) (k := k)
  unfold hsAt at ej
  rw [rowX_c (D := D) (fun c c0 c1 => e c (by omega) (by omega))]
  exact h.2.2 k k0 k1
theorem Itp.cx {D D1 E : Dat} (h : Itp D E) (e1 : D1 1 = D 1) (e2 : D1 2 = D 2) : Itp D1 E := by
  unfold Itp tOk
  rw [e1, e2]; exact h
theorem I2.cx {D D1 E : Dat} (h : I2 D E) (e : exX D D1) : I2 D1 E := by
  obtain ⟨h1, h2, h3, h4, h5, h6, h7⟩ := h
  obtain ⟨e, e8⟩ := e
  refine ⟨h1.cx (e 1 (by omega)) (e 2 (by omega)), ?_, h3.cx (fun c c0 c1 => e c (by omega)), h4.cx (fun c c0 c1 => e c (by omega)), h5.cx (fun c c0 c1 => e c (by omega)), ?_, e8⟩
  · rw [rowX_c (D := D) (fun c c0 c1 => e c (by omega))]; exact h2
  · unfold sOk; rw [rowX_c (D := D) (fun c c0 c1 => e c (by omega))]; exact h6
/-- what the reference's part reads -/
def exM (E E1 : Dat) : Prop := E1 283 2 = E 283 2 ∧ E1 283 6 = E 283 6 ∧ rowM E1 284 0 = rowM E 284 0 ∧ E1 285 = E 285 ∧ E1 287 = E 287 ∧ E1 288 = E 288 ∧ E1 295 = E 295 ∧ E1 296 = E 296 ∧ E1 297 = E 297
theorem I2.cm {D E E1 : Dat} (h : I2 D E) (e : exM E E1) : I2 D E1 := by
  obtain ⟨e1, e2, e3, e4, e5, e6, e7, e8, e9⟩ := e
  unfold I2 Itp Ihs Iim Ish rowM
  unfold I2 Itp Ihs Iim Ish rowM at h
  unfold rowM at e3
  rw [e1, e2, e3, e4, e5, e6, e7, e8, e9]; exact h
theorem exX.rf {D : Dat} (h : sOk D 248) : exX D D := ⟨fun _ _ => rfl, h⟩
theorem exM.rf {E : Dat} : exM E E := ⟨rfl, rfl, rfl, rfl, rfl, rfl, rfl, rfl, rfl⟩
theorem exM.of {E E1 : Dat} (h : ∀ c, c = 283 ∨ c = 284 ∨ c = 285 ∨ c = 287 ∨ c = 288 ∨ c = 295 ∨ c = 296 ∨ c = 297 → E1 c = E c) : exM E E1 := by
  refine ⟨by rw [h 283 (by omega)], by rw [h 283 (by omega)], rowM_c (h 284 (by omega)), h _ (by omega), h _ (by omega), h _ (by omega), h _ (by omega), h _ (by omega), h _ (by omega)⟩
theorem exM.bk {E E1 : Dat} (h : bkF E E1) : exM E E1 := ⟨h.2.2 2 (by omega), h.2.2 6 (by omega), h.1, h.2.1 _ (by decide) (by decide) (by decide) (by decide), h.2.1 _ (by decide) (by decide) (by decide) (by decide), h.2.1 _ (by decide) (by decide) (by decide) (by decide), h.2.1 _ (by decide) (by decide) (by decide) (by decide), h.2.1 _ (by decide) (by decide) (by decide) (by decide), h.2.1 _ (by decide) (by decide) (by decide) (by decide)⟩
theorem exX.fr {D D1 : Dat} {a n : Nat} (h : frm a n D D1) (ha : 190 ≤ a ∧ a + n ≤ 248) (h8 : sOk D 248) : exX D D1 := by
  refine ⟨fun c hc => h c (by omega), ?_⟩
  unfold sOk
  rw [rowX_c (D := D) (fun c c0 c1 => h c (by omega))]; exact h8
/-! what the contracts ask, out of it -/
theorem I2.R {D E : Dat} (h : I2 D E) : rR (rowX D 11) (rowM E 284 0) := h.2.1
theorem I2.n {D E : Dat} (h : I2 D E) : D 11 6 = E 284 0 := by have := h.R.1.N; rw [xN, mN] at this; exact this
theorem I2.f {D E : Dat} (h : I2 D E) : D 11 7 = E 284 1 := by have := h.R.1.F; rw [xF, mF] at this; exact this
theorem I2.b {D E : Dat} (h : I2 D E) : D 11 8 = E 284 2 := by have := h.R.1.B; rw [xB, mB] at this; exact this
theorem I2.s11 {D E : Dat} (h : I2 D E) : sOk D 11 := h.R.1.1.2.1.1
theorem I2.m284 {D E : Dat} (h : I2 D E) : mOk E 284 := h.R.1.1.2.1.2
theorem I2.v {D E : Dat} (h : I2 D E) (h0 : D 11 6 ≠ 0) : rV (rowX D 11) (rowM E 284 0) := h.R.v (by rw [xN]; exact h0)
theorem I2.gX {D E : Dat} (h : I2 D E) : D 11 6 ≠ 0 → gdX (rowX D 11) := fun h0 => (h.v h0).2.1.gd
theorem I2.gM {D E : Dat} (h : I2 D E) : 0 < E 284 0 → gdR (rowM E 284 0) := fun h0 => (h.v (by have := h.n; omega)).2.2.gd.1
theorem I2.fb {D E : Dat} (h : I2 D E) : D 11 6 ≠ 0 → (0 ≤ D 11 7 ∧ D 11 7 < D 11 6) ∧ (0 ≤ D 11 8 ∧ D 11 8 < D 11 6) := fun h0 => ⟨(h.gX h0).1.1.f, (h.gX h0).1.1.b⟩
theorem I2.fM {D E : Dat} (h : I2 D E) : 0 < E 284 0 → E 284 1 < E 284 0 ∧ E 284 2 < E 284 0 := fun h0 => by
  have := h.fb (by have := h.n; omega)
  have := h.n; have := h.f; have := h.b
  omega
theorem I2.n8 {D E : Dat} (h : I2 D E) : (0 ≤ D 11 6 ∧ D 11 6 ≤ 8) ∧ (D 11 6 ≠ 0 → 3 ≤ D 11 6) := ⟨h.s11.n, fun h0 => by have := (h.gX h0).2.2.2; rw [xN] at this; exact this⟩
theorem I2.hs {D E : Dat} (h : I2 D E) : hOk D := h.2.2.1.1
theorem I2.ha {D E : Dat} (h : I2 D E) : 0 ≤ E 283 6 ∧ E 283 6 ≤ 24 := by have := h.hs.2; have := h.2.2.1.2.1; omega
theorem I2.tp {D E : Dat} (h : I2 D E) : tOk D := h.1.2.1
theorem I2.ht {D E : Dat} (h : I2 D E) : 0 ≤ E 283 2 ∧ E 283 2 ≤ 80 := by have := h.tp; have := h.1.1; unfold tOk at *; omega
theorem I2.htp {D E : Dat} (h : I2 D E) : ∀ i : Int, 0 ≤ i → i < 80 → 0 ≤ E 285 i ∧ E 285 i ≤ 255 := fun i i0 i1 => by rw [← h.1.2.2 i i0 i1]; exact h.tp.2.2 i i0 i1
theorem I2.hoi {D E : Dat} (h : I2 D E) : ∀ k : Int, 0 ≤ k ∧ k ≤ 1 → sOk D (stImg k.toNat) := fun k hk => (h.2.2.2.1 k hk.1 hk.2).1.1.2.1.1
theorem I2.hos {D E : Dat} (h : I2 D E) : ∀ k : Int, 0 ≤ k ∧ k ≤ 3 → shOk D (shAt k.toNat) := fun k hk => (h.2.2.2.2.1 k hk.1 hk.2).1
theorem I2.sh {D E : Dat} (h : I2 D E) : Ish D E := h.2.2.2.2.1
theorem I2.s4 {D E : Dat} (h : I2 D E) : sOk D 4 := h.2.2.2.2.2.1
theorem I2.s8 {D E : Dat} (h : I2 D E) : sOk D 248 := h.2.2.2.2.2.2
theorem I2.hla {D E : Dat} (h : I2 D E) : ∀ j : Int, 0 ≤ j → j ≤ 3 → (-1 ≤ E 295 j ∧ E 295 j ≤ 3) ∧ (0 ≤ E 296 j ∧ E 296 j ≤ 24) := fun j j0 j1 => by
  obtain ⟨a, b, c, -⟩ := h.sh j j0 j1
  rw [← b]
  exact ⟨a.1, c⟩
theorem I2.hit {D E : Dat} (h : I2 D E) : ∀ i : Int, 0 ≤ i → i < 96 → -9223372036854775808 ≤ E 297 i ∧ E 297 i ≤ 9223372036854775807 := fun i i0 i1 => by
  obtain ⟨a, -, -, -, b⟩ := h.sh (i / 24) (by omega) (by omega)
  have := b (i % 24) (by omega) (by omega)
  rw [show 24 * (i / 24) + i % 24 = i by omega] at this
  rw [← this]
  exact a.2.2 (i % 24) (by omega) (by omega)
theorem I2.hlb {D E : Dat} (h : I2 D E) : ∀ p q : Int, 0 ≤ p → p < E 284 0 → 0 ≤ q → q < 8 → tb (E 284 (44 + p)) q = true → q < E 284 0 := fun p q p0 p1 q0 q1 ht => by
  have hn := h.n
  have h8 := h.n8.1
  have v := (h.v (by omega)).2.2
  rw [← mL (D := E) (c := 284) (p := p) (by omega)] at ht
  have := v.lb (p := p) (q := q) (by omega) q0 ht
  rw [mN] at this
  exact this
theorem I2.hsy {D E : Dat} (h : I2 D E) : ∀ p q : Int, 0 ≤ p → p < E 284 0 → 0 ≤ q → q < E 284 0 → tb (E 284 (44 + p)) q = tb (E 284 (44 + q)) p := fun p q p0 p1 q0 q1 => by
  have hn := h.n
  have h8 := h.n8.1
  have v := (h.v (by omega)).2.2.sym8 p q p0 (by omega) q0 (by omega)
  rw [mL (by omega), mL (by omega)] at v
  exact v
theorem I2.h3 {D E : Dat} (h : I2 D E) : 0 < E 284 0 → 3 ≤ E 284 0 := fun h0 => by have := h.n; have := h.n8.2; omega
theorem I2.hk2 {D E : Dat} (h : I2 D E) : ∀ s : Int, 0 ≤ s ∧ s ≤ 1 → 0 ≤ E 288 (52 * s) ∧ E 288 (52 * s) ≤ 8 := fun s hs => by
  have := (h.2.2.2.1 s hs.1 hs.2).1.1.2.1.2
  have e : rN (rowM E 288 (52 * s)) = E 288 (52 * s) := by
    have := rowM_get (D := E) (c := 288) (o := 52 * s) (k := 0) (p := 0) (by decide) (by decide)
    rw [show 52 * s + (((0 : Nat) : Int) + 0) = 52 * s by omega] at this
    exact this
  have h1 := this.1
  have h2 := this.2.1
  rw [e] at h1 h2
  exact ⟨h1, h2⟩
theorem I2.z0 {D E : Dat} (h : I2 D E) : 8 * E 284 1 + E 284 2 = D 11 7 * 8 + D 11 8 := by rw [h.f, h.b]; omega
