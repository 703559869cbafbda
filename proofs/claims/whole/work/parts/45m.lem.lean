/-! sets of states as words; how many there can be -/
theorem iAnd_in (a b : Int) : -2147483648 ≤ iAnd a b ∧ iAnd a b ≤ 2147483647 := by
  unfold iAnd
  have h1 := Int32.le_toInt (Int32.ofInt a &&& Int32.ofInt b)
  have h2 := Int32.toInt_lt (Int32.ofInt a &&& Int32.ofInt b)
  omega
theorem ofI_toI (x : Int32) : Int32.ofInt x.toInt = x := Int32.ofInt_toInt x
theorem shl_tab : ∀ j, j < 32 → ∀ k, k < 32 → (Int32.ofInt (iShl 1 ((k : Nat) : Int)) &&& Int32.ofInt (iShl 1 ((j : Nat) : Int)) = if j = k then Int32.ofInt (iShl 1 ((j : Nat) : Int)) else 0) ∧ Int32.ofInt (iShl 1 ((j : Nat) : Int)) ≠ 0 := by decide +kernel
theorem i32_dist (x y z : Int32) : (x ||| y) &&& z = (x &&& z) ||| (y &&& z) := by
  apply Int32.toBitVec_inj.mp
  simp only [Int32.toBitVec_and, Int32.toBitVec_or]
  ext i hi
  simp [Bool.and_or_distrib_right]
theorem i32_or0 (x : Int32) : x ||| 0 = x := by
  apply Int32.toBitVec_inj.mp
  simp
theorem toI_0 (x : Int32) : x.toInt = 0 ↔ x = 0 := ⟨fun h => by rw [← ofI_toI x, h]; rfl, fun h => by rw [h]; rfl⟩
theorem i32_absorb (x y : Int32) : (x ||| y) &&& y = y := by
  apply Int32.toBitVec_inj.mp
  simp only [Int32.toBitVec_and, Int32.toBitVec_or]
  ext i hi
  simp only [BitVec.getElem_and, BitVec.getElem_or]
  cases x.toBitVec[i] <;> cases y.toBitVec[i] <;> rfl
/-- whether a state's bit stands in the words -/
def bitW (F : Int → Int) (t : Int) : Prop := iAnd (F (t / 32)) (iShl 1 (t % 32)) ≠ 0
theorem bitW_up {E : Dat} {c : Nat} {s x : Int} (hs : 0 ≤ s) (hx : 0 ≤ x) : bitW (upD E c (s / 32) (iOr (E c (s / 32)) (iShl 1 (s % 32))) c) x ↔ bitW (E c) x ∨ x = s := by
  unfold bitW
  rw [upD2]
  by_cases q : x / 32 = s / 32
  · rw [if_pos q, q]
    unfold iAnd iOr
    rw [ofI_toI]
    have t := shl_tab (x % 32).toNat (by omega) (s % 32).toNat (by omega)
    rw [show (((x % 32).toNat : Nat) : Int) = x % 32 by omega, show (((s % 32).toNat : Nat) : Int) = s % 32 by omega] at t
    by_cases w : x % 32 = s % 32
    · have e : x = s := by omega
      subst e
      rw [i32_absorb, Ne, toI_0]
      exact ⟨fun _ => Or.inr rfl, fun _ => t.2⟩
    · rw [if_neg (by omega)] at t
      rw [i32_dist, t.1, i32_or0]
      exact ⟨fun h => Or.inl h, fun h => h.elim id (fun e => absurd (by rw [e]) w)⟩
  · rw [if_neg q]
    exact ⟨fun h => Or.inl h, fun h => h.elim id (fun e => absurd (by rw [e]) q)⟩
theorem bitW_0 {F : Int → Int} {t : Int} (h : F (t / 32) = 0) : ¬ bitW F t := by
  unfold bitW
  rw [h]
  unfold iAnd
  rw [Ne, toI_0]
  intro z
  apply z
  rw [show Int32.ofInt 0 = 0 from rfl]
  apply Int32.toBitVec_inj.mp
  simp
theorem xq_ad {E : Dat} {e t : Int} (ht : 0 ≤ t) : adQ (E 194) (upD (upD E 195 (t / 32) (iOr (E 195 (t / 32)) (iShl 1 (t % 32)))) 194 e t 194) (bitW (E 195)) (bitW (upD (upD E 195 (t / 32) (iOr (E 195 (t / 32)) (iShl 1 (t % 32)))) 194 e t 195)) e t := by
  refine ⟨fun j _ j1 => by rw [upD_n (Or.inr (by omega)), upD_other (by omega)], upD_s, fun x x0 _ => ?_⟩
  rw [upD_other (a := 194) (b := 195) (by omega)]
  exact bitW_up ht x0
def lkB (r : Row) (i : Nat) : Bool := decide ((i : Int) / 8 < rN r ∧ (i : Int) % 8 < rN r ∧ tb (rL r ((i : Int) / 8)) ((i : Int) % 8) = true)
theorem lkB_z {r : Row} {z : Int} (h : zOk r z) : lkB r z.toNat = true := by
  have h0 := h.1
  unfold lkB
  rw [show ((z.toNat : Nat) : Int) = z by omega]
  exact decide_eq_true ⟨h.2.1.2, h.2.2.1.2, h.2.2.2⟩
theorem cntB_kk {f : Nat → Bool} {k : Nat} : ∀ d, cntB f k ≤ cntB f (k + d)
  | 0 => Nat.le_refl _
  | d + 1 => by have := cntB_kk (f := f) (k := k) d; rw [← Nat.add_assoc, cntB]; omega
theorem cntB_pos {f : Nat → Bool} {z k : Nat} (hz : f z = true) (hk : z < k) : cntB f z + 1 ≤ cntB f k := by
  have := cntB_kk (f := f) (k := z + 1) (k - (z + 1))
  rw [show z + 1 + (k - (z + 1)) = k by omega, cntB, hz] at this
  simpa using this
def rmB (s f : Nat) : Nat := (s / 2 ^ (f + 1)) * 2 ^ f + s % 2 ^ f
def unB (x f : Nat) : Nat := (x / 2 ^ f) * 2 ^ (f + 1) + 2 ^ f + x % 2 ^ f
theorem rmB_tab : ∀ f, f < 8 → ∀ s, s < 256 → s.testBit f = true → rmB s f < 128 ∧ unB (rmB s f) f = s := by decide +kernel
def phi (r : Row) (t : Int) : Nat := cntB (lkB r) (t / 256).toNat * 128 + rmB (t % 256).toNat (t / 256 / 8).toNat
theorem tsOk_b {r : Row} {t : Int} (h : tsOk r t) : ((t % 256).toNat).testBit (t / 256 / 8).toNat = true ∧ (t / 256 / 8).toNat < 8 := by
  have h1 := h.2.2
  have h2 := h.1
  unfold tb at h1
  exact ⟨h1, by omega⟩
theorem phi_lt {r : Row} {t : Int} (hc : cntB (lkB r) 64 ≤ 26) (h : tsOk r t) : phi r t < 3328 := by
  have hb := tsOk_b h
  have hr := (rmB_tab _ hb.2 (t % 256).toNat (by omega) hb.1).1
  have hz := h.2.1.1
  have := cntB_pos (lkB_z h.2.1) (show (t / 256).toNat < 64 by omega)
  unfold phi
  omega
theorem phi_inj {r : Row} {t s : Int} (h : tsOk r t) (h2 : tsOk r s) (e : phi r t = phi r s) : t = s := by
  have hb := tsOk_b h
  have hb2 := tsOk_b h2
  have hr := rmB_tab _ hb.2 (t % 256).toNat (by omega) hb.1
  have hr2 := rmB_tab _ hb2.2 (s % 256).toNat (by omega) hb2.1
  unfold phi at e
  have ez : (t / 256).toNat = (s / 256).toNat := by
    rcases Nat.lt_trichotomy (t / 256).toNat (s / 256).toNat with q | q | q
    · have := cntB_pos (lkB_z h.2.1) q; omega
    · exact q
    · have := cntB_pos (lkB_z h2.2.1) q; omega
  have h1 := h.1
  have h3 := h2.1
  have ez2 : t / 256 = s / 256 := by omega
  have er : rmB (t % 256).toNat (t / 256 / 8).toNat = rmB (s % 256).toNat (s / 256 / 8).toNat := by rw [ez] at e; omega
  have es : (t % 256).toNat = (s % 256).toNat := by rw [← hr.2, ← hr2.2, er, ez2]
  omega
theorem bfI.lx {r : Row} {Q : Int → Int} {S : Int → Prop} {e : Int} (hc : cntB (lkB r) 64 ≤ 26) (h : bfI r Q S e) : e ≤ 3328 := by
  rcases Int.lt_or_le 3328 e with q | q
  · obtain ⟨a, b, h1, h2, h3⟩ := pigeon 3328 (fun i => phi r (Q i)) (fun i hi => phi_lt hc (h.2.1 (i : Int) (by omega) (by omega)).1)
    exact absurd (phi_inj (h.2.1 (a : Int) (by omega) (by omega)).1 (h.2.1 (b : Int) (by omega) (by omega)).1 h3) (h.2.2.2 a b (by omega) (by omega) (by omega))
  · exact q
theorem bfI.ltx {r : Row} {Q : Int → Int} {S : Int → Prop} {e t : Int} (hc : cntB (lkB r) 64 ≤ 26) (h : bfI r Q S e) (ht : tsOk r t) (hn : ¬ S t) : e < 3328 := by
  have := (h.ad (Q2 := fun j => if j = e then t else Q j) (S2 := fun x => S x ∨ x = t) ⟨fun j _ j1 => if_neg (by omega), if_pos rfl, fun x _ _ => Iff.rfl⟩ ht hn).lx hc
  omega
theorem t0_x {r : Row} {z : Int} (hz : zOk r z) : tsOk r (256 * z + pw (z / 8)) := by
  have h0 := hz.1
  have hp := pw_8 (k := z / 8) (by omega)
  have ht : tb (pw (z / 8)) (z / 8) = true := by rw [tb_pw (by omega) (by omega)]; simp
  generalize hw : pw (z / 8) = w at *
  have e1 : (256 * z + w) / 256 = z := by omega
  have e2 : (256 * z + w) % 256 = w := by omega
  refine ⟨by omega, ?_, ?_⟩
  · rw [e1]; exact hz
  · rw [e1, e2]; exact ht
