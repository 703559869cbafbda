/-! cells by their numbers; names for values on the way; bits -/
theorem sx_0 : Sx[0]? = some (8, 9) := by decide +kernel
theorem sx_1 : Sx[1]? = some (7, 2) := by decide +kernel
theorem sx_2 : Sx[2]? = some (100, 80) := by decide +kernel
theorem sx_3 : Sx[3]? = some (4, 2) := by decide +kernel
theorem sx_4 : Sx[4]? = some (6, 10) := by decide +kernel
theorem sx_5 : Sx[5]? = some (100, 8) := by decide +kernel
theorem sx_6 : Sx[6]? = some (100, 8) := by decide +kernel
theorem sx_7 : Sx[7]? = some (100, 8) := by decide +kernel
theorem sx_8 : Sx[8]? = some (100, 8) := by decide +kernel
theorem sx_9 : Sx[9]? = some (100, 8) := by decide +kernel
theorem sx_10 : Sx[10]? = some (100, 8) := by decide +kernel
theorem sx_11 : Sx[11]? = some (6, 10) := by decide +kernel
theorem sx_12 : Sx[12]? = some (100, 8) := by decide +kernel
theorem sx_13 : Sx[13]? = some (100, 8) := by decide +kernel
theorem sx_14 : Sx[14]? = some (100, 8) := by decide +kernel
theorem sx_15 : Sx[15]? = some (100, 8) := by decide +kernel
theorem sx_16 : Sx[16]? = some (100, 8) := by decide +kernel
theorem sx_17 : Sx[17]? = some (100, 8) := by decide +kernel
theorem sx_18 : Sx[18]? = some (2, 3) := by decide +kernel
theorem sx_19 : Sx[19]? = some (103, 24) := by decide +kernel
theorem sx_188 : Sx[188]? = some (103, 2) := by decide +kernel
theorem sx_189 : Sx[189]? = some (104, 4) := by decide +kernel
theorem sx_190 : Sx[190]? = some (3, 6) := by decide +kernel
theorem sx_191 : Sx[191]? = some (100, 192) := by decide +kernel
theorem sx_192 : Sx[192]? = some (100, 64) := by decide +kernel
theorem sx_193 : Sx[193]? = some (100, 128) := by decide +kernel
theorem sx_194 : Sx[194]? = some (100, 3328) := by decide +kernel
theorem sx_195 : Sx[195]? = some (100, 512) := by decide +kernel
theorem sx_196 : Sx[196]? = some (1, 1) := by decide +kernel
theorem sx_197 : Sx[197]? = some (103, 7) := by decide +kernel
theorem sx_247 : Sx[247]? = some (0, 14) := by decide +kernel
theorem sx_248 : Sx[248]? = some (6, 10) := by decide +kernel
theorem sx_249 : Sx[249]? = some (100, 8) := by decide +kernel
theorem sx_250 : Sx[250]? = some (100, 8) := by decide +kernel
theorem sx_251 : Sx[251]? = some (100, 8) := by decide +kernel
theorem sx_252 : Sx[252]? = some (100, 8) := by decide +kernel
theorem sx_253 : Sx[253]? = some (100, 8) := by decide +kernel
theorem sx_254 : Sx[254]? = some (100, 8) := by decide +kernel
theorem sx_255 : Sx[255]? = some (100, 20) := by decide +kernel
theorem sx_256 : Sx[256]? = some (100, 20) := by decide +kernel
theorem sx_257 : Sx[257]? = some (100, 20) := by decide +kernel
theorem sx_258 : Sx[258]? = some (100, 8) := by decide +kernel
theorem sx_259 : Sx[259]? = some (100, 8) := by decide +kernel
theorem sx_260 : Sx[260]? = some (100, 18) := by decide +kernel
theorem sx_275 : Sx[275]? = some (5, 3) := by decide +kernel
theorem sx_276 : Sx[276]? = some (101, 24) := by decide +kernel
theorem sx_277 : Sx[277]? = some (5, 3) := by decide +kernel
theorem sx_278 : Sx[278]? = some (101, 24) := by decide +kernel
theorem sx_279 : Sx[279]? = some (5, 3) := by decide +kernel
theorem sx_280 : Sx[280]? = some (101, 24) := by decide +kernel
theorem sx_281 : Sx[281]? = some (5, 3) := by decide +kernel
theorem sx_282 : Sx[282]? = some (101, 24) := by decide +kernel
theorem sx_283 : Sx[283]? = some (9, 26) := by decide +kernel
theorem sx_284 : Sx[284]? = some (100, 52) := by decide +kernel
theorem sx_285 : Sx[285]? = some (100, 80) := by decide +kernel
theorem sx_286 : Sx[286]? = some (100, 52) := by decide +kernel
theorem sx_287 : Sx[287]? = some (100, 1248) := by decide +kernel
theorem sx_288 : Sx[288]? = some (100, 104) := by decide +kernel
theorem sx_289 : Sx[289]? = some (100, 52) := by decide +kernel
theorem sx_290 : Sx[290]? = some (100, 16384) := by decide +kernel
theorem sx_291 : Sx[291]? = some (102, 16384) := by decide +kernel
theorem sx_292 : Sx[292]? = some (100, 64) := by decide +kernel
theorem sx_293 : Sx[293]? = some (100, 128) := by decide +kernel
theorem sx_294 : Sx[294]? = some (100, 729) := by decide +kernel
theorem sx_295 : Sx[295]? = some (100, 4) := by decide +kernel
theorem sx_296 : Sx[296]? = some (100, 4) := by decide +kernel
theorem sx_297 : Sx[297]? = some (101, 96) := by decide +kernel
theorem sx_298 : Sx[298]? = some (101, 24) := by decide +kernel
theorem sx_299 : Sx[299]? = some (100, 1056) := by decide +kernel
theorem sx_300 : Sx[300]? = some (100, 20) := by decide +kernel
theorem sx_301 : Sx[301]? = some (100, 20) := by decide +kernel
theorem sx_302 : Sx[302]? = some (100, 5) := by decide +kernel
theorem sx_303 : Sx[303]? = some (100, 8) := by decide +kernel
theorem sx_304 : Sx[304]? = some (100, 9) := by decide +kernel
theorem fx_1_0 : Fx 1 0 = some 2 := by decide +kernel
theorem fx_0_0 : Fx 0 0 = some 1 := by decide +kernel
theorem fx_4_0 : Fx 4 0 = some 5 := by decide +kernel
theorem fx_4_1 : Fx 4 1 = some 6 := by decide +kernel
theorem fx_4_2 : Fx 4 2 = some 7 := by decide +kernel
theorem fx_4_3 : Fx 4 3 = some 8 := by decide +kernel
theorem fx_4_4 : Fx 4 4 = some 9 := by decide +kernel
theorem fx_4_5 : Fx 4 5 = some 10 := by decide +kernel
theorem fx_3_0 : Fx 3 0 = some 4 := by decide +kernel
theorem fx_0_1 : Fx 0 1 = some 3 := by decide +kernel
theorem fx_11_0 : Fx 11 0 = some 12 := by decide +kernel
theorem fx_11_1 : Fx 11 1 = some 13 := by decide +kernel
theorem fx_11_2 : Fx 11 2 = some 14 := by decide +kernel
theorem fx_11_3 : Fx 11 3 = some 15 := by decide +kernel
theorem fx_11_4 : Fx 11 4 = some 16 := by decide +kernel
theorem fx_11_5 : Fx 11 5 = some 17 := by decide +kernel
theorem fx_0_2 : Fx 0 2 = some 11 := by decide +kernel
theorem fx_18_0 : Fx 18 0 = some 19 := by decide +kernel
theorem fx_19_0 : Fx 19 0 = some 20 := by decide +kernel
theorem fx_19_1 : Fx 19 1 = some 27 := by decide +kernel
theorem fx_19_2 : Fx 19 2 = some 34 := by decide +kernel
theorem fx_19_3 : Fx 19 3 = some 41 := by decide +kernel
theorem fx_19_4 : Fx 19 4 = some 48 := by decide +kernel
theorem fx_19_5 : Fx 19 5 = some 55 := by decide +kernel
theorem fx_19_6 : Fx 19 6 = some 62 := by decide +kernel
theorem fx_19_7 : Fx 19 7 = some 69 := by decide +kernel
theorem fx_19_8 : Fx 19 8 = some 76 := by decide +kernel
theorem fx_19_9 : Fx 19 9 = some 83 := by decide +kernel
theorem fx_19_10 : Fx 19 10 = some 90 := by decide +kernel
theorem fx_19_11 : Fx 19 11 = some 97 := by decide +kernel
theorem fx_19_12 : Fx 19 12 = some 104 := by decide +kernel
theorem fx_19_13 : Fx 19 13 = some 111 := by decide +kernel
theorem fx_19_14 : Fx 19 14 = some 118 := by decide +kernel
theorem fx_19_15 : Fx 19 15 = some 125 := by decide +kernel
theorem fx_19_16 : Fx 19 16 = some 132 := by decide +kernel
theorem fx_19_17 : Fx 19 17 = some 139 := by decide +kernel
theorem fx_19_18 : Fx 19 18 = some 146 := by decide +kernel
theorem fx_19_19 : Fx 19 19 = some 153 := by decide +kernel
theorem fx_19_20 : Fx 19 20 = some 160 := by decide +kernel
theorem fx_19_21 : Fx 19 21 = some 167 := by decide +kernel
theorem fx_19_22 : Fx 19 22 = some 174 := by decide +kernel
theorem fx_19_23 : Fx 19 23 = some 181 := by decide +kernel
theorem fx_0_3 : Fx 0 3 = some 18 := by decide +kernel
theorem fx_0_4 : Fx 0 4 = some 188 := by decide +kernel
theorem fx_0_5 : Fx 0 5 = some 189 := by decide +kernel
theorem fx_190_0 : Fx 190 0 = some 191 := by decide +kernel
theorem fx_190_1 : Fx 190 1 = some 192 := by decide +kernel
theorem fx_190_2 : Fx 190 2 = some 193 := by decide +kernel
theorem fx_190_3 : Fx 190 3 = some 194 := by decide +kernel
theorem fx_190_4 : Fx 190 4 = some 195 := by decide +kernel
theorem fx_0_6 : Fx 0 6 = some 190 := by decide +kernel
theorem fx_196_0 : Fx 196 0 = some 197 := by decide +kernel
theorem fx_197_0 : Fx 197 0 = some 198 := by decide +kernel
theorem fx_197_1 : Fx 197 1 = some 205 := by decide +kernel
theorem fx_197_2 : Fx 197 2 = some 212 := by decide +kernel
theorem fx_197_3 : Fx 197 3 = some 219 := by decide +kernel
theorem fx_197_4 : Fx 197 4 = some 226 := by decide +kernel
theorem fx_197_5 : Fx 197 5 = some 233 := by decide +kernel
theorem fx_197_6 : Fx 197 6 = some 240 := by decide +kernel
theorem fx_0_7 : Fx 0 7 = some 196 := by decide +kernel
theorem fx_248_0 : Fx 248 0 = some 249 := by decide +kernel
theorem fx_248_1 : Fx 248 1 = some 250 := by decide +kernel
theorem fx_248_2 : Fx 248 2 = some 251 := by decide +kernel
theorem fx_248_3 : Fx 248 3 = some 252 := by decide +kernel
theorem fx_248_4 : Fx 248 4 = some 253 := by decide +kernel
theorem fx_248_5 : Fx 248 5 = some 254 := by decide +kernel
theorem fx_247_0 : Fx 247 0 = some 248 := by decide +kernel
theorem fx_247_1 : Fx 247 1 = some 255 := by decide +kernel
theorem fx_247_2 : Fx 247 2 = some 256 := by decide +kernel
theorem fx_247_3 : Fx 247 3 = some 257 := by decide +kernel
theorem fx_247_4 : Fx 247 4 = some 258 := by decide +kernel
theorem fx_247_5 : Fx 247 5 = some 259 := by decide +kernel
theorem fx_247_6 : Fx 247 6 = some 260 := by decide +kernel
theorem fx_0_8 : Fx 0 8 = some 247 := by decide +kernel
theorem fx_188_0 : Fx 188 0 = some 261 := by decide +kernel
theorem fx_188_1 : Fx 188 1 = some 268 := by decide +kernel
theorem fx_275_0 : Fx 275 0 = some 276 := by decide +kernel
theorem fx_189_0 : Fx 189 0 = some 275 := by decide +kernel
theorem fx_277_0 : Fx 277 0 = some 278 := by decide +kernel
theorem fx_189_1 : Fx 189 1 = some 277 := by decide +kernel
theorem fx_279_0 : Fx 279 0 = some 280 := by decide +kernel
theorem fx_189_2 : Fx 189 2 = some 279 := by decide +kernel
theorem fx_281_0 : Fx 281 0 = some 282 := by decide +kernel
theorem fx_189_3 : Fx 189 3 = some 281 := by decide +kernel
theorem fx_283_0 : Fx 283 0 = some 284 := by decide +kernel
theorem fx_283_1 : Fx 283 1 = some 285 := by decide +kernel
theorem fx_283_4 : Fx 283 4 = some 286 := by decide +kernel
theorem fx_283_5 : Fx 283 5 = some 287 := by decide +kernel
theorem fx_283_7 : Fx 283 7 = some 288 := by decide +kernel
theorem fx_283_8 : Fx 283 8 = some 289 := by decide +kernel
theorem fx_283_9 : Fx 283 9 = some 290 := by decide +kernel
theorem fx_283_10 : Fx 283 10 = some 291 := by decide +kernel
theorem fx_283_11 : Fx 283 11 = some 292 := by decide +kernel
theorem fx_283_12 : Fx 283 12 = some 293 := by decide +kernel
theorem fx_283_14 : Fx 283 14 = some 294 := by decide +kernel
theorem fx_283_15 : Fx 283 15 = some 295 := by decide +kernel
theorem fx_283_16 : Fx 283 16 = some 296 := by decide +kernel
theorem fx_283_17 : Fx 283 17 = some 297 := by decide +kernel
theorem fx_283_18 : Fx 283 18 = some 298 := by decide +kernel
theorem fx_283_19 : Fx 283 19 = some 299 := by decide +kernel
theorem fx_283_21 : Fx 283 21 = some 300 := by decide +kernel
theorem fx_283_22 : Fx 283 22 = some 301 := by decide +kernel
theorem fx_283_23 : Fx 283 23 = some 302 := by decide +kernel
theorem fx_283_24 : Fx 283 24 = some 303 := by decide +kernel
theorem fx_283_25 : Fx 283 25 = some 304 := by decide +kernel
theorem isS4 : isStrip 4 := by unfold isStrip; decide +kernel
theorem isS11 : isStrip 11 := by unfold isStrip; decide +kernel
theorem isS248 : isStrip 248 := by unfold isStrip; decide +kernel
section Nm
variable {J : JT} {pc : Nat} {lo st : List MV} {D : Dat}
theorem q_nmI {e : Int} (k : ∀ x, x = e → J pc lo (vI x :: st) D) : J pc lo (vI e :: st) D := k e rfl
theorem q_nmL {e : Int} (k : ∀ x, x = e → J pc lo (vL x :: st) D) : J pc lo (vL e :: st) D := k e rfl
theorem q_nmD {e : Dat} (k : ∀ x, x = e → J pc lo st x) : J pc lo st e := k e rfl
end Nm
/-- fewer things said of the locals -/
def wkL : List MV → List MV → Prop
  | [], [] => True
  | a :: l, b :: l2 => (b = vN ∨ b = a) ∧ wkL l l2
  | _, _ => False
theorem wkL_get : ∀ {l l2 : List MV}, wkL l l2 → ∀ (i : Nat) (v : MV), l2[i]? = some v → v ≠ vN → l[i]? = some v
  | [], [], _, i, v, h, _ => by simp at h
  | [], b :: l2, h, _, _, _, _ => h.elim
  | a :: l, [], h, _, _, _, _ => h.elim
  | a :: l, b :: l2, h, 0, v, hv, hn => by
    rw [List.getElem?_cons_zero] at hv ⊢
    cases hv
    rcases h.1 with e | e
    · exact absurd e hn
    · rw [e]
  | a :: l, b :: l2, h, i + 1, v, hv, hn => by
    rw [List.getElem?_cons_succ] at hv ⊢
    exact wkL_get h.2 i v hv hn
theorem q_fgt {g : Gm} {l : Launch} {cls : String} {cc : ByteArray} {nL d : Nat} {J : JT} {pc : Nat} {lo lo2 st : List MV} {D : Dat} (hA : AX g l cls cc nL d J) (h : wkL lo lo2) (k : J pc lo2 st D) : J pc lo st D := by
  obtain ⟨K, n0, s0, mc, ms, ini, hA, hr1, rfl⟩ := hA
  obtain ⟨p, e, R, s, m, args, below, meth, c, Q, hx, hb, hml, hown, hts, hAm, hfr, hlo, hmc, hms, hin, hn0, rfl⟩ := hA
  intro H locs ls hP hS h1 h2 hl
  exact k H locs ls hP hS h1 h2 ⟨hl.1, hl.2.1, fun i v hv hn => hl.2.2 i v (wkL_get h i v hv hn) hn⟩
def tb (x k : Int) : Bool := x.toNat.testBit k.toNat
theorem nI_of_nat (n : Nat) : Int32.ofInt (n : Int) = nI n := Int32.ofInt_eq_ofNat
theorem sh31 : ∀ n, n < 32 → ((nI n &&& 31).toBitVec.smod 32).toNat = n := by decide +kernel
theorem iShr_nat {n k : Nat} (hn : n < 2147483648) (hk : k < 32) : iShr n k = ((n / 2 ^ k : Nat) : Int) := by
  unfold iShr
  rw [nI_of_nat, nI_of_nat, pk_shrN hn _ k (sh31 k hk), nI_toInt]
  have : n / 2 ^ k ≤ n := Nat.div_le_self _ _
  omega
theorem iShl_nat {n k : Nat} (hk : k < 32) (h : n * 2 ^ k < 2147483648) : iShl n k = ((n * 2 ^ k : Nat) : Int) := by
  unfold iShl
  rw [nI_of_nat, nI_of_nat, pk_shlN _ k (sh31 k hk) (by omega), nI_toInt h]
theorem nI_and (a b : Nat) : nI a &&& nI b = nI (a &&& b) := by
  apply Int32.toBitVec_inj.mp
  simp [nI]
theorem nI_or (a b : Nat) : nI a ||| nI b = nI (a ||| b) := by
  apply Int32.toBitVec_inj.mp
  simp [nI]
theorem nI_xor (a b : Nat) : nI a ^^^ nI b = nI (a ^^^ b) := by
  apply Int32.toBitVec_inj.mp
  simp [nI]
theorem iAnd_nat {a b : Nat} (ha : a < 2147483648) : iAnd a b = ((a &&& b : Nat) : Int) := by
  unfold iAnd
  rw [nI_of_nat, nI_of_nat, nI_and, nI_toInt]
  have : a &&& b ≤ a := Nat.and_le_left
  omega
theorem iOr_nat {a b k : Nat} (ha : a < 2 ^ k) (hb : b < 2 ^ k) (hk : k ≤ 31) : iOr a b = ((a ||| b : Nat) : Int) := by
  unfold iOr
  rw [nI_of_nat, nI_of_nat, nI_or, nI_toInt]
  have h1 := Nat.or_lt_two_pow ha hb
  have h2 : 2 ^ k ≤ 2 ^ 31 := Nat.pow_le_pow_right (by omega) hk
  omega
theorem iXor_nat {a b k : Nat} (ha : a < 2 ^ k) (hb : b < 2 ^ k) (hk : k ≤ 31) : iXor a b = ((a ^^^ b : Nat) : Int) := by
  unfold iXor
  rw [nI_of_nat, nI_of_nat, nI_xor, nI_toInt]
  have h1 := Nat.xor_lt_two_pow ha hb
  have h2 : 2 ^ k ≤ 2 ^ 31 := Nat.pow_le_pow_right (by omega) hk
  omega
theorem toN {x : Int} (h : 0 ≤ x) : ∃ n : Nat, x = n := ⟨x.toNat, (Int.toNat_of_nonneg h).symm⟩
theorem bitT {x k : Int} (hx : 0 ≤ x ∧ x ≤ 2147483647) (hk : 0 ≤ k ∧ k < 31) : iAnd (iShr x k) 1 = if tb x k then 1 else 0 := by
  obtain ⟨n, rfl⟩ := toN hx.1
  obtain ⟨j, rfl⟩ := toN hk.1
  have h1 : n / 2 ^ j ≤ n := Nat.div_le_self _ _
  rw [iShr_nat (by omega) (by omega)]
  have := iAnd_nat (a := n / 2 ^ j) (b := 1) (by omega)
  rw [show ((1 : Nat) : Int) = 1 from rfl] at this
  rw [this]
  unfold tb
  simp only [Int.toNat_natCast]
  simp only [Nat.testBit_eq_decide_div_mod_eq, Nat.and_one_is_mod]
  have h2 : n / 2 ^ j % 2 = 0 ∨ n / 2 ^ j % 2 = 1 := by omega
  rcases h2 with h2 | h2 <;> simp [h2]
theorem pow_lt31 {k : Nat} (hk : k < 31) : 2 ^ k < 2147483648 := Nat.lt_of_lt_of_le (Nat.pow_lt_pow_right (by omega) hk) (by decide)
theorem shl1 {k : Int} (hk : 0 ≤ k ∧ k < 31) : iShl 1 k = ((2 ^ k.toNat : Nat) : Int) := by
  obtain ⟨j, rfl⟩ := toN hk.1
  have := iShl_nat (n := 1) (k := j) (by omega) (by have := pow_lt31 (k := j) (by omega); omega)
  rw [show ((1 : Nat) : Int) = 1 from rfl] at this
  rw [this]; simp
/-- a bit set -/
def sb (x k : Int) : Int := ((x.toNat ||| 2 ^ k.toNat : Nat) : Int)
def cb (x k : Int) : Int := ((x.toNat ^^^ (x.toNat &&& 2 ^ k.toNat) : Nat) : Int)
theorem orShl {x k : Int} {m : Nat} (hx : 0 ≤ x ∧ x < (2 ^ m : Nat)) (hk : 0 ≤ k ∧ k < m) (hm : m ≤ 31) : iOr x (iShl 1 k) = sb x k := by
  rw [shl1 (by omega)]
  obtain ⟨n, rfl⟩ := toN hx.1
  unfold sb
  rw [iOr_nat (k := m) (by omega) (Nat.pow_lt_pow_right (by omega) (by omega)) hm]
  simp
theorem sb_lt {x k : Int} {m : Nat} (hx : 0 ≤ x ∧ x < (2 ^ m : Nat)) (hk : 0 ≤ k ∧ k < m) : 0 ≤ sb x k ∧ sb x k < (2 ^ m : Nat) := by
  unfold sb
  have h1 : x.toNat < 2 ^ m := by omega
  have h2 : 2 ^ k.toNat < 2 ^ m := Nat.pow_lt_pow_right (by omega) (by omega)
  have := Nat.or_lt_two_pow h1 h2
  omega
theorem tb_sb {x k j : Int} (hk : 0 ≤ k) (hj : 0 ≤ j) : tb (sb x k) j = (tb x j || decide (j = k)) := by
  unfold tb sb
  rw [Int.toNat_natCast, Nat.testBit_or, Nat.testBit_two_pow]
  congr 1
  by_cases h : j = k
  · subst h; simp
  · simp [h]; omega
theorem tb_0 (k : Int) : tb 0 k = false := by simp [tb]
theorem tb_and {a b : Nat} {k : Int} : tb ((a &&& b : Nat) : Int) k = (tb a k && tb b k) := by
  unfold tb; simp [Nat.testBit_and]

def w32 (x : Int) : Int := (Int32.ofInt x).toInt
theorem w32_in (x : Int) : -2147483648 ≤ w32 x ∧ w32 x ≤ 2147483647 := by
  unfold w32
  have h1 := Int32.le_toInt (Int32.ofInt x)
  have h2 := Int32.toInt_lt (Int32.ofInt x)
  omega
theorem w32_id {x : Int} (h : -2147483648 ≤ x ∧ x ≤ 2147483647) : w32 x = x := n32_in h
theorem toB_in (x : Int) : -128 ≤ toB x ∧ toB x ≤ 127 := by
  unfold toB
  have h1 := Int8.le_toInt (Int32.ofInt x).toInt8
  have h2 := Int8.toInt_lt (Int32.ofInt x).toInt8
  rw [Int8.toInt_toInt32]
  omega
theorem toS_in (x : Int) : -32768 ≤ toS x ∧ toS x ≤ 32767 := by
  unfold toS
  have h1 := Int16.le_toInt (Int32.ofInt x).toInt16
  have h2 := Int16.toInt_lt (Int32.ofInt x).toInt16
  rw [Int16.toInt_toInt32]
  omega
theorem q_w32 {g : Gm} {l : Launch} {cls : String} {cc : ByteArray} {nL d : Nat} {J : JT} {pc : Nat} {lo st : List MV} {D : Dat} {e : Int} (hA : AX g l cls cc nL d J) (k : J pc lo (vI (w32 e) :: st) D) : J pc lo (vI e :: st) D := by
  obtain ⟨K, n0, s0, mc, ms, ini, hA, hr1, rfl⟩ := hA
  obtain ⟨p, e2, R, s, m, args, below, meth, c, Q, hx, hb, hml, hown, hts, hAm, hfr, hlo, hmc, hms, hin, hn0, rfl⟩ := hA
  intro H locs ls hP hS h1 h2 hl
  have k2 := k H locs ls hP hS h1 h2 hl
  simp only [List.map_cons, vv, w32, Int32.ofInt_toInt] at k2
  exact k2
def isSh (s : Nat) : Prop := s ∈ [275, 277, 279, 281]
theorem shTab : [275, 277, 279, 281].all (fun a => decide (Sx[a]? = some (5, 3)) && (decide (Sx[a + 1]? = some (101, 24)) && decide (Fx a 0 = some (a + 1)))) = true := by decide +kernel
theorem shS {a : Nat} (h : isSh a) : Sx[a]? = some (5, 3) := by
  have := List.all_eq_true.mp shTab a h
  simp only [Bool.and_eq_true, decide_eq_true_eq] at this
  exact this.1
theorem shS1 {a : Nat} (h : isSh a) : Sx[a + 1]? = some (101, 24) := by
  have := List.all_eq_true.mp shTab a h
  simp only [Bool.and_eq_true, decide_eq_true_eq] at this
  exact this.2.1
theorem shF {a : Nat} (h : isSh a) : Fx a 0 = some (a + 1) := by
  have := List.all_eq_true.mp shTab a h
  simp only [Bool.and_eq_true, decide_eq_true_eq] at this
  exact this.2.2
theorem cmpL_spec (a b : Int) : (cmpL a b = 1 ∧ b < a) ∨ (cmpL a b = 0 ∧ a = b) ∨ (cmpL a b = -1 ∧ a < b) := by
  unfold cmpL
  split
  · exact Or.inl ⟨rfl, by omega⟩
  · split
    · exact Or.inr (Or.inl ⟨rfl, by omega⟩)
    · exact Or.inr (Or.inr ⟨rfl, by omega⟩)
