/-! rows: an instruction each -/
theorem n32_in {a : Int} (h : -2147483648 ≤ a ∧ a ≤ 2147483647) : (Int32.ofInt a).toInt = a := Int32.toInt_ofInt_of_le (by omega) (by omega)
theorem n64_in {a : Int} (h : -9223372036854775808 ≤ a ∧ a ≤ 9223372036854775807) : (Int64.ofInt a).toInt = a := Int64.toInt_ofInt_of_le (by omega) (by omega)
theorem n32_lt {a b : Int} (ha : -2147483648 ≤ a ∧ a ≤ 2147483647) (hb : -2147483648 ≤ b ∧ b ≤ 2147483647) : Int32.ofInt a < Int32.ofInt b ↔ a < b := by
  rw [Int32.lt_iff_toInt_lt, n32_in ha, n32_in hb]
theorem n32_le {a b : Int} (ha : -2147483648 ≤ a ∧ a ≤ 2147483647) (hb : -2147483648 ≤ b ∧ b ≤ 2147483647) : Int32.ofInt a ≤ Int32.ofInt b ↔ a ≤ b := by
  rw [Int32.le_iff_toInt_le, n32_in ha, n32_in hb]
theorem n32_eq {a b : Int} (ha : -2147483648 ≤ a ∧ a ≤ 2147483647) (hb : -2147483648 ≤ b ∧ b ≤ 2147483647) : Int32.ofInt a = Int32.ofInt b ↔ a = b := by
  rw [← Int32.toInt_inj, n32_in ha, n32_in hb]
theorem n32_z : (0 : Int32) = Int32.ofInt 0 := rfl
theorem n32_lt0 {a : Int} (ha : -2147483648 ≤ a ∧ a ≤ 2147483647) : Int32.ofInt a < 0 ↔ a < 0 := by rw [n32_z, n32_lt ha (by omega)]
theorem n32_le0 {a : Int} (ha : -2147483648 ≤ a ∧ a ≤ 2147483647) : Int32.ofInt a ≤ 0 ↔ a ≤ 0 := by rw [n32_z, n32_le ha (by omega)]
theorem n32_eq0 {a : Int} (ha : -2147483648 ≤ a ∧ a ≤ 2147483647) : Int32.ofInt a = 0 ↔ a = 0 := by rw [n32_z, n32_eq ha (by omega)]
theorem n64_lt {a b : Int} (ha : -9223372036854775808 ≤ a ∧ a ≤ 9223372036854775807) (hb : -9223372036854775808 ≤ b ∧ b ≤ 9223372036854775807) : Int64.ofInt a < Int64.ofInt b ↔ a < b := by
  rw [Int64.lt_iff_toInt_lt, n64_in ha, n64_in hb]
theorem n64_eq {a b : Int} (ha : -9223372036854775808 ≤ a ∧ a ≤ 9223372036854775807) (hb : -9223372036854775808 ≤ b ∧ b ≤ 9223372036854775807) : Int64.ofInt a = Int64.ofInt b ↔ a = b := by
  rw [← Int64.toInt_inj, n64_in ha, n64_in hb]
def iAnd (a b : Int) : Int := (Int32.ofInt a &&& Int32.ofInt b).toInt
def iOr (a b : Int) : Int := (Int32.ofInt a ||| Int32.ofInt b).toInt
def iXor (a b : Int) : Int := (Int32.ofInt a ^^^ Int32.ofInt b).toInt
def iShl (a b : Int) : Int := (Int32.ofInt a <<< (Int32.ofInt b &&& 31)).toInt
def iShr (a b : Int) : Int := (Int32.ofInt a >>> (Int32.ofInt b &&& 31)).toInt
def iUshr (a b : Int) : Int := ((Int32.ofInt a).toUInt32 >>> ((Int32.ofInt b).toUInt32 &&& Int32.toUInt32 31)).toInt32.toInt
def lAnd (a b : Int) : Int := (Int64.ofInt a &&& Int64.ofInt b).toInt
def lOr (a b : Int) : Int := (Int64.ofInt a ||| Int64.ofInt b).toInt
def lShl (a b : Int) : Int := (Int64.ofInt a <<< ((Int32.ofInt b).toInt64 &&& 63)).toInt
def lShr (a b : Int) : Int := (Int64.ofInt a >>> ((Int32.ofInt b).toInt64 &&& 63)).toInt
def toB (a : Int) : Int := (Int32.ofInt a).toInt8.toInt32.toInt
def toS (a : Int) : Int := (Int32.ofInt a).toInt16.toInt32.toInt
def cmpL (a b : Int) : Int := if b < a then 1 else if a = b then 0 else -1
section MRows
variable {g : Gm} {l : Launch} {cls : String} {cc : ByteArray} {nL d n0 s0 mc ms : Nat} {ini : Prop} {K : KT} {pc : Nat} {lo st : List MV} {S : Shp} {F : Rfs} {D : Dat}

theorem r_iconst (hA : Act g l cls cc nL d n0 s0 mc ms ini K) {n : Int} (hd : decode cc pc = .ok (.iconst n, 1)) (k : K (pc + 1) lo (vI n :: st) S F D) : K pc lo (st) S F D := by
  obtain ⟨p, e, R, s, m, args, below, meth, c, Q, hx, hb, hml, hown, hts, hAm, hfr, hlo, hmc, hms, hin, hn0, rfl⟩ := hA
  intro H locs ls hP hS h1 h2 hl
  have k2 := k H locs ls hP hS h1 h2 hl
  simp only [List.map_cons, vv] at k2
  exact lv_iconst hx hb hd rfl k2
theorem r_bipush (hA : Act g l cls cc nL d n0 s0 mc ms ini K) {n : Int} (hn : -128 ≤ n ∧ n ≤ 127) (hd : decode cc pc = .ok (.bipush n, 2)) (k : K (pc + 2) lo (vI n :: st) S F D) : K pc lo (st) S F D := by
  obtain ⟨p, e, R, s, m, args, below, meth, c, Q, hx, hb, hml, hown, hts, hAm, hfr, hlo, hmc, hms, hin, hn0, rfl⟩ := hA
  intro H locs ls hP hS h1 h2 hl
  have k2 := k H locs ls hP hS h1 h2 hl
  simp only [List.map_cons, vv] at k2
  exact lv_bipush hx hb hd (by rw [← Int32.toInt_inj, n32_in (by omega), Int8.toInt_toInt32, Int8.toInt_ofInt_of_le (by omega) (by omega)]) k2
theorem r_sipush (hA : Act g l cls cc nL d n0 s0 mc ms ini K) {n : Int} (hn : -32768 ≤ n ∧ n ≤ 32767) (hd : decode cc pc = .ok (.sipush n, 3)) (k : K (pc + 3) lo (vI n :: st) S F D) : K pc lo (st) S F D := by
  obtain ⟨p, e, R, s, m, args, below, meth, c, Q, hx, hb, hml, hown, hts, hAm, hfr, hlo, hmc, hms, hin, hn0, rfl⟩ := hA
  intro H locs ls hP hS h1 h2 hl
  have k2 := k H locs ls hP hS h1 h2 hl
  simp only [List.map_cons, vv] at k2
  exact lv_sipush hx hb hd (by rw [← Int32.toInt_inj, n32_in (by omega), Int16.toInt_toInt32, Int16.toInt_ofInt_of_le (by omega) (by omega)]) k2
theorem r_lconst (hA : Act g l cls cc nL d n0 s0 mc ms ini K) {n : Fin 2} (hd : decode cc pc = .ok (.lconst n, 1)) (k : K (pc + 1) lo (vL ((n : Nat) : Int) :: st) S F D) : K pc lo (st) S F D := by
  obtain ⟨p, e, R, s, m, args, below, meth, c, Q, hx, hb, hml, hown, hts, hAm, hfr, hlo, hmc, hms, hin, hn0, rfl⟩ := hA
  intro H locs ls hP hS h1 h2 hl
  have k2 := k H locs ls hP hS h1 h2 hl
  simp only [List.map_cons, vv] at k2
  exact lv_lconst hx hb hd (by rw [← Int64.ofInt_eq_ofNat]) k2
theorem r_iload_n (hA : Act g l cls cc nL d n0 s0 mc ms ini K) {j : Fin 4} {x : Int} (hl2 : lo[(j : Nat)]? = some (vI x)) (hd : decode cc pc = .ok (.iload_n j, 1)) (k : K (pc + 1) lo (vI x :: st) S F D) : K pc lo (st) S F D := by
  obtain ⟨p, e, R, s, m, args, below, meth, c, Q, hx, hb, hml, hown, hts, hAm, hfr, hlo, hmc, hms, hin, hn0, rfl⟩ := hA
  intro H locs ls hP hS h1 h2 hl
  have k2 := k H locs ls hP hS h1 h2 hl
  simp only [List.map_cons, vv] at k2
  exact lv_iload_n hx hb hd rfl (hl.2.2 _ _ hl2 (fun h => by cases h)) k2
theorem r_iload (hA : Act g l cls cc nL d n0 s0 mc ms ini K) {j : Nat} {x : Int} (hl2 : lo[j]? = some (vI x)) (hd : decode cc pc = .ok (.iload j, 2)) (k : K (pc + 2) lo (vI x :: st) S F D) : K pc lo (st) S F D := by
  obtain ⟨p, e, R, s, m, args, below, meth, c, Q, hx, hb, hml, hown, hts, hAm, hfr, hlo, hmc, hms, hin, hn0, rfl⟩ := hA
  intro H locs ls hP hS h1 h2 hl
  have k2 := k H locs ls hP hS h1 h2 hl
  simp only [List.map_cons, vv] at k2
  exact lv_iload hx hb hd (hl.2.2 _ _ hl2 (fun h => by cases h)) k2
theorem r_lload_n (hA : Act g l cls cc nL d n0 s0 mc ms ini K) {j : Fin 4} {x : Int} (hl2 : lo[(j : Nat)]? = some (vL x)) (hd : decode cc pc = .ok (.lload_n j, 1)) (k : K (pc + 1) lo (vL x :: st) S F D) : K pc lo (st) S F D := by
  obtain ⟨p, e, R, s, m, args, below, meth, c, Q, hx, hb, hml, hown, hts, hAm, hfr, hlo, hmc, hms, hin, hn0, rfl⟩ := hA
  intro H locs ls hP hS h1 h2 hl
  have k2 := k H locs ls hP hS h1 h2 hl
  simp only [List.map_cons, vv] at k2
  exact lv_lload_n hx hb hd rfl (hl.2.2 _ _ hl2 (fun h => by cases h)) k2
theorem r_lload (hA : Act g l cls cc nL d n0 s0 mc ms ini K) {j : Nat} {x : Int} (hl2 : lo[j]? = some (vL x)) (hd : decode cc pc = .ok (.lload j, 2)) (k : K (pc + 2) lo (vL x :: st) S F D) : K pc lo (st) S F D := by
  obtain ⟨p, e, R, s, m, args, below, meth, c, Q, hx, hb, hml, hown, hts, hAm, hfr, hlo, hmc, hms, hin, hn0, rfl⟩ := hA
  intro H locs ls hP hS h1 h2 hl
  have k2 := k H locs ls hP hS h1 h2 hl
  simp only [List.map_cons, vv] at k2
  exact lv_lload hx hb hd (hl.2.2 _ _ hl2 (fun h => by cases h)) k2
theorem r_aload_n (hA : Act g l cls cc nL d n0 s0 mc ms ini K) {j : Fin 4} {x : Nat} (hl2 : lo[(j : Nat)]? = some (vR x)) (hd : decode cc pc = .ok (.aload_n j, 1)) (k : K (pc + 1) lo (vR x :: st) S F D) : K pc lo (st) S F D := by
  obtain ⟨p, e, R, s, m, args, below, meth, c, Q, hx, hb, hml, hown, hts, hAm, hfr, hlo, hmc, hms, hin, hn0, rfl⟩ := hA
  intro H locs ls hP hS h1 h2 hl
  have k2 := k H locs ls hP hS h1 h2 hl
  simp only [List.map_cons, vv] at k2
  exact lv_aload_n hx hb hd rfl (hl.2.2 _ _ hl2 (fun h => by cases h)) k2
theorem r_aload (hA : Act g l cls cc nL d n0 s0 mc ms ini K) {j : Nat} {x : Nat} (hl2 : lo[j]? = some (vR x)) (hd : decode cc pc = .ok (.aload j, 2)) (k : K (pc + 2) lo (vR x :: st) S F D) : K pc lo (st) S F D := by
  obtain ⟨p, e, R, s, m, args, below, meth, c, Q, hx, hb, hml, hown, hts, hAm, hfr, hlo, hmc, hms, hin, hn0, rfl⟩ := hA
  intro H locs ls hP hS h1 h2 hl
  have k2 := k H locs ls hP hS h1 h2 hl
  simp only [List.map_cons, vv] at k2
  exact lv_aload hx hb hd (hl.2.2 _ _ hl2 (fun h => by cases h)) k2
theorem r_aload_nz (hA : Act g l cls cc nL d n0 s0 mc ms ini K) {j : Fin 4} {x : Nat} (hl2 : lo[(j : Nat)]? = some (vZ x)) (hd : decode cc pc = .ok (.aload_n j, 1)) (k : K (pc + 1) lo (vZ x :: st) S F D) : K pc lo (st) S F D := by
  obtain ⟨p, e, R, s, m, args, below, meth, c, Q, hx, hb, hml, hown, hts, hAm, hfr, hlo, hmc, hms, hin, hn0, rfl⟩ := hA
  intro H locs ls hP hS h1 h2 hl
  have k2 := k H locs ls hP hS h1 h2 hl
  simp only [List.map_cons, vv] at k2
  exact lv_aload_n hx hb hd rfl (hl.2.2 _ _ hl2 (fun h => by cases h)) k2
theorem r_aloadz (hA : Act g l cls cc nL d n0 s0 mc ms ini K) {j : Nat} {x : Nat} (hl2 : lo[j]? = some (vZ x)) (hd : decode cc pc = .ok (.aload j, 2)) (k : K (pc + 2) lo (vZ x :: st) S F D) : K pc lo (st) S F D := by
  obtain ⟨p, e, R, s, m, args, below, meth, c, Q, hx, hb, hml, hown, hts, hAm, hfr, hlo, hmc, hms, hin, hn0, rfl⟩ := hA
  intro H locs ls hP hS h1 h2 hl
  have k2 := k H locs ls hP hS h1 h2 hl
  simp only [List.map_cons, vv] at k2
  exact lv_aload hx hb hd (hl.2.2 _ _ hl2 (fun h => by cases h)) k2
theorem r_iadd (hA : Act g l cls cc nL d n0 s0 mc ms ini K) {a b : Int} (hd : decode cc pc = .ok (.iadd, 1)) (k : K (pc + 1) lo (vI (a + b) :: st) S F D) : K pc lo (vI b :: vI a :: st) S F D := by
  obtain ⟨p, e, R, s, m, args, below, meth, c, Q, hx, hb, hml, hown, hts, hAm, hfr, hlo, hmc, hms, hin, hn0, rfl⟩ := hA
  intro H locs ls hP hS h1 h2 hl
  have k2 := k H locs ls hP hS h1 h2 hl
  simp only [List.map_cons, vv, Int32.ofInt_add] at k2
  exact lv_iadd hx hb hd k2
theorem r_isub (hA : Act g l cls cc nL d n0 s0 mc ms ini K) {a b : Int} (hd : decode cc pc = .ok (.isub, 1)) (k : K (pc + 1) lo (vI (a - b) :: st) S F D) : K pc lo (vI b :: vI a :: st) S F D := by
  obtain ⟨p, e, R, s, m, args, below, meth, c, Q, hx, hb, hml, hown, hts, hAm, hfr, hlo, hmc, hms, hin, hn0, rfl⟩ := hA
  intro H locs ls hP hS h1 h2 hl
  have k2 := k H locs ls hP hS h1 h2 hl
  simp only [List.map_cons, vv, Int32.ofInt_sub] at k2
  exact lv_isub hx hb hd k2
theorem r_imul (hA : Act g l cls cc nL d n0 s0 mc ms ini K) {a b : Int} (hd : decode cc pc = .ok (.imul, 1)) (k : K (pc + 1) lo (vI (a * b) :: st) S F D) : K pc lo (vI b :: vI a :: st) S F D := by
  obtain ⟨p, e, R, s, m, args, below, meth, c, Q, hx, hb, hml, hown, hts, hAm, hfr, hlo, hmc, hms, hin, hn0, rfl⟩ := hA
  intro H locs ls hP hS h1 h2 hl
  have k2 := k H locs ls hP hS h1 h2 hl
  simp only [List.map_cons, vv, Int32.ofInt_mul] at k2
  exact lv_imul hx hb hd k2
theorem r_ladd (hA : Act g l cls cc nL d n0 s0 mc ms ini K) {a b : Int} (hd : decode cc pc = .ok (.ladd, 1)) (k : K (pc + 1) lo (vL (a + b) :: st) S F D) : K pc lo (vL b :: vL a :: st) S F D := by
  obtain ⟨p, e, R, s, m, args, below, meth, c, Q, hx, hb, hml, hown, hts, hAm, hfr, hlo, hmc, hms, hin, hn0, rfl⟩ := hA
  intro H locs ls hP hS h1 h2 hl
  have k2 := k H locs ls hP hS h1 h2 hl
  simp only [List.map_cons, vv, Int64.ofInt_add] at k2
  exact lv_ladd hx hb hd k2
theorem r_lsub (hA : Act g l cls cc nL d n0 s0 mc ms ini K) {a b : Int} (hd : decode cc pc = .ok (.lsub, 1)) (k : K (pc + 1) lo (vL (a - b) :: st) S F D) : K pc lo (vL b :: vL a :: st) S F D := by
  obtain ⟨p, e, R, s, m, args, below, meth, c, Q, hx, hb, hml, hown, hts, hAm, hfr, hlo, hmc, hms, hin, hn0, rfl⟩ := hA
  intro H locs ls hP hS h1 h2 hl
  have k2 := k H locs ls hP hS h1 h2 hl
  simp only [List.map_cons, vv, Int64.ofInt_sub] at k2
  exact lv_lsub hx hb hd k2
theorem r_lmul (hA : Act g l cls cc nL d n0 s0 mc ms ini K) {a b : Int} (hd : decode cc pc = .ok (.lmul, 1)) (k : K (pc + 1) lo (vL (a * b) :: st) S F D) : K pc lo (vL b :: vL a :: st) S F D := by
  obtain ⟨p, e, R, s, m, args, below, meth, c, Q, hx, hb, hml, hown, hts, hAm, hfr, hlo, hmc, hms, hin, hn0, rfl⟩ := hA
  intro H locs ls hP hS h1 h2 hl
  have k2 := k H locs ls hP hS h1 h2 hl
  simp only [List.map_cons, vv, Int64.ofInt_mul] at k2
  exact lv_lmul hx hb hd k2
theorem r_ineg (hA : Act g l cls cc nL d n0 s0 mc ms ini K) {a : Int} (hd : decode cc pc = .ok (.ineg, 1)) (k : K (pc + 1) lo (vI (-a) :: st) S F D) : K pc lo (vI a :: st) S F D := by
  obtain ⟨p, e, R, s, m, args, below, meth, c, Q, hx, hb, hml, hown, hts, hAm, hfr, hlo, hmc, hms, hin, hn0, rfl⟩ := hA
  intro H locs ls hP hS h1 h2 hl
  have k2 := k H locs ls hP hS h1 h2 hl
  simp only [List.map_cons, vv, Int32.ofInt_neg] at k2
  exact lv_ineg hx hb hd k2
theorem r_iand (hA : Act g l cls cc nL d n0 s0 mc ms ini K) {a b : Int} (hd : decode cc pc = .ok (.iand, 1)) (k : K (pc + 1) lo (vI (iAnd a b) :: st) S F D) : K pc lo (vI b :: vI a :: st) S F D := by
  obtain ⟨p, e, R, s, m, args, below, meth, c, Q, hx, hb, hml, hown, hts, hAm, hfr, hlo, hmc, hms, hin, hn0, rfl⟩ := hA
  intro H locs ls hP hS h1 h2 hl
  have k2 := k H locs ls hP hS h1 h2 hl
  simp only [List.map_cons, vv, iAnd, Int32.ofInt_toInt] at k2
  exact lv_iand hx hb hd k2
theorem r_ior (hA : Act g l cls cc nL d n0 s0 mc ms ini K) {a b : Int} (hd : decode cc pc = .ok (.ior, 1)) (k : K (pc + 1) lo (vI (iOr a b) :: st) S F D) : K pc lo (vI b :: vI a :: st) S F D := by
  obtain ⟨p, e, R, s, m, args, below, meth, c, Q, hx, hb, hml, hown, hts, hAm, hfr, hlo, hmc, hms, hin, hn0, rfl⟩ := hA
  intro H locs ls hP hS h1 h2 hl
  have k2 := k H locs ls hP hS h1 h2 hl
  simp only [List.map_cons, vv, iOr, Int32.ofInt_toInt] at k2
  exact lv_ior hx hb hd k2
theorem r_ixor (hA : Act g l cls cc nL d n0 s0 mc ms ini K) {a b : Int} (hd : decode cc pc = .ok (.ixor, 1)) (k : K (pc + 1) lo (vI (iXor a b) :: st) S F D) : K pc lo (vI b :: vI a :: st) S F D := by
  obtain ⟨p, e, R, s, m, args, below, meth, c, Q, hx, hb, hml, hown, hts, hAm, hfr, hlo, hmc, hms, hin, hn0, rfl⟩ := hA
  intro H locs ls hP hS h1 h2 hl
  have k2 := k H locs ls hP hS h1 h2 hl
  simp only [List.map_cons, vv, iXor, Int32.ofInt_toInt] at k2
  exact lv_ixor hx hb hd k2
theorem r_ishl (hA : Act g l cls cc nL d n0 s0 mc ms ini K) {a b : Int} (hd : decode cc pc = .ok (.ishl, 1)) (k : K (pc + 1) lo (vI (iShl a b) :: st) S F D) : K pc lo (vI b :: vI a :: st) S F D := by
  obtain ⟨p, e, R, s, m, args, below, meth, c, Q, hx, hb, hml, hown, hts, hAm, hfr, hlo, hmc, hms, hin, hn0, rfl⟩ := hA
  intro H locs ls hP hS h1 h2 hl
  have k2 := k H locs ls hP hS h1 h2 hl
  simp only [List.map_cons, vv, iShl, Int32.ofInt_toInt] at k2
  exact lv_ishl hx hb hd k2
theorem r_ishr (hA : Act g l cls cc nL d n0 s0 mc ms ini K) {a b : Int} (hd : decode cc pc = .ok (.ishr, 1)) (k : K (pc + 1) lo (vI (iShr a b) :: st) S F D) : K pc lo (vI b :: vI a :: st) S F D := by
  obtain ⟨p, e, R, s, m, args, below, meth, c, Q, hx, hb, hml, hown, hts, hAm, hfr, hlo, hmc, hms, hin, hn0, rfl⟩ := hA
  intro H locs ls hP hS h1 h2 hl
  have k2 := k H locs ls hP hS h1 h2 hl
  simp only [List.map_cons, vv, iShr, Int32.ofInt_toInt] at k2
  exact lv_ishr hx hb hd k2
theorem r_iushr (hA : Act g l cls cc nL d n0 s0 mc ms ini K) {a b : Int} (hd : decode cc pc = .ok (.iushr, 1)) (k : K (pc + 1) lo (vI (iUshr a b) :: st) S F D) : K pc lo (vI b :: vI a :: st) S F D := by
  obtain ⟨p, e, R, s, m, args, below, meth, c, Q, hx, hb, hml, hown, hts, hAm, hfr, hlo, hmc, hms, hin, hn0, rfl⟩ := hA
  intro H locs ls hP hS h1 h2 hl
  have k2 := k H locs ls hP hS h1 h2 hl
  simp only [List.map_cons, vv, iUshr, Int32.ofInt_toInt] at k2
  exact lv_iushr hx hb hd rfl k2
theorem r_land (hA : Act g l cls cc nL d n0 s0 mc ms ini K) {a b : Int} (hd : decode cc pc = .ok (.land, 1)) (k : K (pc + 1) lo (vL (lAnd a b) :: st) S F D) : K pc lo (vL b :: vL a :: st) S F D := by
  obtain ⟨p, e, R, s, m, args, below, meth, c, Q, hx, hb, hml, hown, hts, hAm, hfr, hlo, hmc, hms, hin, hn0, rfl⟩ := hA
  intro H locs ls hP hS h1 h2 hl
  have k2 := k H locs ls hP hS h1 h2 hl
  simp only [List.map_cons, vv, lAnd, Int64.ofInt_toInt] at k2
  exact lv_land hx hb hd k2
theorem r_lor (hA : Act g l cls cc nL d n0 s0 mc ms ini K) {a b : Int} (hd : decode cc pc = .ok (.lor, 1)) (k : K (pc + 1) lo (vL (lOr a b) :: st) S F D) : K pc lo (vL b :: vL a :: st) S F D := by
  obtain ⟨p, e, R, s, m, args, below, meth, c, Q, hx, hb, hml, hown, hts, hAm, hfr, hlo, hmc, hms, hin, hn0, rfl⟩ := hA
  intro H locs ls hP hS h1 h2 hl
  have k2 := k H locs ls hP hS h1 h2 hl
  simp only [List.map_cons, vv, lOr, Int64.ofInt_toInt] at k2
  exact lv_lor hx hb hd k2
theorem r_lshl (hA : Act g l cls cc nL d n0 s0 mc ms ini K) {a b : Int} (hd : decode cc pc = .ok (.lshl, 1)) (k : K (pc + 1) lo (vL (lShl a b) :: st) S F D) : K pc lo (vI b :: vL a :: st) S F D := by
  obtain ⟨p, e, R, s, m, args, below, meth, c, Q, hx, hb, hml, hown, hts, hAm, hfr, hlo, hmc, hms, hin, hn0, rfl⟩ := hA
  intro H locs ls hP hS h1 h2 hl
  have k2 := k H locs ls hP hS h1 h2 hl
  simp only [List.map_cons, vv, lShl, Int64.ofInt_toInt] at k2
  exact lv_lshl hx hb hd rfl k2
theorem r_lshr (hA : Act g l cls cc nL d n0 s0 mc ms ini K) {a b : Int} (hd : decode cc pc = .ok (.lshr, 1)) (k : K (pc + 1) lo (vL (lShr a b) :: st) S F D) : K pc lo (vI b :: vL a :: st) S F D := by
  obtain ⟨p, e, R, s, m, args, below, meth, c, Q, hx, hb, hml, hown, hts, hAm, hfr, hlo, hmc, hms, hin, hn0, rfl⟩ := hA
  intro H locs ls hP hS h1 h2 hl
  have k2 := k H locs ls hP hS h1 h2 hl
  simp only [List.map_cons, vv, lShr, Int64.ofInt_toInt] at k2
  exact lv_lshr hx hb hd rfl k2
theorem n32_div {a b : Int} (ha : 0 ≤ a ∧ a ≤ 2147483647) (hb0 : 0 < b ∧ b ≤ 2147483647) : Int32.ofInt (a / b) = Int32.ofInt a / Int32.ofInt b := by
  rw [← Int.tdiv_eq_ediv_of_nonneg ha.1]
  exact Int32.ofInt_tdiv (by show (-2147483648 : Int) ≤ a; omega) (by show a ≤ 2147483647; omega) (by show (-2147483648 : Int) ≤ b; omega) (by show b ≤ 2147483647; omega)
theorem n64_div {a b : Int} (ha : 0 ≤ a ∧ a ≤ 9223372036854775807) (hb0 : 0 < b ∧ b ≤ 9223372036854775807) : Int64.ofInt (a / b) = Int64.ofInt a / Int64.ofInt b := by
  rw [← Int.tdiv_eq_ediv_of_nonneg ha.1]
  exact Int64.ofInt_tdiv (by show (-9223372036854775808 : Int) ≤ a; omega) (by show a ≤ 9223372036854775807; omega) (by show (-9223372036854775808 : Int) ≤ b; omega) (by show b ≤ 9223372036854775807; omega)
theorem n32_rem {a b : Int} (ha : 0 ≤ a ∧ a ≤ 2147483647) (hb0 : 0 < b ∧ b ≤ 2147483647) : Int32.ofInt (a % b) = Int32.ofInt a - Int32.ofInt a / Int32.ofInt b * Int32.ofInt b := by
  rw [← n32_div ha hb0, ← Int32.ofInt_mul, ← Int32.ofInt_sub, Int.emod_def, Int.mul_comm]
theorem n64_rem {a b : Int} (ha : 0 ≤ a ∧ a ≤ 9223372036854775807) (hb0 : 0 < b ∧ b ≤ 9223372036854775807) : Int64.ofInt (a % b) = Int64.ofInt a - Int64.ofInt a / Int64.ofInt b * Int64.ofInt b := by
  rw [← n64_div ha hb0, ← Int64.ofInt_mul, ← Int64.ofInt_sub, Int.emod_def, Int.mul_comm]
theorem r_idiv (hA : Act g l cls cc nL d n0 s0 mc ms ini K) {a b : Int} (ha : 0 ≤ a ∧ a ≤ 2147483647) (hb0 : 0 < b ∧ b ≤ 2147483647) (hd : decode cc pc = .ok (.idiv, 1)) (k : K (pc + 1) lo (vI (a / b) :: st) S F D) : K pc lo (vI b :: vI a :: st) S F D := by
  obtain ⟨p, e, R, s, m, args, below, meth, c, Q, hx, hb, hml, hown, hts, hAm, hfr, hlo, hmc, hms, hin, hn0, rfl⟩ := hA
  intro H locs ls hP hS h1 h2 hl
  have k2 := k H locs ls hP hS h1 h2 hl
  simp only [List.map_cons, vv, n32_div ha hb0] at k2
  exact lv_idiv hx hb hd (fun h => by rw [n32_eq0 (by omega)] at h; omega) k2
theorem r_irem (hA : Act g l cls cc nL d n0 s0 mc ms ini K) {a b : Int} (ha : 0 ≤ a ∧ a ≤ 2147483647) (hb0 : 0 < b ∧ b ≤ 2147483647) (hd : decode cc pc = .ok (.irem, 1)) (k : K (pc + 1) lo (vI (a % b) :: st) S F D) : K pc lo (vI b :: vI a :: st) S F D := by
  obtain ⟨p, e, R, s, m, args, below, meth, c, Q, hx, hb, hml, hown, hts, hAm, hfr, hlo, hmc, hms, hin, hn0, rfl⟩ := hA
  intro H locs ls hP hS h1 h2 hl
  have k2 := k H locs ls hP hS h1 h2 hl
  simp only [List.map_cons, vv, n32_rem ha hb0] at k2
  exact lv_irem hx hb hd (fun h => by rw [n32_eq0 (by omega)] at h; omega) k2
theorem r_ldiv (hA : Act g l cls cc nL d n0 s0 mc ms ini K) {a b : Int} (ha : 0 ≤ a ∧ a ≤ 9223372036854775807) (hb0 : 0 < b ∧ b ≤ 9223372036854775807) (hd : decode cc pc = .ok (.ldiv, 1)) (k : K (pc + 1) lo (vL (a / b) :: st) S F D) : K pc lo (vL b :: vL a :: st) S F D := by
  obtain ⟨p, e, R, s, m, args, below, meth, c, Q, hx, hb, hml, hown, hts, hAm, hfr, hlo, hmc, hms, hin, hn0, rfl⟩ := hA
  intro H locs ls hP hS h1 h2 hl
  have k2 := k H locs ls hP hS h1 h2 hl
  simp only [List.map_cons, vv, n64_div ha hb0] at k2
  exact lv_ldiv hx hb hd (fun h => by rw [show (0 : Int64) = Int64.ofInt 0 from rfl, n64_eq (by omega) (by omega)] at h; omega) k2
theorem r_lrem (hA : Act g l cls cc nL d n0 s0 mc ms ini K) {a b : Int} (ha : 0 ≤ a ∧ a ≤ 9223372036854775807) (hb0 : 0 < b ∧ b ≤ 9223372036854775807) (hd : decode cc pc = .ok (.lrem, 1)) (k : K (pc + 1) lo (vL (a % b) :: st) S F D) : K pc lo (vL b :: vL a :: st) S F D := by
  obtain ⟨p, e, R, s, m, args, below, meth, c, Q, hx, hb, hml, hown, hts, hAm, hfr, hlo, hmc, hms, hin, hn0, rfl⟩ := hA
  intro H locs ls hP hS h1 h2 hl
  have k2 := k H locs ls hP hS h1 h2 hl
  simp only [List.map_cons, vv, n64_rem ha hb0] at k2
  exact lv_lrem hx hb hd (fun h => by rw [show (0 : Int64) = Int64.ofInt 0 from rfl, n64_eq (by omega) (by omega)] at h; omega) k2
theorem r_i2l (hA : Act g l cls cc nL d n0 s0 mc ms ini K) {a : Int} (ha : -2147483648 ≤ a ∧ a ≤ 2147483647) (hd : decode cc pc = .ok (.i2l, 1)) (k : K (pc + 1) lo (vL a :: st) S F D) : K pc lo (vI a :: st) S F D := by
  obtain ⟨p, e, R, s, m, args, below, meth, c, Q, hx, hb, hml, hown, hts, hAm, hfr, hlo, hmc, hms, hin, hn0, rfl⟩ := hA
  intro H locs ls hP hS h1 h2 hl
  have k2 := k H locs ls hP hS h1 h2 hl
  simp only [List.map_cons, vv] at k2
  exact lv_i2l hx hb hd (Int32.toInt64_ofInt (by show (-2147483648 : Int) ≤ a; omega) (by show a ≤ 2147483647; omega)) k2
theorem r_l2i (hA : Act g l cls cc nL d n0 s0 mc ms ini K) {a : Int} (hd : decode cc pc = .ok (.l2i, 1)) (k : K (pc + 1) lo (vI a :: st) S F D) : K pc lo (vL a :: st) S F D := by
  obtain ⟨p, e, R, s, m, args, below, meth, c, Q, hx, hb, hml, hown, hts, hAm, hfr, hlo, hmc, hms, hin, hn0, rfl⟩ := hA
  intro H locs ls hP hS h1 h2 hl
  have k2 := k H locs ls hP hS h1 h2 hl
  simp only [List.map_cons, vv] at k2
  exact lv_l2i hx hb hd Int64.toInt32_ofInt k2
theorem r_i2b (hA : Act g l cls cc nL d n0 s0 mc ms ini K) {a : Int} (hd : decode cc pc = .ok (.i2b, 1)) (k : K (pc + 1) lo (vI (toB a) :: st) S F D) : K pc lo (vI a :: st) S F D := by
  obtain ⟨p, e, R, s, m, args, below, meth, c, Q, hx, hb, hml, hown, hts, hAm, hfr, hlo, hmc, hms, hin, hn0, rfl⟩ := hA
  intro H locs ls hP hS h1 h2 hl
  have k2 := k H locs ls hP hS h1 h2 hl
  simp only [List.map_cons, vv, toB, Int32.ofInt_toInt] at k2
  exact lv_i2b hx hb hd rfl k2
theorem r_i2s (hA : Act g l cls cc nL d n0 s0 mc ms ini K) {a : Int} (hd : decode cc pc = .ok (.i2s, 1)) (k : K (pc + 1) lo (vI (toS a) :: st) S F D) : K pc lo (vI a :: st) S F D := by
  obtain ⟨p, e, R, s, m, args, below, meth, c, Q, hx, hb, hml, hown, hts, hAm, hfr, hlo, hmc, hms, hin, hn0, rfl⟩ := hA
  intro H locs ls hP hS h1 h2 hl
  have k2 := k H locs ls hP hS h1 h2 hl
  simp only [List.map_cons, vv, toS, Int32.ofInt_toInt] at k2
  exact lv_i2s hx hb hd rfl k2
theorem r_dupI (hA : Act g l cls cc nL d n0 s0 mc ms ini K) {a : Int} (hd : decode cc pc = .ok (.dup, 1)) (k : K (pc + 1) lo (vI a :: vI a :: st) S F D) : K pc lo (vI a :: st) S F D := by
  obtain ⟨p, e, R, s, m, args, below, meth, c, Q, hx, hb, hml, hown, hts, hAm, hfr, hlo, hmc, hms, hin, hn0, rfl⟩ := hA
  intro H locs ls hP hS h1 h2 hl
  have k2 := k H locs ls hP hS h1 h2 hl
  simp only [List.map_cons, vv] at k2
  exact lv_dup hx hb hd rfl k2
theorem r_dupR (hA : Act g l cls cc nL d n0 s0 mc ms ini K) {a : Nat} (hd : decode cc pc = .ok (.dup, 1)) (k : K (pc + 1) lo (vR a :: vR a :: st) S F D) : K pc lo (vR a :: st) S F D := by
  obtain ⟨p, e, R, s, m, args, below, meth, c, Q, hx, hb, hml, hown, hts, hAm, hfr, hlo, hmc, hms, hin, hn0, rfl⟩ := hA
  intro H locs ls hP hS h1 h2 hl
  have k2 := k H locs ls hP hS h1 h2 hl
  simp only [List.map_cons, vv] at k2
  exact lv_dup hx hb hd rfl k2
theorem r_dup2IR (hA : Act g l cls cc nL d n0 s0 mc ms ini K) {a : Int} {b : Nat} (hd : decode cc pc = .ok (.dup2, 1)) (k : K (pc + 1) lo (vI a :: vR b :: vI a :: vR b :: st) S F D) : K pc lo (vI a :: vR b :: st) S F D := by
  obtain ⟨p, e, R, s, m, args, below, meth, c, Q, hx, hb, hml, hown, hts, hAm, hfr, hlo, hmc, hms, hin, hn0, rfl⟩ := hA
  intro H locs ls hP hS h1 h2 hl
  have k2 := k H locs ls hP hS h1 h2 hl
  simp only [List.map_cons, vv] at k2
  exact lv_dup2_11 hx hb hd rfl rfl k2
theorem r_dup2L (hA : Act g l cls cc nL d n0 s0 mc ms ini K) {a : Int} (hd : decode cc pc = .ok (.dup2, 1)) (k : K (pc + 1) lo (vL a :: vL a :: st) S F D) : K pc lo (vL a :: st) S F D := by
  obtain ⟨p, e, R, s, m, args, below, meth, c, Q, hx, hb, hml, hown, hts, hAm, hfr, hlo, hmc, hms, hin, hn0, rfl⟩ := hA
  intro H locs ls hP hS h1 h2 hl
  have k2 := k H locs ls hP hS h1 h2 hl
  simp only [List.map_cons, vv] at k2
  exact lv_dup2_2 hx hb hd rfl k2
theorem r_pop2L (hA : Act g l cls cc nL d n0 s0 mc ms ini K) {a : Int} (hd : decode cc pc = .ok (.pop2, 1)) (k : K (pc + 1) lo st S F D) : K pc lo (vL a :: st) S F D := by
  obtain ⟨p, e, R, s, m, args, below, meth, c, Q, hx, hb, hml, hown, hts, hAm, hfr, hlo, hmc, hms, hin, hn0, rfl⟩ := hA
  intro H locs ls hP hS h1 h2 hl
  exact lv_pop2_2 (va := vv (gH g) (vL a)) hx hb hd rfl (k H locs ls hP hS h1 h2 hl)
theorem r_lcmp (hA : Act g l cls cc nL d n0 s0 mc ms ini K) {a b : Int} (ha : -9223372036854775808 ≤ a ∧ a ≤ 9223372036854775807) (hb0 : -9223372036854775808 ≤ b ∧ b ≤ 9223372036854775807) (hd : decode cc pc = .ok (.lcmp, 1)) (k : K (pc + 1) lo (vI (cmpL a b) :: st) S F D) : K pc lo (vL b :: vL a :: st) S F D := by
  obtain ⟨p, e, R, s, m, args, below, meth, c, Q, hx, hb, hml, hown, hts, hAm, hfr, hlo, hmc, hms, hin, hn0, rfl⟩ := hA
  intro H locs ls hP hS h1 h2 hl
  have k2 := k H locs ls hP hS h1 h2 hl
  simp only [List.map_cons, vv] at k2
  exact W.lcmp hx hb hd (by rw [show lg_cmp (Int64.ofInt a) (Int64.ofInt b) = Int32.ofInt (cmpL a b) by (unfold lg_cmp cmpL; simp only [gt_iff_lt, n64_lt hb0 ha, n64_eq ha hb0]; split <;> first | rfl | (split <;> rfl))]; exact k2)
theorem r_goto (hA : Act g l cls cc nL d n0 s0 mc ms ini K) {off : Int} {tgt : Nat} (hd : decode cc pc = .ok (.goto off, 3)) (ht : (pc : Int) + off = (tgt : Int)) (k : K tgt lo st S F D) : K pc lo st S F D := by
  obtain ⟨p, e, R, s, m, args, below, meth, c, Q, hx, hb, hml, hown, hts, hAm, hfr, hlo, hmc, hms, hin, hn0, rfl⟩ := hA
  intro H locs ls hP hS h1 h2 hl
  exact lv_goto hx hb hd ht (k H locs ls hP hS h1 h2 hl)
theorem r_if_eq (hA : Act g l cls cc nL d n0 s0 mc ms ini K) {a : Int} (ha : -2147483648 ≤ a ∧ a ≤ 2147483647) {off : Int} {tgt : Nat} (hd : decode cc pc = .ok (.ifCond .eq off, 3)) (ht : (pc : Int) + off = (tgt : Int)) (kt : a = 0 → K tgt lo st S F D) (kf : a ≠ 0 → K (pc + 3) lo st S F D) : K pc lo (vI a :: st) S F D := by
  obtain ⟨p, e, R, s, m, args, below, meth, c, Q, hx, hb, hml, hown, hts, hAm, hfr, hlo, hmc, hms, hin, hn0, rfl⟩ := hA
  intro H locs ls hP hS h1 h2 hl
  refine lv_if_eq (x := Int32.ofInt a) (rest := st.map (vv (gH g))) hx hb hd ht (fun h => kt ?_ H locs ls hP hS h1 h2 hl) (fun h => kf ?_ H locs ls hP hS h1 h2 hl)
  all_goals (have e0 := n32_eq0 ha; have e1 := n32_z; have e2 := n32_lt0 ha; have e3 := n32_le0 ha; have e4 := n32_le (show -2147483648 ≤ (0 : Int) ∧ (0 : Int) ≤ 2147483647 by omega) ha; have e5 := n32_lt (show -2147483648 ≤ (0 : Int) ∧ (0 : Int) ≤ 2147483647 by omega) ha; rw [← e1] at e4 e5; first | exact e0.mp h | exact fun q => h (e0.mpr q) | (exact Decidable.byContradiction fun q => h (fun z => q (e0.mp z))) | (have := e4.mp h; omega) | (have := e5.mp h; omega) | (have := mt e2.mpr h; omega) | (have := mt e3.mpr h; omega) | (have := mt e4.mpr h; omega) | (have := mt e5.mpr h; omega))
theorem r_if_ne (hA : Act g l cls cc nL d n0 s0 mc ms ini K) {a : Int} (ha : -2147483648 ≤ a ∧ a ≤ 2147483647) {off : Int} {tgt : Nat} (hd : decode cc pc = .ok (.ifCond .ne off, 3)) (ht : (pc : Int) + off = (tgt : Int)) (kt : a ≠ 0 → K tgt lo st S F D) (kf : a = 0 → K (pc + 3) lo st S F D) : K pc lo (vI a :: st) S F D := by
  obtain ⟨p, e, R, s, m, args, below, meth, c, Q, hx, hb, hml, hown, hts, hAm, hfr, hlo, hmc, hms, hin, hn0, rfl⟩ := hA
  intro H locs ls hP hS h1 h2 hl
  refine lv_if_ne (x := Int32.ofInt a) (rest := st.map (vv (gH g))) hx hb hd ht (fun h => kt ?_ H locs ls hP hS h1 h2 hl) (fun h => kf ?_ H locs ls hP hS h1 h2 hl)
  all_goals (have e0 := n32_eq0 ha; have e1 := n32_z; have e2 := n32_lt0 ha; have e3 := n32_le0 ha; have e4 := n32_le (show -2147483648 ≤ (0 : Int) ∧ (0 : Int) ≤ 2147483647 by omega) ha; have e5 := n32_lt (show -2147483648 ≤ (0 : Int) ∧ (0 : Int) ≤ 2147483647 by omega) ha; rw [← e1] at e4 e5; first | exact e0.mp h | exact fun q => h (e0.mpr q) | (exact Decidable.byContradiction fun q => h (fun z => q (e0.mp z))) | (have := e4.mp h; omega) | (have := e5.mp h; omega) | (have := mt e2.mpr h; omega) | (have := mt e3.mpr h; omega) | (have := mt e4.mpr h; omega) | (have := mt e5.mpr h; omega))
theorem r_if_lt (hA : Act g l cls cc nL d n0 s0 mc ms ini K) {a : Int} (ha : -2147483648 ≤ a ∧ a ≤ 2147483647) {off : Int} {tgt : Nat} (hd : decode cc pc = .ok (.ifCond .lt off, 3)) (ht : (pc : Int) + off = (tgt : Int)) (kt : a < 0 → K tgt lo st S F D) (kf : 0 ≤ a → K (pc + 3) lo st S F D) : K pc lo (vI a :: st) S F D := by
  obtain ⟨p, e, R, s, m, args, below, meth, c, Q, hx, hb, hml, hown, hts, hAm, hfr, hlo, hmc, hms, hin, hn0, rfl⟩ := hA
  intro H locs ls hP hS h1 h2 hl
  refine lv_if_lt (x := Int32.ofInt a) (rest := st.map (vv (gH g))) hx hb hd ht (fun h => kt ?_ H locs ls hP hS h1 h2 hl) (fun h => kf ?_ H locs ls hP hS h1 h2 hl)
  all_goals (have e0 := n32_lt0 ha; have e1 := n32_z; have e2 := n32_lt0 ha; have e3 := n32_le0 ha; have e4 := n32_le (show -2147483648 ≤ (0 : Int) ∧ (0 : Int) ≤ 2147483647 by omega) ha; have e5 := n32_lt (show -2147483648 ≤ (0 : Int) ∧ (0 : Int) ≤ 2147483647 by omega) ha; rw [← e1] at e4 e5; first | exact e0.mp h | exact fun q => h (e0.mpr q) | (exact Decidable.byContradiction fun q => h (fun z => q (e0.mp z))) | (have := e4.mp h; omega) | (have := e5.mp h; omega) | (have := mt e2.mpr h; omega) | (have := mt e3.mpr h; omega) | (have := mt e4.mpr h; omega) | (have := mt e5.mpr h; omega))
theorem r_if_ge (hA : Act g l cls cc nL d n0 s0 mc ms ini K) {a : Int} (ha : -2147483648 ≤ a ∧ a ≤ 2147483647) {off : Int} {tgt : Nat} (hd : decode cc pc = .ok (.ifCond .ge off, 3)) (ht : (pc : Int) + off = (tgt : Int)) (kt : 0 ≤ a → K tgt lo st S F D) (kf : a < 0 → K (pc + 3) lo st S F D) : K pc lo (vI a :: st) S F D := by
  obtain ⟨p, e, R, s, m, args, below, meth, c, Q, hx, hb, hml, hown, hts, hAm, hfr, hlo, hmc, hms, hin, hn0, rfl⟩ := hA
  intro H locs ls hP hS h1 h2 hl
  refine lv_if_ge (x := Int32.ofInt a) (rest := st.map (vv (gH g))) hx hb hd ht (fun h => kt ?_ H locs ls hP hS h1 h2 hl) (fun h => kf ?_ H locs ls hP hS h1 h2 hl)
  all_goals (have e0 := n32_lt0 ha; have e1 := n32_z; have e2 := n32_lt0 ha; have e3 := n32_le0 ha; have e4 := n32_le (show -2147483648 ≤ (0 : Int) ∧ (0 : Int) ≤ 2147483647 by omega) ha; have e5 := n32_lt (show -2147483648 ≤ (0 : Int) ∧ (0 : Int) ≤ 2147483647 by omega) ha; rw [← e1] at e4 e5; first | exact e0.mp h | exact fun q => h (e0.mpr q) | (exact Decidable.byContradiction fun q => h (fun z => q (e0.mp z))) | (have := e4.mp h; omega) | (have := e5.mp h; omega) | (have := mt e2.mpr h; omega) | (have := mt e3.mpr h; omega) | (have := mt e4.mpr h; omega) | (have := mt e5.mpr h; omega))
theorem r_if_gt (hA : Act g l cls cc nL d n0 s0 mc ms ini K) {a : Int} (ha : -2147483648 ≤ a ∧ a ≤ 2147483647) {off : Int} {tgt : Nat} (hd : decode cc pc = .ok (.ifCond .gt off, 3)) (ht : (pc : Int) + off = (tgt : Int)) (kt : 0 < a → K tgt lo st S F D) (kf : a ≤ 0 → K (pc + 3) lo st S F D) : K pc lo (vI a :: st) S F D := by
  obtain ⟨p, e, R, s, m, args, below, meth, c, Q, hx, hb, hml, hown, hts, hAm, hfr, hlo, hmc, hms, hin, hn0, rfl⟩ := hA
  intro H locs ls hP hS h1 h2 hl
  refine lv_if_gt (x := Int32.ofInt a) (rest := st.map (vv (gH g))) hx hb hd ht (fun h => kt ?_ H locs ls hP hS h1 h2 hl) (fun h => kf ?_ H locs ls hP hS h1 h2 hl)
  all_goals (have e0 := n32_le0 ha; have e1 := n32_z; have e2 := n32_lt0 ha; have e3 := n32_le0 ha; have e4 := n32_le (show -2147483648 ≤ (0 : Int) ∧ (0 : Int) ≤ 2147483647 by omega) ha; have e5 := n32_lt (show -2147483648 ≤ (0 : Int) ∧ (0 : Int) ≤ 2147483647 by omega) ha; rw [← e1] at e4 e5; first | exact e0.mp h | exact fun q => h (e0.mpr q) | (exact Decidable.byContradiction fun q => h (fun z => q (e0.mp z))) | (have := e4.mp h; omega) | (have := e5.mp h; omega) | (have := mt e2.mpr h; omega) | (have := mt e3.mpr h; omega) | (have := mt e4.mpr h; omega) | (have := mt e5.mpr h; omega))
theorem r_if_le (hA : Act g l cls cc nL d n0 s0 mc ms ini K) {a : Int} (ha : -2147483648 ≤ a ∧ a ≤ 2147483647) {off : Int} {tgt : Nat} (hd : decode cc pc = .ok (.ifCond .le off, 3)) (ht : (pc : Int) + off = (tgt : Int)) (kt : a ≤ 0 → K tgt lo st S F D) (kf : 0 < a → K (pc + 3) lo st S F D) : K pc lo (vI a :: st) S F D := by
  obtain ⟨p, e, R, s, m, args, below, meth, c, Q, hx, hb, hml, hown, hts, hAm, hfr, hlo, hmc, hms, hin, hn0, rfl⟩ := hA
  intro H locs ls hP hS h1 h2 hl
  refine lv_if_le (x := Int32.ofInt a) (rest := st.map (vv (gH g))) hx hb hd ht (fun h => kt ?_ H locs ls hP hS h1 h2 hl) (fun h => kf ?_ H locs ls hP hS h1 h2 hl)
  all_goals (have e0 := n32_le0 ha; have e1 := n32_z; have e2 := n32_lt0 ha; have e3 := n32_le0 ha; have e4 := n32_le (show -2147483648 ≤ (0 : Int) ∧ (0 : Int) ≤ 2147483647 by omega) ha; have e5 := n32_lt (show -2147483648 ≤ (0 : Int) ∧ (0 : Int) ≤ 2147483647 by omega) ha; rw [← e1] at e4 e5; first | exact e0.mp h | exact fun q => h (e0.mpr q) | (exact Decidable.byContradiction fun q => h (fun z => q (e0.mp z))) | (have := e4.mp h; omega) | (have := e5.mp h; omega) | (have := mt e2.mpr h; omega) | (have := mt e3.mpr h; omega) | (have := mt e4.mpr h; omega) | (have := mt e5.mpr h; omega))
theorem r_icmp_eq (hA : Act g l cls cc nL d n0 s0 mc ms ini K) {a b : Int} (ha : -2147483648 ≤ a ∧ a ≤ 2147483647) (hb0 : -2147483648 ≤ b ∧ b ≤ 2147483647) {off : Int} {tgt : Nat} (hd : decode cc pc = .ok (.if_icmp .eq off, 3)) (ht : (pc : Int) + off = (tgt : Int)) (kt : a = b → K tgt lo st S F D) (kf : a ≠ b → K (pc + 3) lo st S F D) : K pc lo (vI b :: vI a :: st) S F D := by
  obtain ⟨p, e, R, s, m, args, below, meth, c, Q, hx, hb, hml, hown, hts, hAm, hfr, hlo, hmc, hms, hin, hn0, rfl⟩ := hA
  intro H locs ls hP hS h1 h2 hl
  refine lv_icmp_eq (x := Int32.ofInt a) (y := Int32.ofInt b) (rest := st.map (vv (gH g))) hx hb hd ht (fun h => kt ?_ H locs ls hP hS h1 h2 hl) (fun h => kf ?_ H locs ls hP hS h1 h2 hl)
  all_goals (have e0 := n32_eq ha hb0; first | exact e0.mp h | exact fun q => h (e0.mpr q) | (exact Decidable.byContradiction fun q => h (fun z => q (e0.mp z))) | (have := mt e0.mpr h; omega))
theorem r_icmp_ne (hA : Act g l cls cc nL d n0 s0 mc ms ini K) {a b : Int} (ha : -2147483648 ≤ a ∧ a ≤ 2147483647) (hb0 : -2147483648 ≤ b ∧ b ≤ 2147483647) {off : Int} {tgt : Nat} (hd : decode cc pc = .ok (.if_icmp .ne off, 3)) (ht : (pc : Int) + off = (tgt : Int)) (kt : a ≠ b → K tgt lo st S F D) (kf : a = b → K (pc + 3) lo st S F D) : K pc lo (vI b :: vI a :: st) S F D := by
  obtain ⟨p, e, R, s, m, args, below, meth, c, Q, hx, hb, hml, hown, hts, hAm, hfr, hlo, hmc, hms, hin, hn0, rfl⟩ := hA
  intro H locs ls hP hS h1 h2 hl
  refine lv_icmp_ne (x := Int32.ofInt a) (y := Int32.ofInt b) (rest := st.map (vv (gH g))) hx hb hd ht (fun h => kt ?_ H locs ls hP hS h1 h2 hl) (fun h => kf ?_ H locs ls hP hS h1 h2 hl)
  all_goals (have e0 := n32_eq ha hb0; first | exact e0.mp h | exact fun q => h (e0.mpr q) | (exact Decidable.byContradiction fun q => h (fun z => q (e0.mp z))) | (have := mt e0.mpr h; omega))
theorem r_icmp_lt (hA : Act g l cls cc nL d n0 s0 mc ms ini K) {a b : Int} (ha : -2147483648 ≤ a ∧ a ≤ 2147483647) (hb0 : -2147483648 ≤ b ∧ b ≤ 2147483647) {off : Int} {tgt : Nat} (hd : decode cc pc = .ok (.if_icmp .lt off, 3)) (ht : (pc : Int) + off = (tgt : Int)) (kt : a < b → K tgt lo st S F D) (kf : b ≤ a → K (pc + 3) lo st S F D) : K pc lo (vI b :: vI a :: st) S F D := by
  obtain ⟨p, e, R, s, m, args, below, meth, c, Q, hx, hb, hml, hown, hts, hAm, hfr, hlo, hmc, hms, hin, hn0, rfl⟩ := hA
  intro H locs ls hP hS h1 h2 hl
  refine lv_icmp_lt (x := Int32.ofInt a) (y := Int32.ofInt b) (rest := st.map (vv (gH g))) hx hb hd ht (fun h => kt ?_ H locs ls hP hS h1 h2 hl) (fun h => kf ?_ H locs ls hP hS h1 h2 hl)
  all_goals (have e0 := n32_lt ha hb0; first | exact e0.mp h | exact fun q => h (e0.mpr q) | (exact Decidable.byContradiction fun q => h (fun z => q (e0.mp z))) | (have := mt e0.mpr h; omega))
theorem r_icmp_ge (hA : Act g l cls cc nL d n0 s0 mc ms ini K) {a b : Int} (ha : -2147483648 ≤ a ∧ a ≤ 2147483647) (hb0 : -2147483648 ≤ b ∧ b ≤ 2147483647) {off : Int} {tgt : Nat} (hd : decode cc pc = .ok (.if_icmp .ge off, 3)) (ht : (pc : Int) + off = (tgt : Int)) (kt : b ≤ a → K tgt lo st S F D) (kf : a < b → K (pc + 3) lo st S F D) : K pc lo (vI b :: vI a :: st) S F D := by
  obtain ⟨p, e, R, s, m, args, below, meth, c, Q, hx, hb, hml, hown, hts, hAm, hfr, hlo, hmc, hms, hin, hn0, rfl⟩ := hA
  intro H locs ls hP hS h1 h2 hl
  refine lv_icmp_ge (x := Int32.ofInt a) (y := Int32.ofInt b) (rest := st.map (vv (gH g))) hx hb hd ht (fun h => kt ?_ H locs ls hP hS h1 h2 hl) (fun h => kf ?_ H locs ls hP hS h1 h2 hl)
  all_goals (have e0 := n32_le hb0 ha; first | exact e0.mp h | exact fun q => h (e0.mpr q) | (exact Decidable.byContradiction fun q => h (fun z => q (e0.mp z))) | (have := mt e0.mpr h; omega))
theorem r_icmp_gt (hA : Act g l cls cc nL d n0 s0 mc ms ini K) {a b : Int} (ha : -2147483648 ≤ a ∧ a ≤ 2147483647) (hb0 : -2147483648 ≤ b ∧ b ≤ 2147483647) {off : Int} {tgt : Nat} (hd : decode cc pc = .ok (.if_icmp .gt off, 3)) (ht : (pc : Int) + off = (tgt : Int)) (kt : b < a → K tgt lo st S F D) (kf : a ≤ b → K (pc + 3) lo st S F D) : K pc lo (vI b :: vI a :: st) S F D := by
  obtain ⟨p, e, R, s, m, args, below, meth, c, Q, hx, hb, hml, hown, hts, hAm, hfr, hlo, hmc, hms, hin, hn0, rfl⟩ := hA
  intro H locs ls hP hS h1 h2 hl
  refine lv_icmp_gt (x := Int32.ofInt a) (y := Int32.ofInt b) (rest := st.map (vv (gH g))) hx hb hd ht (fun h => kt ?_ H locs ls hP hS h1 h2 hl) (fun h => kf ?_ H locs ls hP hS h1 h2 hl)
  all_goals (have e0 := n32_lt hb0 ha; first | exact e0.mp h | exact fun q => h (e0.mpr q) | (exact Decidable.byContradiction fun q => h (fun z => q (e0.mp z))) | (have := mt e0.mpr h; omega))
theorem r_icmp_le (hA : Act g l cls cc nL d n0 s0 mc ms ini K) {a b : Int} (ha : -2147483648 ≤ a ∧ a ≤ 2147483647) (hb0 : -2147483648 ≤ b ∧ b ≤ 2147483647) {off : Int} {tgt : Nat} (hd : decode cc pc = .ok (.if_icmp .le off, 3)) (ht : (pc : Int) + off = (tgt : Int)) (kt : a ≤ b → K tgt lo st S F D) (kf : b < a → K (pc + 3) lo st S F D) : K pc lo (vI b :: vI a :: st) S F D := by
  obtain ⟨p, e, R, s, m, args, below, meth, c, Q, hx, hb, hml, hown, hts, hAm, hfr, hlo, hmc, hms, hin, hn0, rfl⟩ := hA
  intro H locs ls hP hS h1 h2 hl
  refine lv_icmp_le (x := Int32.ofInt a) (y := Int32.ofInt b) (rest := st.map (vv (gH g))) hx hb hd ht (fun h => kt ?_ H locs ls hP hS h1 h2 hl) (fun h => kf ?_ H locs ls hP hS h1 h2 hl)
  all_goals (have e0 := n32_le ha hb0; first | exact e0.mp h | exact fun q => h (e0.mpr q) | (exact Decidable.byContradiction fun q => h (fun z => q (e0.mp z))) | (have := mt e0.mpr h; omega))
theorem r_icmp_eq_t (hA : Act g l cls cc nL d n0 s0 mc ms ini K) {a b : Int} (hab : a = b) {off : Int} {tgt : Nat} (hd : decode cc pc = .ok (.if_icmp .eq off, 3)) (ht : (pc : Int) + off = (tgt : Int)) (kt : K tgt lo st S F D) : K pc lo (vI b :: vI a :: st) S F D := by
  subst hab
  obtain ⟨p, e, R, s, m, args, below, meth, c, Q, hx, hb, hml, hown, hts, hAm, hfr, hlo, hmc, hms, hin, hn0, rfl⟩ := hA
  intro H locs ls hP hS h1 h2 hl
  exact lv_icmp_eq (x := Int32.ofInt a) (y := Int32.ofInt a) (rest := st.map (vv (gH g))) hx hb hd ht (fun h => kt H locs ls hP hS h1 h2 hl) (fun h => absurd rfl h)
theorem r_icmp_ne_f (hA : Act g l cls cc nL d n0 s0 mc ms ini K) {a b : Int} (hab : a = b) {off : Int} {tgt : Nat} (hd : decode cc pc = .ok (.if_icmp .ne off, 3)) (ht : (pc : Int) + off = (tgt : Int)) (kf : K (pc + 3) lo st S F D) : K pc lo (vI b :: vI a :: st) S F D := by
  subst hab
  obtain ⟨p, e, R, s, m, args, below, meth, c, Q, hx, hb, hml, hown, hts, hAm, hfr, hlo, hmc, hms, hin, hn0, rfl⟩ := hA
  intro H locs ls hP hS h1 h2 hl
  exact lv_icmp_ne (x := Int32.ofInt a) (y := Int32.ofInt a) (rest := st.map (vv (gH g))) hx hb hd ht (fun h => absurd rfl h) (fun h => kf H locs ls hP hS h1 h2 hl)
theorem lvh_pairs {h : Nat} {ls : Array Slot} {nL : Nat} {lo : List MV} (hl : lvh h ls nL lo) : lv_has ls nL ((lo.zipIdx.filter (fun q => decide (q.1 ≠ vN))).map (fun q => (q.2, vv h q.1))) := by
  refine ⟨hl.1, hl.2.1, fun q hq => ?_⟩
  obtain ⟨z, hz, rfl⟩ := List.mem_map.mp hq
  obtain ⟨h1, h2⟩ := List.mem_filter.mp hz
  have h3 := List.mem_zipIdx_iff_getElem?.mp h1
  exact hl.2.2 _ _ h3 (by simpa using h2)
/-- a store of a word that isn't long: a long that stood ahead of it must be given up first -/
def stOk (lo : List MV) (j : Nat) : Bool := match j with
  | 0 => true
  | i + 1 => match lo[i]? with
    | some (.inr (.inl _)) => false
    | _ => true
theorem vv_cat {h : Nat} {v : MV} (hc : (vv h v).category = 2) : ∃ x, v = vL x := by
  rcases v with x | x | x | x | x
  · cases hc
  · exact ⟨x, rfl⟩
  · cases hc
  · cases hc
  · cases hc
theorem lvh_of1 {h : Nat} {ls' : Array Slot} {nL j : Nat} {lo : List MV} {v : MV} (hok : stOk lo j = true) (e2 : lv_has ls' nL ((j, vv h v) :: ((lo.zipIdx.filter (fun q => decide (q.1 ≠ vN))).map (fun q => (q.2, vv h q.1))).filter (fun q => !(q.1 == j) && !(q.1 + 1 == j && q.2.category == 2)))) : lvh h ls' nL (lo.set j v) := by
  refine ⟨e2.1, e2.2.1, fun i w hw hn => ?_⟩
  by_cases hi : i = j
  · subst hi
    have hw2 : (lo.set i v)[i]? = some v := by
      rw [List.getElem?_set_self (by have := (List.getElem?_eq_some_iff.mp hw).1; simpa using this)]
    rw [hw2] at hw
    cases hw
    exact e2.2.2 (i, vv h v) List.mem_cons_self
  · rw [List.getElem?_set_ne (fun q => hi q.symm)] at hw
    refine e2.2.2 (i, vv h w) (List.mem_cons_of_mem _ (List.mem_filter.mpr ⟨List.mem_map.mpr ⟨(w, i), List.mem_filter.mpr ⟨List.mem_zipIdx_iff_getElem?.mpr hw, by simpa using hn⟩, rfl⟩, ?_⟩))
    simp only [Bool.and_eq_true, Bool.not_eq_true', beq_eq_false_iff_ne, ne_eq, Bool.and_eq_false_iff]
    refine ⟨hi, ?_⟩
    by_cases h3 : i + 1 = j
    · right
      intro h4
      obtain ⟨x, rfl⟩ := vv_cat h4
      subst h3
      simp [stOk, hw] at hok
    · left; exact h3
theorem lvh_of2 {h : Nat} {ls' : Array Slot} {nL j : Nat} {lo : List MV} {x : Int} (hok : stOk lo j = true) (e2 : lv_has ls' nL ((j, vv h (vL x)) :: ((lo.zipIdx.filter (fun q => decide (q.1 ≠ vN))).map (fun q => (q.2, vv h q.1))).filter (fun q => !(q.1 == j) && (!(q.1 == j + 1) && !(q.1 + 1 == j && q.2.category == 2))))) : lvh h ls' nL ((lo.set j (vL x)).set (j + 1) vN) := by
  refine ⟨e2.1, e2.2.1, fun i w hw hn => ?_⟩
  by_cases hi1 : i = j + 1
  · subst hi1
    rw [List.getElem?_set_self (by have := (List.getElem?_eq_some_iff.mp hw).1; simpa using this)] at hw
    cases hw
    exact absurd rfl hn
  rw [List.getElem?_set_ne (fun q => hi1 q.symm)] at hw
  by_cases hi : i = j
  · subst hi
    have hw2 : (lo.set i (vL x))[i]? = some (vL x) := by
      rw [List.getElem?_set_self (by have := (List.getElem?_eq_some_iff.mp hw).1; simpa using this)]
    rw [hw2] at hw
    cases hw
    exact e2.2.2 (i, vv h (vL x)) List.mem_cons_self
  · rw [List.getElem?_set_ne (fun q => hi q.symm)] at hw
    refine e2.2.2 (i, vv h w) (List.mem_cons_of_mem _ (List.mem_filter.mpr ⟨List.mem_map.mpr ⟨(w, i), List.mem_filter.mpr ⟨List.mem_zipIdx_iff_getElem?.mpr hw, by simpa using hn⟩, rfl⟩, ?_⟩))
    simp only [Bool.and_eq_true, Bool.not_eq_true', beq_eq_false_iff_ne, ne_eq, Bool.and_eq_false_iff]
    refine ⟨hi, hi1, ?_⟩
    by_cases h3 : i + 1 = j
    · right
      intro h4
      obtain ⟨x, rfl⟩ := vv_cat h4
      subst h3
      simp [stOk, hw] at hok
    · left; exact h3
theorem r_istore_n (hA : Act g l cls cc nL d n0 s0 mc ms ini K) {j : Fin 4} {x : Int} {lo2 : List MV} (hd : decode cc pc = .ok (.istore_n j, 1)) (hj : (j : Nat) < nL) (hok : stOk lo (j : Nat) = true) (hlo2 : lo.set (j : Nat) (vI x) = lo2) (k : K (pc + 1) lo2 st S F D) : K pc lo (vI x :: st) S F D := by
  obtain ⟨p, e, R, s, m, args, below, meth, c, Q, hx, hb, hml, hown, hts, hAm, hfr, hlo, hmc, hms, hin, hn0, rfl⟩ := hA
  intro H locs ls hP hS h1 h2 hl
  subst hlo2
  exact lv_istore_n hx hb hd rfl (lvh_pairs hl) hj rfl (fun ls2 e2 => k H locs ls2 hP hS h1 h2 (lvh_of1 hok e2))
theorem r_istore (hA : Act g l cls cc nL d n0 s0 mc ms ini K) {j : Nat} {x : Int} {lo2 : List MV} (hd : decode cc pc = .ok (.istore j, 2)) (hj : j < nL) (hok : stOk lo j = true) (hlo2 : lo.set j (vI x) = lo2) (k : K (pc + 2) lo2 st S F D) : K pc lo (vI x :: st) S F D := by
  obtain ⟨p, e, R, s, m, args, below, meth, c, Q, hx, hb, hml, hown, hts, hAm, hfr, hlo, hmc, hms, hin, hn0, rfl⟩ := hA
  intro H locs ls hP hS h1 h2 hl
  subst hlo2
  exact lv_istore hx hb hd  (lvh_pairs hl) hj rfl (fun ls2 e2 => k H locs ls2 hP hS h1 h2 (lvh_of1 hok e2))
theorem r_astore_n (hA : Act g l cls cc nL d n0 s0 mc ms ini K) {j : Fin 4} {x : Nat} {lo2 : List MV} (hd : decode cc pc = .ok (.astore_n j, 1)) (hj : (j : Nat) < nL) (hok : stOk lo (j : Nat) = true) (hlo2 : lo.set (j : Nat) (vR x) = lo2) (k : K (pc + 1) lo2 st S F D) : K pc lo (vR x :: st) S F D := by
  obtain ⟨p, e, R, s, m, args, below, meth, c, Q, hx, hb, hml, hown, hts, hAm, hfr, hlo, hmc, hms, hin, hn0, rfl⟩ := hA
  intro H locs ls hP hS h1 h2 hl
  subst hlo2
  exact lv_astore_n hx hb hd rfl (lvh_pairs hl) hj rfl (fun ls2 e2 => k H locs ls2 hP hS h1 h2 (lvh_of1 hok e2))
theorem r_astore (hA : Act g l cls cc nL d n0 s0 mc ms ini K) {j : Nat} {x : Nat} {lo2 : List MV} (hd : decode cc pc = .ok (.astore j, 2)) (hj : j < nL) (hok : stOk lo j = true) (hlo2 : lo.set j (vR x) = lo2) (k : K (pc + 2) lo2 st S F D) : K pc lo (vR x :: st) S F D := by
  obtain ⟨p, e, R, s, m, args, below, meth, c, Q, hx, hb, hml, hown, hts, hAm, hfr, hlo, hmc, hms, hin, hn0, rfl⟩ := hA
  intro H locs ls hP hS h1 h2 hl
  subst hlo2
  exact lv_astore hx hb hd  (lvh_pairs hl) hj rfl (fun ls2 e2 => k H locs ls2 hP hS h1 h2 (lvh_of1 hok e2))
theorem r_lstore_n (hA : Act g l cls cc nL d n0 s0 mc ms ini K) {j : Fin 4} {x : Int} {lo2 : List MV} (hd : decode cc pc = .ok (.lstore_n j, 1)) (hj : (j : Nat) + 1 < nL) (hok : stOk lo (j : Nat) = true) (hlo2 : (lo.set (j : Nat) (vL x)).set ((j : Nat) + 1) vN = lo2) (k : K (pc + 1) lo2 st S F D) : K pc lo (vL x :: st) S F D := by
  obtain ⟨p, e, R, s, m, args, below, meth, c, Q, hx, hb, hml, hown, hts, hAm, hfr, hlo, hmc, hms, hin, hn0, rfl⟩ := hA
  intro H locs ls hP hS h1 h2 hl
  subst hlo2
  exact lv_lstore_n hx hb hd rfl (lvh_pairs hl) hj rfl (fun ls2 e2 => k H locs ls2 hP hS h1 h2 (lvh_of2 hok e2))
theorem r_lstore (hA : Act g l cls cc nL d n0 s0 mc ms ini K) {j : Nat} {x : Int} {lo2 : List MV} (hd : decode cc pc = .ok (.lstore j, 2)) (hj : j + 1 < nL) (hok : stOk lo j = true) (hlo2 : (lo.set j (vL x)).set (j + 1) vN = lo2) (k : K (pc + 2) lo2 st S F D) : K pc lo (vL x :: st) S F D := by
  obtain ⟨p, e, R, s, m, args, below, meth, c, Q, hx, hb, hml, hown, hts, hAm, hfr, hlo, hmc, hms, hin, hn0, rfl⟩ := hA
  intro H locs ls hP hS h1 h2 hl
  subst hlo2
  exact lv_lstore hx hb hd  (lvh_pairs hl) hj rfl (fun ls2 e2 => k H locs ls2 hP hS h1 h2 (lvh_of2 hok e2))
theorem r_iinc (hA : Act g l cls cc nL d n0 s0 mc ms ini K) {j : Nat} {n x : Int} {lo2 : List MV} (hd : decode cc pc = .ok (.iinc j n, 3)) (hl2 : lo[j]? = some (vI x)) (hj : j < nL) (hok : stOk lo j = true) (hlo2 : lo.set j (vI (x + n)) = lo2) (k : K (pc + 3) lo2 st S F D) : K pc lo st S F D := by
  obtain ⟨p, e, R, s, m, args, below, meth, c, Q, hx, hb, hml, hown, hts, hAm, hfr, hlo, hmc, hms, hin, hn0, rfl⟩ := hA
  intro H locs ls hP hS h1 h2 hl
  subst hlo2
  have hm : (j, vv (gH g) (vI x)) ∈ (lo.zipIdx.filter (fun q => decide (q.1 ≠ vN))).map (fun q => (q.2, vv (gH g) q.1)) := List.mem_map.mpr ⟨(vI x, j), List.mem_filter.mpr ⟨List.mem_zipIdx_iff_getElem?.mpr hl2, by simp⟩, rfl⟩
  obtain ⟨i, hi⟩ := List.getElem?_of_mem hm
  exact lv_iinc hx hb hd (lvh_pairs hl) hi (Int32.ofInt_add x n).symm hj rfl (fun ls2 e2 => k H locs ls2 hP hS h1 h2 (lvh_of1 (v := vI (x + n)) hok e2))
theorem clE_obj {g : Gm} {ci n : Nat} (h : ci < 100) (Fj : Nat → Option Nat) (Dj : Int → Int) : clE g (ci, n) Fj Dj = .inr (ci, (List.range n).map (fun k => if isR ci k then rfv (gH g) (Fj k) else .int (Int32.ofInt (Dj k)))) := by
  unfold clE
  rw [if_neg (by show ¬ ci = 100; omega), if_neg (by show ¬ ci = 101; omega), if_neg (by show ¬ ci = 102; omega), if_neg (by show ¬ ci = 103; omega), if_neg (by show ¬ ci = 104; omega)]
theorem fs_get {n k : Nat} {f : Nat → Value} (h : k < n) : ((List.range n).map f)[k]? = some (f k) := by
  rw [List.getElem?_map, List.getElem?_range h]; rfl
theorem r_getI (hA : Act g l cls cc nL d n0 s0 mc ms ini K) {idx ci k n a : Nat} {x : Int} {ty : FieldType} {fin : Bool} (hF : Fl cls idx ci k ty fin) (hd : decode cc pc = .ok (.getfield idx, 3)) (hs : S[a]? = some (ci, n)) (hci : ci < 100 ∧ k < n ∧ isR ci k = false) (hv : D a k = x) (kk : K (pc + 3) lo (vI x :: st) S F D) : K pc lo (vR a :: st) S F D := by
  obtain ⟨p, e, R, s, m, args, below, meth, c, Q, hx, hb, hml, hown, hts, hAm, hfr, hlo, hmc, hms, hin, hn0, rfl⟩ := hA
  intro H locs ls hP hS h1 h2 hl
  subst hv
  obtain ⟨C, T, N, hc, hk, ⟨hw, -, -⟩, -, hlk⟩ := hF
  have hg := wsO_get (g := g) (F := F) (D := D) hs
  rw [clE_obj hci.1] at hg
  rcases hlk with hlk | ⟨host, hlk⟩
  · exact va_get (v := .int (Int32.ofInt (D a k))) hx hb hts hw hown hAm.1 hP a hg hc k hk (hts _ hlk) (fun _ h => h) (by rw [fs_get hci.2.1]; simp [hci.2.2]) hd (kk H locs ls hP hS h1 h2 hl)
  · exact va_getN (v := .int (Int32.ofInt (D a k))) hx hb hts hw hown hAm.1 hP a hg hc k hk (va_Nw.use rfl (hAm.2.2.1 _ hlk)) (fun _ h => h) (by rw [fs_get hci.2.1]; simp [hci.2.2]) hd (kk H locs ls hP hS h1 h2 hl)
theorem r_getR (hA : Act g l cls cc nL d n0 s0 mc ms ini K) {idx ci k n a b : Nat} {ty : FieldType} {fin : Bool} (hF : Fl cls idx ci k ty fin) (hd : decode cc pc = .ok (.getfield idx, 3)) (hs : S[a]? = some (ci, n)) (hci : ci < 100 ∧ k < n ∧ isR ci k = true) (hv : F a k = some b) (kk : K (pc + 3) lo (vR b :: st) S F D) : K pc lo (vR a :: st) S F D := by
  obtain ⟨p, e, R, s, m, args, below, meth, c, Q, hx, hb, hml, hown, hts, hAm, hfr, hlo, hmc, hms, hin, hn0, rfl⟩ := hA
  intro H locs ls hP hS h1 h2 hl
  obtain ⟨C, T, N, hc, hk, ⟨hw, -, -⟩, -, hlk⟩ := hF
  have hg := wsO_get (g := g) (F := F) (D := D) hs
  rw [clE_obj hci.1] at hg
  rcases hlk with hlk | ⟨host, hlk⟩
  · exact va_get (v := .ref (gH g + b)) hx hb hts hw hown hAm.1 hP a hg hc k hk (hts _ hlk) (fun _ h => h) (by rw [fs_get hci.2.1]; simp [hci.2.2, hv, rfv]) hd (kk H locs ls hP hS h1 h2 hl)
  · exact va_getN (v := .ref (gH g + b)) hx hb hts hw hown hAm.1 hP a hg hc k hk (va_Nw.use rfl (hAm.2.2.1 _ hlk)) (fun _ h => h) (by rw [fs_get hci.2.1]; simp [hci.2.2, hv, rfv]) hd (kk H locs ls hP hS h1 h2 hl)
theorem clE_putI {g : Gm} {ci n k : Nat} {x : Int} {Fj : Nat → Option Nat} {D : Dat} {a : Nat} (hci : ci < 100 ∧ k < n ∧ isR ci k = false) : (Sum.inr (ci, ((List.range n).map (fun k => if isR ci k then rfv (gH g) (Fj k) else .int (Int32.ofInt (D a k)))).set k (.int (Int32.ofInt x))) : va_E) = clE g (ci, n) Fj (upD D a k x a) := by
  rw [clE_obj hci.1]
  congr 2
  apply List.ext_getElem?
  intro j
  by_cases hj : j = k
  · subst hj
    rw [List.getElem?_set_self (by simpa using hci.2.1), fs_get hci.2.1]
    simp [hci.2.2, upD]
  · rw [List.getElem?_set_ne (fun h => hj h.symm)]
    by_cases hn : j < n
    · rw [fs_get hn, fs_get hn]
      simp only [upD, if_true]
      rw [if_neg (show ¬ (j : Int) = (k : Int) by omega)]
    · rw [List.getElem?_eq_none (by simpa using hn), List.getElem?_eq_none (by simpa using hn)]
theorem clE_putR {g : Gm} {ci n k b : Nat} {F : Rfs} {Dj : Int → Int} {a : Nat} (hci : ci < 100 ∧ k < n ∧ isR ci k = true) : (Sum.inr (ci, ((List.range n).map (fun k => if isR ci k then rfv (gH g) (F a k) else .int (Int32.ofInt (Dj k)))).set k (.ref (gH g + b))) : va_E) = clE g (ci, n) (upF F a k (some b) a) Dj := by
  rw [clE_obj hci.1]
  congr 2
  apply List.ext_getElem?
  intro j
  by_cases hj : j = k
  · subst hj
    rw [List.getElem?_set_self (by simpa using hci.2.1), fs_get hci.2.1]
    simp [hci.2.2, upF, rfv]
  · rw [List.getElem?_set_ne (fun h => hj h.symm)]
    by_cases hn : j < n
    · rw [fs_get hn, fs_get hn]
      simp only [upF, if_true]
      rw [if_neg hj]
    · rw [List.getElem?_eq_none (by simpa using hn), List.getElem?_eq_none (by simpa using hn)]
theorem r_putI (hA : Act g l cls cc nL d n0 s0 mc ms ini K) {idx ci k n a : Nat} {x : Int} (hF : Fl cls idx ci k .int false) (hd : decode cc pc = .ok (.putfield idx, 3)) (hs : S[a]? = some (ci, n)) (hci : ci < 100 ∧ k < n ∧ isR ci k = false) (kk : K (pc + 3) lo st S F (upD D a k x)) : K pc lo (vI x :: vR a :: st) S F D := by
  obtain ⟨p, e, R, s, m, args, below, meth, c, Q, hx, hb, hml, hown, hts, hAm, hfr, hlo, hmc, hms, hin, hn0, rfl⟩ := hA
  intro H locs ls hP hS h1 h2 hl
  obtain ⟨C, T, N, hc, hk, ⟨hw, ⟨ty0, hty⟩, hnm⟩, ⟨hpd, hfin⟩, hlk⟩ := hF
  have hg := wsO_get (g := g) (F := F) (D := D) hs
  rw [clE_obj hci.1] at hg
  have kk2 : ∀ (H1 : Heap) (locs1 : List Loc), va_P (gD g) vwCl ((wsO g S F D).set a (gH g + a, .inr (ci, ((List.range n).map (fun k => if isR ci k then rfv (gH g) (F a k) else .int (Int32.ofInt (D a k)))).set k (.int (Int32.ofInt x))))) H1 → va_D (gFr g) ((wsO g S F D).set a (gH g + a, .inr (ci, ((List.range n).map (fun k => if isR ci k then rfv (gH g) (F a k) else .int (Int32.ofInt (D a k)))).set k (.int (Int32.ofInt x))))) → va_S (gFr g) s.heap H1 locs1 → W p l e R s m args below meth c H1 locs1 (S.length - n0) (szS S - s0) Q (F0 m (pc + 3) ls (st.map (vv (gH g)))) := by
    intro H1 locs1 hP1 _ hS1
    rw [wsO_ext (F' := F) (D' := upD D a k x) hs (clE_putI hci) (fun _ _ => rfl) (fun b hb => upD_other hb)] at hP1
    exact kk H1 locs1 ls hP1 hS1 h1 h2 hl
  rcases hlk with hlk | ⟨host, hlk⟩
  · exact va_put (v := .int (Int32.ofInt x)) hx hb hts hw ty0 hty hnm hown hAm.1 hP (wsO_D g S F D) hS a hg hc k hk (hts _ hlk) (fun _ h => h) hfin hpd rfl rfl (by simpa using hci.2.1) hd kk2
  · exact va_putN (v := .int (Int32.ofInt x)) hx hb hts hw ty0 hty hnm hown hAm.1 hP (wsO_D g S F D) hS a hg hc k hk (va_Nw.use rfl (hAm.2.2.1 _ hlk)) (fun _ h => h) hfin hpd rfl rfl (by simpa using hci.2.1) hd kk2
/-- a final field that is a reference, in a constructor -/
theorem r_putR (hA : Act g l cls cc nL d n0 s0 mc ms ini K) {idx ci k n a b : Nat} {ty : FieldType} (hini : ini) (hF : Fl cls idx ci k ty true) (hty2 : ∀ z : Nat, narrow ty (.ref z) = .ref z ∧ fits ty (.ref z) = true) (hown2 : ∀ (C : String) (T : u_T) (N : Nat), vwCl[ci]? = some (C, T, N) → Cond.fieldLink cls idx (T k).1 (T k).2.1 (T k).2.2.1 ∈ Wd ∧ (T k).1 = cls) (hd : decode cc pc = .ok (.putfield idx, 3)) (hs : S[a]? = some (ci, n)) (hci : ci < 100 ∧ k < n ∧ isR ci k = true) (kk : K (pc + 3) lo st S (upF F a k (some b)) D) : K pc lo (vR b :: vR a :: st) S F D := by
  obtain ⟨p, e, R, s, m, args, below, meth, c, Q, hx, hb, hml, hown, hts, hAm, hfr, hlo, hmc, hms, hin, hn0, rfl⟩ := hA
  intro H locs ls hP hS h1 h2 hl
  obtain ⟨C, T, N, hc, hk, ⟨hw, ⟨ty0, hty⟩, hnm⟩, ⟨hpd, hfin⟩, -⟩ := hF
  have hg := wsO_get (g := g) (F := F) (D := D) hs
  rw [clE_obj hci.1] at hg
  refine va_putF (v := .ref (gH g + b)) hx hb hts hw ty0 hty hnm hown hAm.1 hP (wsO_D g S F D) hS a hg hc k hk (hts _ (hown2 C T N hc).1) (fun _ h => h) hfin (hin hini) (hown2 C T N hc).2 hpd (hty2 _).1 (hty2 _).2 (by simpa using hci.2.1) hd (fun H1 locs1 hP1 _ hS1 => ?_)
  rw [wsO_ext (F' := upF F a k (some b)) (D' := D) hs (clE_putR hci) (fun b hb => upF_other hb) (fun _ _ => rfl)] at hP1
  exact kk H1 locs1 ls hP1 hS1 h1 h2 hl
/-- a whole number as a place of a row -/
theorem vin {i : Int} {n : Nat} (h : 0 ≤ i ∧ i < n) (hn : n < 2147483648) : vp_in (Int32.ofInt i) n ∧ (Int32.ofInt i).toNatClampNeg = i.toNat := by
  have e := n32_in (a := i) (by omega)
  have e2 : (Int32.ofInt i).toNatClampNeg = i.toNat := by
    rw [Int32.toNatClampNeg, e]
  exact ⟨vp_in_iff.mpr (by rw [e]; omega), e2⟩
theorem clE_i {g : Gm} {n : Nat} (Fj : Nat → Option Nat) (Dj : Int → Int) : clE g (100, n) Fj Dj = .inl (gC g 0, n, .inl (fun i => Int32.ofInt (Dj i))) := rfl
theorem clE_l {g : Gm} {n : Nat} (Fj : Nat → Option Nat) (Dj : Int → Int) : clE g (101, n) Fj Dj = .inl (gC g 1, n, .inr (.inl (fun i => Int64.ofInt (Dj i)))) := rfl
theorem clE_z {g : Gm} {n : Nat} (Fj : Nat → Option Nat) (Dj : Int → Int) : clE g (102, n) Fj Dj = .inl (gC g 2, n, .inl (fun i => Int32.ofInt (Dj i))) := rfl
theorem upD_i {D : Dat} {a : Nat} {i x : Int} (hi : 0 ≤ i) : (fun j : Nat => Int32.ofInt (upD D a i x a j)) = upd (fun j : Nat => Int32.ofInt (D a j)) i.toNat (Int32.ofInt x) := by
  funext j
  unfold upD upd
  by_cases h : j = i.toNat
  · rw [if_pos rfl, if_pos (by omega), if_pos h]
  · rw [if_pos rfl, if_neg (by omega), if_neg h]
theorem upD_l {D : Dat} {a : Nat} {i x : Int} (hi : 0 ≤ i) : (fun j : Nat => Int64.ofInt (upD D a i x a j)) = vp_updL (fun j : Nat => Int64.ofInt (D a j)) i.toNat (Int64.ofInt x) := by
  funext j
  unfold upD vp_updL
  by_cases h : j = i.toNat
  · rw [if_pos rfl, if_pos (by omega), if_pos h]
  · rw [if_pos rfl, if_neg (by omega), if_neg h]
theorem r_iald (hA : Act g l cls cc nL d n0 s0 mc ms ini K) {n a : Nat} {i x : Int} (hd : decode cc pc = .ok (.iaload, 1)) (hs : S[a]? = some (100, n)) (hi : 0 ≤ i ∧ i < n) (hn : n < 2147483648) (hv : D a i = x) (kk : K (pc + 1) lo (vI x :: st) S F D) : K pc lo (vI i :: vR a :: st) S F D := by
  obtain ⟨p, e, R, s, m, args, below, meth, c, Q, hx, hb, hml, hown, hts, hAm, hfr, hlo, hmc, hms, hin, hn0, rfl⟩ := hA
  intro H locs ls hP hS h1 h2 hl
  subst hv
  have hg := wsO_get (g := g) (F := F) (D := D) hs
  rw [clE_i] at hg
  have hj := vin hi hn
  refine va_iald hx hb hAm.1 hP a 0 hg rfl hj.1 hd ?_
  rw [hj.2, Int.toNat_of_nonneg hi.1]
  exact kk H locs ls hP hS h1 h2 hl
theorem r_lald (hA : Act g l cls cc nL d n0 s0 mc ms ini K) {n a : Nat} {i x : Int} (hd : decode cc pc = .ok (.laload, 1)) (hs : S[a]? = some (101, n)) (hi : 0 ≤ i ∧ i < n) (hn : n < 2147483648) (hv : D a i = x) (kk : K (pc + 1) lo (vL x :: st) S F D) : K pc lo (vI i :: vR a :: st) S F D := by
  obtain ⟨p, e, R, s, m, args, below, meth, c, Q, hx, hb, hml, hown, hts, hAm, hfr, hlo, hmc, hms, hin, hn0, rfl⟩ := hA
  intro H locs ls hP hS h1 h2 hl
  subst hv
  have hg := wsO_get (g := g) (F := F) (D := D) hs
  rw [clE_l] at hg
  have hj := vin hi hn
  refine va_lald hx hb hAm.1 hP a 1 hg rfl hj.1 hd ?_
  rw [hj.2, Int.toNat_of_nonneg hi.1]
  exact kk H locs ls hP hS h1 h2 hl
theorem r_zald (hA : Act g l cls cc nL d n0 s0 mc ms ini K) {n a : Nat} {i x : Int} (hd : decode cc pc = .ok (.baload, 1)) (hs : S[a]? = some (102, n)) (hi : 0 ≤ i ∧ i < n) (hn : n < 2147483648) (hv : D a i = x) (kk : K (pc + 1) lo (vI x :: st) S F D) : K pc lo (vI i :: vR a :: st) S F D := by
  obtain ⟨p, e, R, s, m, args, below, meth, c, Q, hx, hb, hml, hown, hts, hAm, hfr, hlo, hmc, hms, hin, hn0, rfl⟩ := hA
  intro H locs ls hP hS h1 h2 hl
  subst hv
  have hg := wsO_get (g := g) (F := F) (D := D) hs
  rw [clE_z] at hg
  have hj := vin hi hn
  refine va_zald hx hb hAm.1 hP a 2 hg rfl hj.1 hd ?_
  rw [hj.2, Int.toNat_of_nonneg hi.1]
  exact kk H locs ls hP hS h1 h2 hl
theorem r_iast (hA : Act g l cls cc nL d n0 s0 mc ms ini K) {n a : Nat} {i x : Int} (hd : decode cc pc = .ok (.iastore, 1)) (hs : S[a]? = some (100, n)) (hi : 0 ≤ i ∧ i < n) (hn : n < 2147483648) (kk : K (pc + 1) lo st S F (upD D a i x)) : K pc lo (vI x :: vI i :: vR a :: st) S F D := by
  obtain ⟨p, e, R, s, m, args, below, meth, c, Q, hx, hb, hml, hown, hts, hAm, hfr, hlo, hmc, hms, hin, hn0, rfl⟩ := hA
  intro H locs ls hP hS h1 h2 hl
  have hg := wsO_get (g := g) (F := F) (D := D) hs
  rw [clE_i] at hg
  have hj := vin hi hn
  refine va_iast hx hb hAm.1 hP (wsO_D g S F D) hS a 0 hg rfl hj.1 hd (fun H1 locs1 hP1 _ hS1 => ?_)
  rw [wsO_ext (F' := F) (D' := upD D a i x) hs (by rw [clE_i, upD_i hi.1, hj.2]) (fun _ _ => rfl) (fun b hb => upD_other hb)] at hP1
  exact kk H1 locs1 ls hP1 hS1 h1 h2 hl
theorem r_last (hA : Act g l cls cc nL d n0 s0 mc ms ini K) {n a : Nat} {i x : Int} (hd : decode cc pc = .ok (.lastore, 1)) (hs : S[a]? = some (101, n)) (hi : 0 ≤ i ∧ i < n) (hn : n < 2147483648) (kk : K (pc + 1) lo st S F (upD D a i x)) : K pc lo (vL x :: vI i :: vR a :: st) S F D := by
  obtain ⟨p, e, R, s, m, args, below, meth, c, Q, hx, hb, hml, hown, hts, hAm, hfr, hlo, hmc, hms, hin, hn0, rfl⟩ := hA
  intro H locs ls hP hS h1 h2 hl
  have hg := wsO_get (g := g) (F := F) (D := D) hs
  rw [clE_l] at hg
  have hj := vin hi hn
  refine va_last hx hb hAm.1 hP (wsO_D g S F D) hS a 1 hg rfl hj.1 hd (fun H1 locs1 hP1 _ hS1 => ?_)
  rw [wsO_ext (F' := F) (D' := upD D a i x) hs (by rw [clE_l, upD_l hi.1, hj.2]) (fun _ _ => rfl) (fun b hb => upD_other hb)] at hP1
  exact kk H1 locs1 ls hP1 hS1 h1 h2 hl
theorem r_zast (hA : Act g l cls cc nL d n0 s0 mc ms ini K) {n a : Nat} {i x : Int} (hd : decode cc pc = .ok (.bastore, 1)) (hs : S[a]? = some (102, n)) (hi : 0 ≤ i ∧ i < n) (hn : n < 2147483648) (h01 : x = 0 ∨ x = 1) (kk : K (pc + 1) lo st S F (upD D a i x)) : K pc lo (vI x :: vI i :: vR a :: st) S F D := by
  obtain ⟨p, e, R, s, m, args, below, meth, c, Q, hx, hb, hml, hown, hts, hAm, hfr, hlo, hmc, hms, hin, hn0, rfl⟩ := hA
  intro H locs ls hP hS h1 h2 hl
  have hg := wsO_get (g := g) (F := F) (D := D) hs
  rw [clE_z] at hg
  have hj := vin hi hn
  have hna : vp_nar .boolean (Int32.ofInt x) = Int32.ofInt x := by rcases h01 with rfl | rfl <;> decide +kernel
  refine va_zast hx hb hAm.1 hP (wsO_D g S F D) hS a 2 hg rfl hj.1 hd (fun H1 locs1 hP1 _ hS1 => ?_)
  rw [wsO_ext (F' := F) (D' := upD D a i x) hs (by rw [clE_z, upD_i hi.1, hj.2, hna]) (fun _ _ => rfl) (fun b hb => upD_other hb)] at hP1
  exact kk H1 locs1 ls hP1 hS1 h1 h2 hl
theorem r_aald (hA : Act g l cls cc nL d n0 s0 mc ms ini K) {n a b : Nat} {i : Int} {kd : Nat} (hkd : kd = 103 ∨ kd = 104) (hd : decode cc pc = .ok (.aaload, 1)) (hs : S[a]? = some (kd, n)) (hi : 0 ≤ i ∧ i < n) (hn : n < 2147483648) (hv : F a i.toNat = some b) (kk : K (pc + 1) lo (vR b :: st) S F D) : K pc lo (vI i :: vR a :: st) S F D := by
  obtain ⟨p, e, R, s, m, args, below, meth, c, Q, hx, hb, hml, hown, hts, hAm, hfr, hlo, hmc, hms, hin, hn0, rfl⟩ := hA
  intro H locs ls hP hS h1 h2 hl
  have hg := wsO_get (g := g) (F := F) (D := D) hs
  have hj := vin hi hn
  rcases hkd with rfl | rfl
  · refine va_aldq hx hb hAm.1 hP a 3 hg rfl hj.1 hd ?_
    rw [hj.2, hv]
    exact kk H locs ls hP hS h1 h2 hl
  · refine va_aldq hx hb hAm.1 hP a 4 hg rfl hj.1 hd ?_
    rw [hj.2, hv]
    exact kk H locs ls hP hS h1 h2 hl
theorem r_alen (hA : Act g l cls cc nL d n0 s0 mc ms ini K) {n a kd : Nat} (hkd : kd = 100 ∨ kd = 101 ∨ kd = 103) (hd : decode cc pc = .ok (.arraylength, 1)) (hs : S[a]? = some (kd, n)) (kk : K (pc + 1) lo (vI n :: st) S F D) : K pc lo (vR a :: st) S F D := by
  obtain ⟨p, e, R, s, m, args, below, meth, c, Q, hx, hb, hml, hown, hts, hAm, hfr, hlo, hmc, hms, hin, hn0, rfl⟩ := hA
  intro H locs ls hP hS h1 h2 hl
  have hg := wsO_get (g := g) (F := F) (D := D) hs
  have k2 := kk H locs ls hP hS h1 h2 hl
  rcases hkd with rfl | rfl | rfl
  · exact va_alen hx hb hAm.1 hP a 0 hg rfl Int32.ofInt_eq_ofNat.symm hd k2
  · exact va_alen hx hb hAm.1 hP a 1 hg rfl Int32.ofInt_eq_ofNat.symm hd k2
  · exact va_alen hx hb hAm.1 hP a 3 hg rfl Int32.ofInt_eq_ofNat.symm hd k2
/-- the read-only rows: three static ones, the script -/
theorem r_gets (hA : Act g l cls cc nL d n0 s0 mc ms ini K) {idx k a : Nat} (hk : k < 3) (hl0 : Cond.fieldLink cls idx RX3 (stN k) "[I" ∈ Wd) (ha : gA g k = a) (hd : decode cc pc = .ok (.getstatic idx, 3)) (kk : K (pc + 3) lo (vZ a :: st) S F D) : K pc lo st S F D := by
  obtain ⟨p, e, R, s, m, args, below, meth, c, Q, hx, hb, hml, hown, hts, hAm, hfr, hlo, hmc, hms, hin, hn0, rfl⟩ := hA
  intro H locs ls hP hS h1 h2 hl
  subst ha
  exact va_gets hx hb (hAm.2.2.2.1 k hk).1 hS hown (hts _ hl0) (fun _ h => h) hd (kk H locs ls hP hS h1 h2 hl)
theorem r_ialdS (hA : Act g l cls cc nL d n0 s0 mc ms ini K) {k a : Nat} {i x : Int} (hk : k < 3) (ha : gA g k = a) (hd : decode cc pc = .ok (.iaload, 1)) (hi : 0 ≤ i ∧ i < 6) (hv : stV k i.toNat = x) (kk : K (pc + 1) lo (vI x :: st) S F D) : K pc lo (vI i :: vZ a :: st) S F D := by
  obtain ⟨p, e, R, s, m, args, below, meth, c, Q, hx, hb, hml, hown, hts, hAm, hfr, hlo, hmc, hms, hin, hn0, rfl⟩ := hA
  intro H locs ls hP hS h1 h2 hl
  subst ha; subst hv
  have hj := vin (i := i) (n := 6) (by omega) (by omega)
  exact va_ti (v := .int (Int32.ofInt (stV k i.toNat))) hx hb (hAm.2.2.2.1 k hk).2 hS hj.1 (by show Value.int _ = _; rw [hj.2]) hd (kk H locs ls hP hS h1 h2 hl)
theorem r_alenS (hA : Act g l cls cc nL d n0 s0 mc ms ini K) {k a : Nat} (hk : k < 3) (ha : gA g k = a) (hd : decode cc pc = .ok (.arraylength, 1)) (kk : K (pc + 1) lo (vI 6 :: st) S F D) : K pc lo (vZ a :: st) S F D := by
  obtain ⟨p, e, R, s, m, args, below, meth, c, Q, hx, hb, hml, hown, hts, hAm, hfr, hlo, hmc, hms, hin, hn0, rfl⟩ := hA
  intro H locs ls hP hS h1 h2 hl
  subst ha
  exact va_tlen hx hb (hAm.2.2.2.1 k hk).2 hS rfl hd (kk H locs ls hP hS h1 h2 hl)
theorem r_ialdX (hA : Act g l cls cc nL d n0 s0 mc ms ini K) {a : Nat} {i x : Int} (ha : (gX g).1 = a) (hd : decode cc pc = .ok (.iaload, 1)) (hi : 0 ≤ i ∧ i < ((gX g).2.1 : Nat)) (hn : (gX g).2.1 < 2147483648) (hv : (gX g).2.2 i.toNat = x) (kk : K (pc + 1) lo (vI x :: st) S F D) : K pc lo (vI i :: vZ a :: st) S F D := by
  obtain ⟨p, e, R, s, m, args, below, meth, c, Q, hx, hb, hml, hown, hts, hAm, hfr, hlo, hmc, hms, hin, hn0, rfl⟩ := hA
  intro H locs ls hP hS h1 h2 hl
  subst ha; subst hv
  have hj := vin hi hn
  exact va_ti (v := .int (Int32.ofInt ((gX g).2.2 i.toNat))) hx hb hAm.2.2.2.2.1 hS hj.1 (by show Value.int _ = _; rw [hj.2]) hd (kk H locs ls hP hS h1 h2 hl)
theorem r_alenX (hA : Act g l cls cc nL d n0 s0 mc ms ini K) {a : Nat} (ha : (gX g).1 = a) (hd : decode cc pc = .ok (.arraylength, 1)) (kk : K (pc + 1) lo (vI ((gX g).2.1 : Nat) :: st) S F D) : K pc lo (vZ a :: st) S F D := by
  obtain ⟨p, e, R, s, m, args, below, meth, c, Q, hx, hb, hml, hown, hts, hAm, hfr, hlo, hmc, hms, hin, hn0, rfl⟩ := hA
  intro H locs ls hP hS h1 h2 hl
  subst ha
  exact va_tlen hx hb hAm.2.2.2.2.1 hS Int32.ofInt_eq_ofNat.symm hd (kk H locs ls hP hS h1 h2 hl)
theorem r_ldc (hA : Act g l cls cc nL d n0 s0 mc ms ini K) {idx : Nat} {v : Int} (hc : Cond.constant cls idx (Int32.ofInt v) ∈ Wd) (hd : decode cc pc = .ok (.ldc idx, 2)) (kk : K (pc + 2) lo (vI v :: st) S F D) : K pc lo st S F D := by
  obtain ⟨p, e, R, s, m, args, below, meth, c, Q, hx, hb, hml, hown, hts, hAm, hfr, hlo, hmc, hms, hin, hn0, rfl⟩ := hA
  intro H locs ls hP hS h1 h2 hl
  exact lv_ldc hx hb hown (hts _ hc) hd (kk H locs ls hP hS h1 h2 hl)
theorem r_ldcw (hA : Act g l cls cc nL d n0 s0 mc ms ini K) {idx : Nat} {v : Int} (hc : Cond.constant cls idx (Int32.ofInt v) ∈ Wd) (hd : decode cc pc = .ok (.ldc_w idx, 3)) (kk : K (pc + 3) lo (vI v :: st) S F D) : K pc lo st S F D := by
  obtain ⟨p, e, R, s, m, args, below, meth, c, Q, hx, hb, hml, hown, hts, hAm, hfr, hlo, hmc, hms, hin, hn0, rfl⟩ := hA
  intro H locs ls hP hS h1 h2 hl
  exact lv_ldcw hx hb hown (hts _ hc) hd (kk H locs ls hP hS h1 h2 hl)
theorem r_ldc2 (hA : Act g l cls cc nL d n0 s0 mc ms ini K) {idx : Nat} {v : Int} (hc : Cond.constantLong cls idx (Int64.ofInt v) ∈ Wd) (hd : decode cc pc = .ok (.ldc2_w idx, 3)) (kk : K (pc + 3) lo (vL v :: st) S F D) : K pc lo st S F D := by
  obtain ⟨p, e, R, s, m, args, below, meth, c, Q, hx, hb, hml, hown, hts, hAm, hfr, hlo, hmc, hms, hin, hn0, rfl⟩ := hA
  intro H locs ls hP hS h1 h2 hl
  exact lv_ldc2 hx hb hown (hts _ hc) hd (kk H locs ls hP hS h1 h2 hl)
theorem r_tblIn (hA : Act g l cls cc nL d n0 s0 mc ms ini K) {dflt lw hi : Int} {offs : Array Int} {len tgt : Nat} {off x : Int} (hx0 : -2147483648 ≤ x ∧ x ≤ 2147483647) (hd : decode cc pc = .ok (.tableswitch dflt lw hi offs, len)) (h : lw ≤ x ∧ x ≤ hi) (ho : offs[(x - lw).toNat]? = some off) (ht : (pc : Int) + off = (tgt : Int)) (kk : K tgt lo st S F D) : K pc lo (vI x :: st) S F D := by
  obtain ⟨p, e, R, s, m, args, below, meth, c, Q, hx, hb, hml, hown, hts, hAm, hfr, hlo, hmc, hms, hin, hn0, rfl⟩ := hA
  intro H locs ls hP hS h1 h2 hl
  exact lv_tableIn (x := Int32.ofInt x) hx hb hd (by rw [n32_in hx0]; omega) (by rw [n32_in hx0]; omega) (by rw [n32_in hx0]; exact ho) ht (kk H locs ls hP hS h1 h2 hl)
theorem r_tblOut (hA : Act g l cls cc nL d n0 s0 mc ms ini K) {dflt lw hi : Int} {offs : Array Int} {len tgt : Nat} {x : Int} (hx0 : -2147483648 ≤ x ∧ x ≤ 2147483647) (hd : decode cc pc = .ok (.tableswitch dflt lw hi offs, len)) (h : x < lw ∨ hi < x) (ht : (pc : Int) + dflt = (tgt : Int)) (kk : K tgt lo st S F D) : K pc lo (vI x :: st) S F D := by
  obtain ⟨p, e, R, s, m, args, below, meth, c, Q, hx, hb, hml, hown, hts, hAm, hfr, hlo, hmc, hms, hin, hn0, rfl⟩ := hA
  intro H locs ls hP hS h1 h2 hl
  exact lv_tableOut (x := Int32.ofInt x) hx hb hd (by rw [n32_in hx0]; omega) ht (kk H locs ls hP hS h1 h2 hl)
theorem r_look (hA : Act g l cls cc nL d n0 s0 mc ms ini K) {dflt off x : Int} {ps : Array (Int × Int)} {len tgt : Nat} (hx0 : -2147483648 ≤ x ∧ x ≤ 2147483647) (hd : decode cc pc = .ok (.lookupswitch dflt ps, len)) (hp : (ps.toList.zip (ps.toList.drop 1)).all (fun (a, next) => a.1 < next.1) = true) (ho : Op.lookupswitch.offset ps.toList dflt x = off) (ht : (pc : Int) + off = (tgt : Int)) (kk : K tgt lo st S F D) : K pc lo (vI x :: st) S F D := by
  obtain ⟨p, e, R, s, m, args, below, meth, c, Q, hx, hb, hml, hown, hts, hAm, hfr, hlo, hmc, hms, hin, hn0, rfl⟩ := hA
  intro H locs ls hP hS h1 h2 hl
  exact lv_lookup (x := Int32.ofInt x) hx hb hd hp (by rw [n32_in hx0]; exact ho) ht (kk H locs ls hP hS h1 h2 hl)

end MRows
