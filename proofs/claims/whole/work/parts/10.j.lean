/-! the layout of the cells, once all are made; rows over it -/
def Sx : Shp := [(8, 9), (7, 2), (100, 80), (4, 2), (6, 10), (100, 8), (100, 8), (100, 8), (100, 8), (100, 8), (100, 8), (6, 10), (100, 8), (100, 8), (100, 8), (100, 8), (100, 8), (100, 8), (2, 3), (103, 24), (6, 10), (100, 8), (100, 8), (100, 8), (100, 8), (100, 8), (100, 8), (6, 10), (100, 8), (100, 8), (100, 8), (100, 8), (100, 8), (100, 8), (6, 10), (100, 8), (100, 8), (100, 8), (100, 8), (100, 8), (100, 8), (6, 10), (100, 8), (100, 8), (100, 8), (100, 8), (100, 8), (100, 8), (6, 10), (100, 8), (100, 8), (100, 8), (100, 8), (100, 8), (100, 8), (6, 10), (100, 8), (100, 8), (100, 8), (100, 8), (100, 8), (100, 8), (6, 10), (100, 8), (100, 8), (100, 8), (100, 8), (100, 8), (100, 8), (6, 10), (100, 8), (100, 8), (100, 8), (100, 8), (100, 8), (100, 8), (6, 10), (100, 8), (100, 8), (100, 8), (100, 8), (100, 8), (100, 8), (6, 10), (100, 8), (100, 8), (100, 8), (100, 8), (100, 8), (100, 8), (6, 10), (100, 8), (100, 8), (100, 8), (100, 8), (100, 8), (100, 8), (6, 10), (100, 8), (100, 8), (100, 8), (100, 8), (100, 8), (100, 8), (6, 10), (100, 8), (100, 8), (100, 8), (100, 8), (100, 8), (100, 8), (6, 10), (100, 8), (100, 8), (100, 8), (100, 8), (100, 8), (100, 8), (6, 10), (100, 8), (100, 8), (100, 8), (100, 8), (100, 8), (100, 8), (6, 10), (100, 8), (100, 8), (100, 8), (100, 8), (100, 8), (100, 8), (6, 10), (100, 8), (100, 8), (100, 8), (100, 8), (100, 8), (100, 8), (6, 10), (100, 8), (100, 8), (100, 8), (100, 8), (100, 8), (100, 8), (6, 10), (100, 8), (100, 8), (100, 8), (100, 8), (100, 8), (100, 8), (6, 10), (100, 8), (100, 8), (100, 8), (100, 8), (100, 8), (100, 8), (6, 10), (100, 8), (100, 8), (100, 8), (100, 8), (100, 8), (100, 8), (6, 10), (100, 8), (100, 8), (100, 8), (100, 8), (100, 8), (100, 8), (6, 10), (100, 8), (100, 8), (100, 8), (100, 8), (100, 8), (100, 8), (6, 10), (100, 8), (100, 8), (100, 8), (100, 8), (100, 8), (100, 8), (103, 2), (104, 4), (3, 6), (100, 192), (100, 64), (100, 128), (100, 3328), (100, 512), (1, 1), (103, 7), (6, 10), (100, 8), (100, 8), (100, 8), (100, 8), (100, 8), (100, 8), (6, 10), (100, 8), (100, 8), (100, 8), (100, 8), (100, 8), (100, 8), (6, 10), (100, 8), (100, 8), (100, 8), (100, 8), (100, 8), (100, 8), (6, 10), (100, 8), (100, 8), (100, 8), (100, 8), (100, 8), (100, 8), (6, 10), (100, 8), (100, 8), (100, 8), (100, 8), (100, 8), (100, 8), (6, 10), (100, 8), (100, 8), (100, 8), (100, 8), (100, 8), (100, 8), (6, 10), (100, 8), (100, 8), (100, 8), (100, 8), (100, 8), (100, 8), (0, 14), (6, 10), (100, 8), (100, 8), (100, 8), (100, 8), (100, 8), (100, 8), (100, 20), (100, 20), (100, 20), (100, 8), (100, 8), (100, 18), (6, 10), (100, 8), (100, 8), (100, 8), (100, 8), (100, 8), (100, 8), (6, 10), (100, 8), (100, 8), (100, 8), (100, 8), (100, 8), (100, 8), (5, 3), (101, 24), (5, 3), (101, 24), (5, 3), (101, 24), (5, 3), (101, 24), (9, 26), (100, 52), (100, 80), (100, 52), (100, 1248), (100, 104), (100, 52), (100, 16384), (102, 16384), (100, 64), (100, 128), (100, 729), (100, 4), (100, 4), (101, 96), (101, 24), (100, 1056), (100, 20), (100, 20), (100, 5), (100, 8), (100, 9)]
def FxT : List (List (Option Nat)) := [[some 1, some 3, some 11, some 18, some 188, some 189, some 190, some 196, some 247], [some 2], [], [some 4], [some 5, some 6, some 7, some 8, some 9, some 10], [], [], [], [], [], [], [some 12, some 13, some 14, some 15, some 16, some 17], [], [], [], [], [], [], [some 19], [some 20, some 27, some 34, some 41, some 48, some 55, some 62, some 69, some 76, some 83, some 90, some 97, some 104, some 111, some 118, some 125, some 132, some 139, some 146, some 153, some 160, some 167, some 174, some 181], [some 21, some 22, some 23, some 24, some 25, some 26], [], [], [], [], [], [], [some 28, some 29, some 30, some 31, some 32, some 33], [], [], [], [], [], [], [some 35, some 36, some 37, some 38, some 39, some 40], [], [], [], [], [], [], [some 42, some 43, some 44, some 45, some 46, some 47], [], [], [], [], [], [], [some 49, some 50, some 51, some 52, some 53, some 54], [], [], [], [], [], [], [some 56, some 57, some 58, some 59, some 60, some 61], [], [], [], [], [], [], [some 63, some 64, some 65, some 66, some 67, some 68], [], [], [], [], [], [], [some 70, some 71, some 72, some 73, some 74, some 75], [], [], [], [], [], [], [some 77, some 78, some 79, some 80, some 81, some 82], [], [], [], [], [], [], [some 84, some 85, some 86, some 87, some 88, some 89], [], [], [], [], [], [], [some 91, some 92, some 93, some 94, some 95, some 96], [], [], [], [], [], [], [some 98, some 99, some 100, some 101, some 102, some 103], [], [], [], [], [], [], [some 105, some 106, some 107, some 108, some 109, some 110], [], [], [], [], [], [], [some 112, some 113, some 114, some 115, some 116, some 117], [], [], [], [], [], [], [some 119, some 120, some 121, some 122, some 123, some 124], [], [], [], [], [], [], [some 126, some 127, some 128, some 129, some 130, some 131], [], [], [], [], [], [], [some 133, some 134, some 135, some 136, some 137, some 138], [], [], [], [], [], [], [some 140, some 141, some 142, some 143, some 144, some 145], [], [], [], [], [], [], [some 147, some 148, some 149, some 150, some 151, some 152], [], [], [], [], [], [], [some 154, some 155, some 156, some 157, some 158, some 159], [], [], [], [], [], [], [some 161, some 162, some 163, some 164, some 165, some 166], [], [], [], [], [], [], [some 168, some 169, some 170, some 171, some 172, some 173], [], [], [], [], [], [], [some 175, some 176, some 177, some 178, some 179, some 180], [], [], [], [], [], [], [some 182, some 183, some 184, some 185, some 186, some 187], [], [], [], [], [], [], [some 261, some 268], [some 275, some 277, some 279, some 281], [some 191, some 192, some 193, some 194, some 195], [], [], [], [], [], [some 197], [some 198, some 205, some 212, some 219, some 226, some 233, some 240], [some 199, some 200, some 201, some 202, some 203, some 204], [], [], [], [], [], [], [some 206, some 207, some 208, some 209, some 210, some 211], [], [], [], [], [], [], [some 213, some 214, some 215, some 216, some 217, some 218], [], [], [], [], [], [], [some 220, some 221, some 222, some 223, some 224, some 225], [], [], [], [], [], [], [some 227, some 228, some 229, some 230, some 231, some 232], [], [], [], [], [], [], [some 234, some 235, some 236, some 237, some 238, some 239], [], [], [], [], [], [], [some 241, some 242, some 243, some 244, some 245, some 246], [], [], [], [], [], [], [some 248, some 255, some 256, some 257, some 258, some 259, some 260], [some 249, some 250, some 251, some 252, some 253, some 254], [], [], [], [], [], [], [], [], [], [], [], [], [some 262, some 263, some 264, some 265, some 266, some 267], [], [], [], [], [], [], [some 269, some 270, some 271, some 272, some 273, some 274], [], [], [], [], [], [], [some 276], [], [some 278], [], [some 280], [], [some 282], [], [some 284, some 285, none, none, some 286, some 287, none, some 288, some 289, some 290, some 291, some 292, some 293, none, some 294, some 295, some 296, some 297, some 298, some 299, none, some 300, some 301, some 302, some 303, some 304], [], [], [], [], [], [], [], [], [], [], [], [], [], [], [], [], [], [], [], [], []]
def Fx : Rfs := fun a k => (FxT.getD a []).getD k none
def stripL : List Nat := [4, 11, 20, 27, 34, 41, 48, 55, 62, 69, 76, 83, 90, 97, 104, 111, 118, 125, 132, 139, 146, 153, 160, 167, 174, 181, 198, 205, 212, 219, 226, 233, 240, 248, 261, 268]
def isStrip (a : Nat) : Prop := a ∈ stripL
set_option maxRecDepth 20000 in
theorem strTab : stripL.all (fun a => decide (Sx[a]? = some (6, 10)) && (List.range 6).all (fun k => decide (Sx[a + 1 + k]? = some (100, 8)) && decide (Fx a k = some (a + 1 + k)))) = true := by decide +kernel
theorem strS {a : Nat} (h : isStrip a) : Sx[a]? = some (6, 10) := by
  have := List.all_eq_true.mp strTab a h
  simp only [Bool.and_eq_true, decide_eq_true_eq] at this
  exact this.1
theorem strA {a : Nat} (h : isStrip a) (k : Nat) (hk : k < 6) : Sx[a + 1 + k]? = some (100, 8) ∧ Fx a k = some (a + 1 + k) := by
  have := List.all_eq_true.mp strTab a h
  simp only [Bool.and_eq_true, decide_eq_true_eq] at this
  have h2 := List.all_eq_true.mp this.2 k (List.mem_range.mpr hk)
  simpa only [Bool.and_eq_true, decide_eq_true_eq] using h2
theorem strF0 {a : Nat} (h : isStrip a) : Fx a 0 = some (a + 1) := (strA h 0 (by omega)).2
theorem strF1 {a : Nat} (h : isStrip a) : Fx a 1 = some (a + 2) := (strA h 1 (by omega)).2
theorem strF2 {a : Nat} (h : isStrip a) : Fx a 2 = some (a + 3) := (strA h 2 (by omega)).2
theorem strF3 {a : Nat} (h : isStrip a) : Fx a 3 = some (a + 4) := (strA h 3 (by omega)).2
theorem strF4 {a : Nat} (h : isStrip a) : Fx a 4 = some (a + 5) := (strA h 4 (by omega)).2
theorem strF5 {a : Nat} (h : isStrip a) : Fx a 5 = some (a + 6) := (strA h 5 (by omega)).2
theorem strS1 {a : Nat} (h : isStrip a) : Sx[a + 1]? = some (100, 8) := (strA h 0 (by omega)).1
theorem strS2 {a : Nat} (h : isStrip a) : Sx[a + 2]? = some (100, 8) := (strA h 1 (by omega)).1
theorem strS3 {a : Nat} (h : isStrip a) : Sx[a + 3]? = some (100, 8) := (strA h 2 (by omega)).1
theorem strS4 {a : Nat} (h : isStrip a) : Sx[a + 4]? = some (100, 8) := (strA h 3 (by omega)).1
theorem strS5 {a : Nat} (h : isStrip a) : Sx[a + 5]? = some (100, 8) := (strA h 4 (by omega)).1
theorem strS6 {a : Nat} (h : isStrip a) : Sx[a + 6]? = some (100, 8) := (strA h 5 (by omega)).1
set_option maxRecDepth 20000 in
theorem strApart : stripL.all (fun a => stripL.all (fun b => decide (a = b ∨ a + 7 ≤ b ∨ b + 7 ≤ a))) = true := by decide +kernel
theorem strAp {a b : Nat} (ha : isStrip a) (hb : isStrip b) : a = b ∨ a + 7 ≤ b ∨ b + 7 ≤ a := by
  have := List.all_eq_true.mp (List.all_eq_true.mp strApart a ha) b hb
  simpa using this
def stHist (k : Nat) : Nat := 20 + 7 * k
def stGo (k : Nat) : Nat := 198 + 7 * k
def stImg (k : Nat) : Nat := 261 + 7 * k
def shAt (k : Nat) : Nat := 275 + 2 * k
theorem tHist : ∀ k, k < 24 → Fx 19 k = some (stHist k) ∧ stHist k ∈ stripL := by decide +kernel
theorem tGo : ∀ k, k < 7 → Fx 197 k = some (stGo k) ∧ stGo k ∈ stripL := by decide +kernel
theorem tImg : ∀ k, k < 2 → Fx 188 k = some (stImg k) ∧ stImg k ∈ stripL := by decide +kernel
theorem tSh : ∀ k, k < 4 → Fx 189 k = some (shAt k) ∧ Sx[shAt k]? = some (5, 3) ∧ Sx[shAt k + 1]? = some (101, 24) ∧ Fx (shAt k) 0 = some (shAt k + 1) := by decide +kernel
abbrev JT : Type := Nat → List MV → List MV → Dat → Prop
def AX (g : Gm) (l : Launch) (cls : String) (cc : ByteArray) (nL d : Nat) (J : JT) : Prop := ∃ (K : KT) (n0 s0 mc ms : Nat) (ini : Prop), Act g l cls cc nL d n0 s0 mc ms ini K ∧ (Sx.length - n0 ≤ mc ∧ szS Sx - s0 ≤ ms) ∧ J = fun pc lo st D => K pc lo st Sx Fx D
section JRows
variable {g : Gm} {l : Launch} {cls : String} {cc : ByteArray} {nL d : Nat} {J : JT} {pc : Nat} {lo st : List MV} {D : Dat}
theorem q_iconst (hA : AX g l cls cc nL d J) {n : Int} (hd : decode cc pc = .ok (.iconst n, 1)) (k : J (pc + 1) lo (vI n :: st) D) : J pc lo (st) D := by
  obtain ⟨K, n0, s0, mc, ms, ini, hA, hr1, rfl⟩ := hA
  exact r_iconst hA hd k
theorem q_bipush (hA : AX g l cls cc nL d J) {n : Int} (hn : -128 ≤ n ∧ n ≤ 127) (hd : decode cc pc = .ok (.bipush n, 2)) (k : J (pc + 2) lo (vI n :: st) D) : J pc lo (st) D := by
  obtain ⟨K, n0, s0, mc, ms, ini, hA, hr1, rfl⟩ := hA
  exact r_bipush hA hn hd k
theorem q_sipush (hA : AX g l cls cc nL d J) {n : Int} (hn : -32768 ≤ n ∧ n ≤ 32767) (hd : decode cc pc = .ok (.sipush n, 3)) (k : J (pc + 3) lo (vI n :: st) D) : J pc lo (st) D := by
  obtain ⟨K, n0, s0, mc, ms, ini, hA, hr1, rfl⟩ := hA
  exact r_sipush hA hn hd k
theorem q_lconst (hA : AX g l cls cc nL d J) {n : Fin 2} (hd : decode cc pc = .ok (.lconst n, 1)) (k : J (pc + 1) lo (vL ((n : Nat) : Int) :: st) D) : J pc lo (st) D := by
  obtain ⟨K, n0, s0, mc, ms, ini, hA, hr1, rfl⟩ := hA
  exact r_lconst hA hd k
theorem q_iload_n (hA : AX g l cls cc nL d J) {j : Fin 4} {x : Int} (hl2 : lo[(j : Nat)]? = some (vI x)) (hd : decode cc pc = .ok (.iload_n j, 1)) (k : J (pc + 1) lo (vI x :: st) D) : J pc lo (st) D := by
  obtain ⟨K, n0, s0, mc, ms, ini, hA, hr1, rfl⟩ := hA
  exact r_iload_n hA hl2 hd k
theorem q_iload (hA : AX g l cls cc nL d J) {j : Nat} {x : Int} (hl2 : lo[j]? = some (vI x)) (hd : decode cc pc = .ok (.iload j, 2)) (k : J (pc + 2) lo (vI x :: st) D) : J pc lo (st) D := by
  obtain ⟨K, n0, s0, mc, ms, ini, hA, hr1, rfl⟩ := hA
  exact r_iload hA hl2 hd k
theorem q_lload_n (hA : AX g l cls cc nL d J) {j : Fin 4} {x : Int} (hl2 : lo[(j : Nat)]? = some (vL x)) (hd : decode cc pc = .ok (.lload_n j, 1)) (k : J (pc + 1) lo (vL x :: st) D) : J pc lo (st) D := by
  obtain ⟨K, n0, s0, mc, ms, ini, hA, hr1, rfl⟩ := hA
  exact r_lload_n hA hl2 hd k
theorem q_lload (hA : AX g l cls cc nL d J) {j : Nat} {x : Int} (hl2 : lo[j]? = some (vL x)) (hd : decode cc pc = .ok (.lload j, 2)) (k : J (pc + 2) lo (vL x :: st) D) : J pc lo (st) D := by
  obtain ⟨K, n0, s0, mc, ms, ini, hA, hr1, rfl⟩ := hA
  exact r_lload hA hl2 hd k
theorem q_aload_n (hA : AX g l cls cc nL d J) {j : Fin 4} {x : Nat} (hl2 : lo[(j : Nat)]? = some (vR x)) (hd : decode cc pc = .ok (.aload_n j, 1)) (k : J (pc + 1) lo (vR x :: st) D) : J pc lo (st) D := by
  obtain ⟨K, n0, s0, mc, ms, ini, hA, hr1, rfl⟩ := hA
  exact r_aload_n hA hl2 hd k
theorem q_aload (hA : AX g l cls cc nL d J) {j : Nat} {x : Nat} (hl2 : lo[j]? = some (vR x)) (hd : decode cc pc = .ok (.aload j, 2)) (k : J (pc + 2) lo (vR x :: st) D) : J pc lo (st) D := by
  obtain ⟨K, n0, s0, mc, ms, ini, hA, hr1, rfl⟩ := hA
  exact r_aload hA hl2 hd k
theorem q_aload_nz (hA : AX g l cls cc nL d J) {j : Fin 4} {x : Nat} (hl2 : lo[(j : Nat)]? = some (vZ x)) (hd : decode cc pc = .ok (.aload_n j, 1)) (k : J (pc + 1) lo (vZ x :: st) D) : J pc lo (st) D := by
  obtain ⟨K, n0, s0, mc, ms, ini, hA, hr1, rfl⟩ := hA
  exact r_aload_nz hA hl2 hd k
theorem q_aloadz (hA : AX g l cls cc nL d J) {j : Nat} {x : Nat} (hl2 : lo[j]? = some (vZ x)) (hd : decode cc pc = .ok (.aload j, 2)) (k : J (pc + 2) lo (vZ x :: st) D) : J pc lo (st) D := by
  obtain ⟨K, n0, s0, mc, ms, ini, hA, hr1, rfl⟩ := hA
  exact r_aloadz hA hl2 hd k
theorem q_iadd (hA : AX g l cls cc nL d J) {a b : Int} (hd : decode cc pc = .ok (.iadd, 1)) (k : J (pc + 1) lo (vI (a + b) :: st) D) : J pc lo (vI b :: vI a :: st) D := by
  obtain ⟨K, n0, s0, mc, ms, ini, hA, hr1, rfl⟩ := hA
  exact r_iadd hA hd k
theorem q_isub (hA : AX g l cls cc nL d J) {a b : Int} (hd : decode cc pc = .ok (.isub, 1)) (k : J (pc + 1) lo (vI (a - b) :: st) D) : J pc lo (vI b :: vI a :: st) D := by
  obtain ⟨K, n0, s0, mc, ms, ini, hA, hr1, rfl⟩ := hA
  exact r_isub hA hd k
theorem q_imul (hA : AX g l cls cc nL d J) {a b : Int} (hd : decode cc pc = .ok (.imul, 1)) (k : J (pc + 1) lo (vI (a * b) :: st) D) : J pc lo (vI b :: vI a :: st) D := by
  obtain ⟨K, n0, s0, mc, ms, ini, hA, hr1, rfl⟩ := hA
  exact r_imul hA hd k
theorem q_ladd (hA : AX g l cls cc nL d J) {a b : Int} (hd : decode cc pc = .ok (.ladd, 1)) (k : J (pc + 1) lo (vL (a + b) :: st) D) : J pc lo (vL b :: vL a :: st) D := by
  obtain ⟨K, n0, s0, mc, ms, ini, hA, hr1, rfl⟩ := hA
  exact r_ladd hA hd k
theorem q_lsub (hA : AX g l cls cc nL d J) {a b : Int} (hd : decode cc pc = .ok (.lsub, 1)) (k : J (pc + 1) lo (vL (a - b) :: st) D) : J pc lo (vL b :: vL a :: st) D := by
  obtain ⟨K, n0, s0, mc, ms, ini, hA, hr1, rfl⟩ := hA
  exact r_lsub hA hd k
theorem q_lmul (hA : AX g l cls cc nL d J) {a b : Int} (hd : decode cc pc = .ok (.lmul, 1)) (k : J (pc + 1) lo (vL (a * b) :: st) D) : J pc lo (vL b :: vL a :: st) D := by
  obtain ⟨K, n0, s0, mc, ms, ini, hA, hr1, rfl⟩ := hA
  exact r_lmul hA hd k
theorem q_ineg (hA : AX g l cls cc nL d J) {a : Int} (hd : decode cc pc = .ok (.ineg, 1)) (k : J (pc + 1) lo (vI (-a) :: st) D) : J pc lo (vI a :: st) D := by
  obtain ⟨K, n0, s0, mc, ms, ini, hA, hr1, rfl⟩ := hA
  exact r_ineg hA hd k
theorem q_iand (hA : AX g l cls cc nL d J) {a b : Int} (hd : decode cc pc = .ok (.iand, 1)) (k : J (pc + 1) lo (vI (iAnd a b) :: st) D) : J pc lo (vI b :: vI a :: st) D := by
  obtain ⟨K, n0, s0, mc, ms, ini, hA, hr1, rfl⟩ := hA
  exact r_iand hA hd k
theorem q_ior (hA : AX g l cls cc nL d J) {a b : Int} (hd : decode cc pc = .ok (.ior, 1)) (k : J (pc + 1) lo (vI (iOr a b) :: st) D) : J pc lo (vI b :: vI a :: st) D := by
  obtain ⟨K, n0, s0, mc, ms, ini, hA, hr1, rfl⟩ := hA
  exact r_ior hA hd k
theorem q_ixor (hA : AX g l cls cc nL d J) {a b : Int} (hd : decode cc pc = .ok (.ixor, 1)) (k : J (pc + 1) lo (vI (iXor a b) :: st) D) : J pc lo (vI b :: vI a :: st) D := by
  obtain ⟨K, n0, s0, mc, ms, ini, hA, hr1, rfl⟩ := hA
  exact r_ixor hA hd k
theorem q_ishl (hA : AX g l cls cc nL d J) {a b : Int} (hd : decode cc pc = .ok (.ishl, 1)) (k : J (pc + 1) lo (vI (iShl a b) :: st) D) : J pc lo (vI b :: vI a :: st) D := by
  obtain ⟨K, n0, s0, mc, ms, ini, hA, hr1, rfl⟩ := hA
  exact r_ishl hA hd k
theorem q_ishr (hA : AX g l cls cc nL d J) {a b : Int} (hd : decode cc pc = .ok (.ishr, 1)) (k : J (pc + 1) lo (vI (iShr a b) :: st) D) : J pc lo (vI b :: vI a :: st) D := by
  obtain ⟨K, n0, s0, mc, ms, ini, hA, hr1, rfl⟩ := hA
  exact r_ishr hA hd k
theorem q_iushr (hA : AX g l cls cc nL d J) {a b : Int} (hd : decode cc pc = .ok (.iushr, 1)) (k : J (pc + 1) lo (vI (iUshr a b) :: st) D) : J pc lo (vI b :: vI a :: st) D := by
  obtain ⟨K, n0, s0, mc, ms, ini, hA, hr1, rfl⟩ := hA
  exact r_iushr hA hd k
theorem q_land (hA : AX g l cls cc nL d J) {a b : Int} (hd : decode cc pc = .ok (.land, 1)) (k : J (pc + 1) lo (vL (lAnd a b) :: st) D) : J pc lo (vL b :: vL a :: st) D := by
  obtain ⟨K, n0, s0, mc, ms, ini, hA, hr1, rfl⟩ := hA
  exact r_land hA hd k
theorem q_lor (hA : AX g l cls cc nL d J) {a b : Int} (hd : decode cc pc = .ok (.lor, 1)) (k : J (pc + 1) lo (vL (lOr a b) :: st) D) : J pc lo (vL b :: vL a :: st) D := by
  obtain ⟨K, n0, s0, mc, ms, ini, hA, hr1, rfl⟩ := hA
  exact r_lor hA hd k
theorem q_lshl (hA : AX g l cls cc nL d J) {a b : Int} (hd : decode cc pc = .ok (.lshl, 1)) (k : J (pc + 1) lo (vL (lShl a b) :: st) D) : J pc lo (vI b :: vL a :: st) D := by
  obtain ⟨K, n0, s0, mc, ms, ini, hA, hr1, rfl⟩ := hA
  exact r_lshl hA hd k
theorem q_lshr (hA : AX g l cls cc nL d J) {a b : Int} (hd : decode cc pc = .ok (.lshr, 1)) (k : J (pc + 1) lo (vL (lShr a b) :: st) D) : J pc lo (vI b :: vL a :: st) D := by
  obtain ⟨K, n0, s0, mc, ms, ini, hA, hr1, rfl⟩ := hA
  exact r_lshr hA hd k
theorem q_idiv (hA : AX g l cls cc nL d J) {a b : Int} (ha : 0 ≤ a ∧ a ≤ 2147483647) (hb0 : 0 < b ∧ b ≤ 2147483647) (hd : decode cc pc = .ok (.idiv, 1)) (k : J (pc + 1) lo (vI (a / b) :: st) D) : J pc lo (vI b :: vI a :: st) D := by
  obtain ⟨K, n0, s0, mc, ms, ini, hA, hr1, rfl⟩ := hA
  exact r_idiv hA ha hb0 hd k
theorem q_irem (hA : AX g l cls cc nL d J) {a b : Int} (ha : 0 ≤ a ∧ a ≤ 2147483647) (hb0 : 0 < b ∧ b ≤ 2147483647) (hd : decode cc pc = .ok (.irem, 1)) (k : J (pc + 1) lo (vI (a % b) :: st) D) : J pc lo (vI b :: vI a :: st) D := by
  obtain ⟨K, n0, s0, mc, ms, ini, hA, hr1, rfl⟩ := hA
  exact r_irem hA ha hb0 hd k
theorem q_ldiv (hA : AX g l cls cc nL d J) {a b : Int} (ha : 0 ≤ a ∧ a ≤ 9223372036854775807) (hb0 : 0 < b ∧ b ≤ 9223372036854775807) (hd : decode cc pc = .ok (.ldiv, 1)) (k : J (pc + 1) lo (vL (a / b) :: st) D) : J pc lo (vL b :: vL a :: st) D := by
  obtain ⟨K, n0, s0, mc, ms, ini, hA, hr1, rfl⟩ := hA
  exact r_ldiv hA ha hb0 hd k
theorem q_lrem (hA : AX g l cls cc nL d J) {a b : Int} (ha : 0 ≤ a ∧ a ≤ 9223372036854775807) (hb0 : 0 < b ∧ b ≤ 9223372036854775807) (hd : decode cc pc = .ok (.lrem, 1)) (k : J (pc + 1) lo (vL (a % b) :: st) D) : J pc lo (vL b :: vL a :: st) D := by
  obtain ⟨K, n0, s0, mc, ms, ini, hA, hr1, rfl⟩ := hA
  exact r_lrem hA ha hb0 hd k
theorem q_i2l (hA : AX g l cls cc nL d J) {a : Int} (ha : -2147483648 ≤ a ∧ a ≤ 2147483647) (hd : decode cc pc = .ok (.i2l, 1)) (k : J (pc + 1) lo (vL a :: st) D) : J pc lo (vI a :: st) D := by
  obtain ⟨K, n0, s0, mc, ms, ini, hA, hr1, rfl⟩ := hA
  exact r_i2l hA ha hd k
theorem q_l2i (hA : AX g l cls cc nL d J) {a : Int} (hd : decode cc pc = .ok (.l2i, 1)) (k : J (pc + 1) lo (vI a :: st) D) : J pc lo (vL a :: st) D := by
  obtain ⟨K, n0, s0, mc, ms, ini, hA, hr1, rfl⟩ := hA
  exact r_l2i hA hd k
theorem q_i2b (hA : AX g l cls cc nL d J) {a : Int} (hd : decode cc pc = .ok (.i2b, 1)) (k : J (pc + 1) lo (vI (toB a) :: st) D) : J pc lo (vI a :: st) D := by
  obtain ⟨K, n0, s0, mc, ms, ini, hA, hr1, rfl⟩ := hA
  exact r_i2b hA hd k
theorem q_i2s (hA : AX g l cls cc nL d J) {a : Int} (hd : decode cc pc = .ok (.i2s, 1)) (k : J (pc + 1) lo (vI (toS a) :: st) D) : J pc lo (vI a :: st) D := by
  obtain ⟨K, n0, s0, mc, ms, ini, hA, hr1, rfl⟩ := hA
  exact r_i2s hA hd k
theorem q_dupI (hA : AX g l cls cc nL d J) {a : Int} (hd : decode cc pc = .ok (.dup, 1)) (k : J (pc + 1) lo (vI a :: vI a :: st) D) : J pc lo (vI a :: st) D := by
  obtain ⟨K, n0, s0, mc, ms, ini, hA, hr1, rfl⟩ := hA
  exact r_dupI hA hd k
theorem q_dupR (hA : AX g l cls cc nL d J) {a : Nat} (hd : decode cc pc = .ok (.dup, 1)) (k : J (pc + 1) lo (vR a :: vR a :: st) D) : J pc lo (vR a :: st) D := by
  obtain ⟨K, n0, s0, mc, ms, ini, hA, hr1, rfl⟩ := hA
  exact r_dupR hA hd k
theorem q_dup2IR (hA : AX g l cls cc nL d J) {a : Int} {b : Nat} (hd : decode cc pc = .ok (.dup2, 1)) (k : J (pc + 1) lo (vI a :: vR b :: vI a :: vR b :: st) D) : J pc lo (vI a :: vR b :: st) D := by
  obtain ⟨K, n0, s0, mc, ms, ini, hA, hr1, rfl⟩ := hA
  exact r_dup2IR hA hd k
theorem q_dup2L (hA : AX g l cls cc nL d J) {a : Int} (hd : decode cc pc = .ok (.dup2, 1)) (k : J (pc + 1) lo (vL a :: vL a :: st) D) : J pc lo (vL a :: st) D := by
  obtain ⟨K, n0, s0, mc, ms, ini, hA, hr1, rfl⟩ := hA
  exact r_dup2L hA hd k
theorem q_pop2L (hA : AX g l cls cc nL d J) {a : Int} (hd : decode cc pc = .ok (.pop2, 1)) (k : J (pc + 1) lo st D) : J pc lo (vL a :: st) D := by
  obtain ⟨K, n0, s0, mc, ms, ini, hA, hr1, rfl⟩ := hA
  exact r_pop2L hA hd k
theorem q_lcmp (hA : AX g l cls cc nL d J) {a b : Int} (ha : -9223372036854775808 ≤ a ∧ a ≤ 9223372036854775807) (hb0 : -9223372036854775808 ≤ b ∧ b ≤ 9223372036854775807) (hd : decode cc pc = .ok (.lcmp, 1)) (k : J (pc + 1) lo (vI (cmpL a b) :: st) D) : J pc lo (vL b :: vL a :: st) D := by
  obtain ⟨K, n0, s0, mc, ms, ini, hA, hr1, rfl⟩ := hA
  exact r_lcmp hA ha hb0 hd k
theorem q_goto (hA : AX g l cls cc nL d J) {off : Int} {tgt : Nat} (hd : decode cc pc = .ok (.goto off, 3)) (ht : (pc : Int) + off = (tgt : Int)) (k : J tgt lo st D) : J pc lo st D := by
  obtain ⟨K, n0, s0, mc, ms, ini, hA, hr1, rfl⟩ := hA
  exact r_goto hA hd ht k
theorem q_if_eq (hA : AX g l cls cc nL d J) {a : Int} (ha : -2147483648 ≤ a ∧ a ≤ 2147483647) {off : Int} {tgt : Nat} (hd : decode cc pc = .ok (.ifCond .eq off, 3)) (ht : (pc : Int) + off = (tgt : Int)) (kt : a = 0 → J tgt lo st D) (kf : a ≠ 0 → J (pc + 3) lo st D) : J pc lo (vI a :: st) D := by
  obtain ⟨K, n0, s0, mc, ms, ini, hA, hr1, rfl⟩ := hA
  exact r_if_eq hA ha hd ht kt kf
theorem q_if_ne (hA : AX g l cls cc nL d J) {a : Int} (ha : -2147483648 ≤ a ∧ a ≤ 2147483647) {off : Int} {tgt : Nat} (hd : decode cc pc = .ok (.ifCond .ne off, 3)) (ht : (pc : Int) + off = (tgt : Int)) (kt : a ≠ 0 → J tgt lo st D) (kf : a = 0 → J (pc + 3) lo st D) : J pc lo (vI a :: st) D := by
  obtain ⟨K, n0, s0, mc, ms, ini, hA, hr1, rfl⟩ := hA
  exact r_if_ne hA ha hd ht kt kf
theorem q_if_lt (hA : AX g l cls cc nL d J) {a : Int} (ha : -2147483648 ≤ a ∧ a ≤ 2147483647) {off : Int} {tgt : Nat} (hd : decode cc pc = .ok (.ifCond .lt off, 3)) (ht : (pc : Int) + off = (tgt : Int)) (kt : a < 0 → J tgt lo st D) (kf : 0 ≤ a → J (pc + 3) lo st D) : J pc lo (vI a :: st) D := by
  obtain ⟨K, n0, s0, mc, ms, ini, hA, hr1, rfl⟩ := hA
  exact r_if_lt hA ha hd ht kt kf
theorem q_if_ge (hA : AX g l cls cc nL d J) {a : Int} (ha : -2147483648 ≤ a ∧ a ≤ 2147483647) {off : Int} {tgt : Nat} (hd : decode cc pc = .ok (.ifCond .ge off, 3)) (ht : (pc : Int) + off = (tgt : Int)) (kt : 0 ≤ a → J tgt lo st D) (kf : a < 0 → J (pc + 3) lo st D) : J pc lo (vI a :: st) D := by
  obtain ⟨K, n0, s0, mc, ms, ini, hA, hr1, rfl⟩ := hA
  exact r_if_ge hA ha hd ht kt kf
theorem q_if_gt (hA : AX g l cls cc nL d J) {a : Int} (ha : -2147483648 ≤ a ∧ a ≤ 2147483647) {off : Int} {tgt : Nat} (hd : decode cc pc = .ok (.ifCond .gt off, 3)) (ht : (pc : Int) + off = (tgt : Int)) (kt : 0 < a → J tgt lo st D) (kf : a ≤ 0 → J (pc + 3) lo st D) : J pc lo (vI a :: st) D := by
  obtain ⟨K, n0, s0, mc, ms, ini, hA, hr1, rfl⟩ := hA
  exact r_if_gt hA ha hd ht kt kf
theorem q_if_le (hA : AX g l cls cc nL d J) {a : Int} (ha : -2147483648 ≤ a ∧ a ≤ 2147483647) {off : Int} {tgt : Nat} (hd : decode cc pc = .ok (.ifCond .le off, 3)) (ht : (pc : Int) + off = (tgt : Int)) (kt : a ≤ 0 → J tgt lo st D) (kf : 0 < a → J (pc + 3) lo st D) : J pc lo (vI a :: st) D := by
  obtain ⟨K, n0, s0, mc, ms, ini, hA, hr1, rfl⟩ := hA
  exact r_if_le hA ha hd ht kt kf
theorem q_icmp_eq (hA : AX g l cls cc nL d J) {a b : Int} (ha : -2147483648 ≤ a ∧ a ≤ 2147483647) (hb0 : -2147483648 ≤ b ∧ b ≤ 2147483647) {off : Int} {tgt : Nat} (hd : decode cc pc = .ok (.if_icmp .eq off, 3)) (ht : (pc : Int) + off = (tgt : Int)) (kt : a = b → J tgt lo st D) (kf : a ≠ b → J (pc + 3) lo st D) : J pc lo (vI b :: vI a :: st) D := by
  obtain ⟨K, n0, s0, mc, ms, ini, hA, hr1, rfl⟩ := hA
  exact r_icmp_eq hA ha hb0 hd ht kt kf
theorem q_icmp_ne (hA : AX g l cls cc nL d J) {a b : Int} (ha : -2147483648 ≤ a ∧ a ≤ 2147483647) (hb0 : -2147483648 ≤ b ∧ b ≤ 2147483647) {off : Int} {tgt : Nat} (hd : decode cc pc = .ok (.if_icmp .ne off, 3)) (ht : (pc : Int) + off = (tgt : Int)) (kt : a ≠ b → J tgt lo st D) (kf : a = b → J (pc + 3) lo st D) : J pc lo (vI b :: vI a :: st) D := by
  obtain ⟨K, n0, s0, mc, ms, ini, hA, hr1, rfl⟩ := hA
  exact r_icmp_ne hA ha hb0 hd ht kt kf
theorem q_icmp_lt (hA : AX g l cls cc nL d J) {a b : Int} (ha : -2147483648 ≤ a ∧ a ≤ 2147483647) (hb0 : -2147483648 ≤ b ∧ b ≤ 2147483647) {off : Int} {tgt : Nat} (hd : decode cc pc = .ok (.if_icmp .lt off, 3)) (ht : (pc : Int) + off = (tgt : Int)) (kt : a < b → J tgt lo st D) (kf : b ≤ a → J (pc + 3) lo st D) : J pc lo (vI b :: vI a :: st) D := by
  obtain ⟨K, n0, s0, mc, ms, ini, hA, hr1, rfl⟩ := hA
  exact r_icmp_lt hA ha hb0 hd ht kt kf
theorem q_icmp_ge (hA : AX g l cls cc nL d J) {a b : Int} (ha : -2147483648 ≤ a ∧ a ≤ 2147483647) (hb0 : -2147483648 ≤ b ∧ b ≤ 2147483647) {off : Int} {tgt : Nat} (hd : decode cc pc = .ok (.if_icmp .ge off, 3)) (ht : (pc : Int) + off = (tgt : Int)) (kt : b ≤ a → J tgt lo st D) (kf : a < b → J (pc + 3) lo st D) : J pc lo (vI b :: vI a :: st) D := by
  obtain ⟨K, n0, s0, mc, ms, ini, hA, hr1, rfl⟩ := hA
  exact r_icmp_ge hA ha hb0 hd ht kt kf
theorem q_icmp_gt (hA : AX g l cls cc nL d J) {a b : Int} (ha : -2147483648 ≤ a ∧ a ≤ 2147483647) (hb0 : -2147483648 ≤ b ∧ b ≤ 2147483647) {off : Int} {tgt : Nat} (hd : decode cc pc = .ok (.if_icmp .gt off, 3)) (ht : (pc : Int) + off = (tgt : Int)) (kt : b < a → J tgt lo st D) (kf : a ≤ b → J (pc + 3) lo st D) : J pc lo (vI b :: vI a :: st) D := by
  obtain ⟨K, n0, s0, mc, ms, ini, hA, hr1, rfl⟩ := hA
  exact r_icmp_gt hA ha hb0 hd ht kt kf
theorem q_icmp_le (hA : AX g l cls cc nL d J) {a b : Int} (ha : -2147483648 ≤ a ∧ a ≤ 2147483647) (hb0 : -2147483648 ≤ b ∧ b ≤ 2147483647) {off : Int} {tgt : Nat} (hd : decode cc pc = .ok (.if_icmp .le off, 3)) (ht : (pc : Int) + off = (tgt : Int)) (kt : a ≤ b → J tgt lo st D) (kf : b < a → J (pc + 3) lo st D) : J pc lo (vI b :: vI a :: st) D := by
  obtain ⟨K, n0, s0, mc, ms, ini, hA, hr1, rfl⟩ := hA
  exact r_icmp_le hA ha hb0 hd ht kt kf
theorem q_icmp_eq_t (hA : AX g l cls cc nL d J) {a b : Int} (hab : a = b) {off : Int} {tgt : Nat} (hd : decode cc pc = .ok (.if_icmp .eq off, 3)) (ht : (pc : Int) + off = (tgt : Int)) (kt : J tgt lo st D) : J pc lo (vI b :: vI a :: st) D := by
  obtain ⟨K, n0, s0, mc, ms, ini, hA, hr1, rfl⟩ := hA
  exact r_icmp_eq_t hA hab hd ht kt
theorem q_icmp_ne_f (hA : AX g l cls cc nL d J) {a b : Int} (hab : a = b) {off : Int} {tgt : Nat} (hd : decode cc pc = .ok (.if_icmp .ne off, 3)) (ht : (pc : Int) + off = (tgt : Int)) (kf : J (pc + 3) lo st D) : J pc lo (vI b :: vI a :: st) D := by
  obtain ⟨K, n0, s0, mc, ms, ini, hA, hr1, rfl⟩ := hA
  exact r_icmp_ne_f hA hab hd ht kf
theorem q_istore_n (hA : AX g l cls cc nL d J) {j : Fin 4} {x : Int} {lo2 : List MV} (hd : decode cc pc = .ok (.istore_n j, 1)) (hj : (j : Nat) < nL) (hok : stOk lo (j : Nat) = true) (hlo2 : lo.set (j : Nat) (vI x) = lo2) (k : J (pc + 1) lo2 st D) : J pc lo (vI x :: st) D := by
  obtain ⟨K, n0, s0, mc, ms, ini, hA, hr1, rfl⟩ := hA
  exact r_istore_n hA hd hj hok hlo2 k
theorem q_istore (hA : AX g l cls cc nL d J) {j : Nat} {x : Int} {lo2 : List MV} (hd : decode cc pc = .ok (.istore j, 2)) (hj : j < nL) (hok : stOk lo j = true) (hlo2 : lo.set j (vI x) = lo2) (k : J (pc + 2) lo2 st D) : J pc lo (vI x :: st) D := by
  obtain ⟨K, n0, s0, mc, ms, ini, hA, hr1, rfl⟩ := hA
  exact r_istore hA hd hj hok hlo2 k
theorem q_astore_n (hA : AX g l cls cc nL d J) {j : Fin 4} {x : Nat} {lo2 : List MV} (hd : decode cc pc = .ok (.astore_n j, 1)) (hj : (j : Nat) < nL) (hok : stOk lo (j : Nat) = true) (hlo2 : lo.set (j : Nat) (vR x) = lo2) (k : J (pc + 1) lo2 st D) : J pc lo (vR x :: st) D := by
  obtain ⟨K, n0, s0, mc, ms, ini, hA, hr1, rfl⟩ := hA
  exact r_astore_n hA hd hj hok hlo2 k
theorem q_astore (hA : AX g l cls cc nL d J) {j : Nat} {x : Nat} {lo2 : List MV} (hd : decode cc pc = .ok (.astore j, 2)) (hj : j < nL) (hok : stOk lo j = true) (hlo2 : lo.set j (vR x) = lo2) (k : J (pc + 2) lo2 st D) : J pc lo (vR x :: st) D := by
  obtain ⟨K, n0, s0, mc, ms, ini, hA, hr1, rfl⟩ := hA
  exact r_astore hA hd hj hok hlo2 k
theorem q_lstore_n (hA : AX g l cls cc nL d J) {j : Fin 4} {x : Int} {lo2 : List MV} (hd : decode cc pc = .ok (.lstore_n j, 1)) (hj : (j : Nat) + 1 < nL) (hok : stOk lo (j : Nat) = true) (hlo2 : (lo.set (j : Nat) (vL x)).set ((j : Nat) + 1) vN = lo2) (k : J (pc + 1) lo2 st D) : J pc lo (vL x :: st) D := by
  obtain ⟨K, n0, s0, mc, ms, ini, hA, hr1, rfl⟩ := hA
  exact r_lstore_n hA hd hj hok hlo2 k
theorem q_lstore (hA : AX g l cls cc nL d J) {j : Nat} {x : Int} {lo2 : List MV} (hd : decode cc pc = .ok (.lstore j, 2)) (hj : j + 1 < nL) (hok : stOk lo j = true) (hlo2 : (lo.set j (vL x)).set (j + 1) vN = lo2) (k : J (pc + 2) lo2 st D) : J pc lo (vL x :: st) D := by
  obtain ⟨K, n0, s0, mc, ms, ini, hA, hr1, rfl⟩ := hA
  exact r_lstore hA hd hj hok hlo2 k
theorem q_iinc (hA : AX g l cls cc nL d J) {j : Nat} {n x : Int} {lo2 : List MV} (hd : decode cc pc = .ok (.iinc j n, 3)) (hl2 : lo[j]? = some (vI x)) (hj : j < nL) (hok : stOk lo j = true) (hlo2 : lo.set j (vI (x + n)) = lo2) (k : J (pc + 3) lo2 st D) : J pc lo st D := by
  obtain ⟨K, n0, s0, mc, ms, ini, hA, hr1, rfl⟩ := hA
  exact r_iinc hA hd hl2 hj hok hlo2 k
theorem q_getI (hA : AX g l cls cc nL d J) {idx ci k n a : Nat} {x : Int} {ty : FieldType} {fin : Bool} (hF : Fl cls idx ci k ty fin) (hd : decode cc pc = .ok (.getfield idx, 3)) (hs : Sx[a]? = some (ci, n)) (hci : ci < 100 ∧ k < n ∧ isR ci k = false) (hv : D a k = x) (kk : J (pc + 3) lo (vI x :: st) D) : J pc lo (vR a :: st) D := by
  obtain ⟨K, n0, s0, mc, ms, ini, hA, hr1, rfl⟩ := hA
  exact r_getI hA hF hd hs hci hv kk
theorem q_getR (hA : AX g l cls cc nL d J) {idx ci k n a b : Nat} {ty : FieldType} {fin : Bool} (hF : Fl cls idx ci k ty fin) (hd : decode cc pc = .ok (.getfield idx, 3)) (hs : Sx[a]? = some (ci, n)) (hci : ci < 100 ∧ k < n ∧ isR ci k = true) (hv : Fx a k = some b) (kk : J (pc + 3) lo (vR b :: st) D) : J pc lo (vR a :: st) D := by
  obtain ⟨K, n0, s0, mc, ms, ini, hA, hr1, rfl⟩ := hA
  exact r_getR hA hF hd hs hci hv kk
theorem q_putI (hA : AX g l cls cc nL d J) {idx ci k n a : Nat} {x : Int} (hF : Fl cls idx ci k .int false) (hd : decode cc pc = .ok (.putfield idx, 3)) (hs : Sx[a]? = some (ci, n)) (hci : ci < 100 ∧ k < n ∧ isR ci k = false) (kk : J (pc + 3) lo st (upD D a k x)) : J pc lo (vI x :: vR a :: st) D := by
  obtain ⟨K, n0, s0, mc, ms, ini, hA, hr1, rfl⟩ := hA
  exact r_putI hA hF hd hs hci kk
theorem q_iald (hA : AX g l cls cc nL d J) {n a : Nat} {i x : Int} (hd : decode cc pc = .ok (.iaload, 1)) (hs : Sx[a]? = some (100, n)) (hi : 0 ≤ i ∧ i < n) (hn : n < 2147483648) (hv : D a i = x) (kk : J (pc + 1) lo (vI x :: st) D) : J pc lo (vI i :: vR a :: st) D := by
  obtain ⟨K, n0, s0, mc, ms, ini, hA, hr1, rfl⟩ := hA
  exact r_iald hA hd hs hi hn hv kk
theorem q_lald (hA : AX g l cls cc nL d J) {n a : Nat} {i x : Int} (hd : decode cc pc = .ok (.laload, 1)) (hs : Sx[a]? = some (101, n)) (hi : 0 ≤ i ∧ i < n) (hn : n < 2147483648) (hv : D a i = x) (kk : J (pc + 1) lo (vL x :: st) D) : J pc lo (vI i :: vR a :: st) D := by
  obtain ⟨K, n0, s0, mc, ms, ini, hA, hr1, rfl⟩ := hA
  exact r_lald hA hd hs hi hn hv kk
theorem q_zald (hA : AX g l cls cc nL d J) {n a : Nat} {i x : Int} (hd : decode cc pc = .ok (.baload, 1)) (hs : Sx[a]? = some (102, n)) (hi : 0 ≤ i ∧ i < n) (hn : n < 2147483648) (hv : D a i = x) (kk : J (pc + 1) lo (vI x :: st) D) : J pc lo (vI i :: vR a :: st) D := by
  obtain ⟨K, n0, s0, mc, ms, ini, hA, hr1, rfl⟩ := hA
  exact r_zald hA hd hs hi hn hv kk
theorem q_iast (hA : AX g l cls cc nL d J) {n a : Nat} {i x : Int} (hd : decode cc pc = .ok (.iastore, 1)) (hs : Sx[a]? = some (100, n)) (hi : 0 ≤ i ∧ i < n) (hn : n < 2147483648) (kk : J (pc + 1) lo st (upD D a i x)) : J pc lo (vI x :: vI i :: vR a :: st) D := by
  obtain ⟨K, n0, s0, mc, ms, ini, hA, hr1, rfl⟩ := hA
  exact r_iast hA hd hs hi hn kk
theorem q_last (hA : AX g l cls cc nL d J) {n a : Nat} {i x : Int} (hd : decode cc pc = .ok (.lastore, 1)) (hs : Sx[a]? = some (101, n)) (hi : 0 ≤ i ∧ i < n) (hn : n < 2147483648) (kk : J (pc + 1) lo st (upD D a i x)) : J pc lo (vL x :: vI i :: vR a :: st) D := by
  obtain ⟨K, n0, s0, mc, ms, ini, hA, hr1, rfl⟩ := hA
  exact r_last hA hd hs hi hn kk
theorem q_zast (hA : AX g l cls cc nL d J) {n a : Nat} {i x : Int} (hd : decode cc pc = .ok (.bastore, 1)) (hs : Sx[a]? = some (102, n)) (hi : 0 ≤ i ∧ i < n) (hn : n < 2147483648) (h01 : x = 0 ∨ x = 1) (kk : J (pc + 1) lo st (upD D a i x)) : J pc lo (vI x :: vI i :: vR a :: st) D := by
  obtain ⟨K, n0, s0, mc, ms, ini, hA, hr1, rfl⟩ := hA
  exact r_zast hA hd hs hi hn h01 kk
theorem q_aald (hA : AX g l cls cc nL d J) {n a b : Nat} {i : Int} {kd : Nat} (hkd : kd = 103 ∨ kd = 104) (hd : decode cc pc = .ok (.aaload, 1)) (hs : Sx[a]? = some (kd, n)) (hi : 0 ≤ i ∧ i < n) (hn : n < 2147483648) (hv : Fx a i.toNat = some b) (kk : J (pc + 1) lo (vR b :: st) D) : J pc lo (vI i :: vR a :: st) D := by
  obtain ⟨K, n0, s0, mc, ms, ini, hA, hr1, rfl⟩ := hA
  exact r_aald hA hkd hd hs hi hn hv kk
theorem q_alen (hA : AX g l cls cc nL d J) {n a kd : Nat} (hkd : kd = 100 ∨ kd = 101 ∨ kd = 103) (hd : decode cc pc = .ok (.arraylength, 1)) (hs : Sx[a]? = some (kd, n)) (kk : J (pc + 1) lo (vI n :: st) D) : J pc lo (vR a :: st) D := by
  obtain ⟨K, n0, s0, mc, ms, ini, hA, hr1, rfl⟩ := hA
  exact r_alen hA hkd hd hs kk
theorem q_gets (hA : AX g l cls cc nL d J) {idx k a : Nat} (hk : k < 3) (hl0 : Cond.fieldLink cls idx RX3 (stN k) "[I" ∈ Wd) (ha : gA g k = a) (hd : decode cc pc = .ok (.getstatic idx, 3)) (kk : J (pc + 3) lo (vZ a :: st) D) : J pc lo st D := by
  obtain ⟨K, n0, s0, mc, ms, ini, hA, hr1, rfl⟩ := hA
  exact r_gets hA hk hl0 ha hd kk
theorem q_ialdS (hA : AX g l cls cc nL d J) {k a : Nat} {i x : Int} (hk : k < 3) (ha : gA g k = a) (hd : decode cc pc = .ok (.iaload, 1)) (hi : 0 ≤ i ∧ i < 6) (hv : stV k i.toNat = x) (kk : J (pc + 1) lo (vI x :: st) D) : J pc lo (vI i :: vZ a :: st) D := by
  obtain ⟨K, n0, s0, mc, ms, ini, hA, hr1, rfl⟩ := hA
  exact r_ialdS hA hk ha hd hi hv kk
theorem q_alenS (hA : AX g l cls cc nL d J) {k a : Nat} (hk : k < 3) (ha : gA g k = a) (hd : decode cc pc = .ok (.arraylength, 1)) (kk : J (pc + 1) lo (vI 6 :: st) D) : J pc lo (vZ a :: st) D := by
  obtain ⟨K, n0, s0, mc, ms, ini, hA, hr1, rfl⟩ := hA
  exact r_alenS hA hk ha hd kk
theorem q_ialdX (hA : AX g l cls cc nL d J) {a : Nat} {i x : Int} (ha : (gX g).1 = a) (hd : decode cc pc = .ok (.iaload, 1)) (hi : 0 ≤ i ∧ i < ((gX g).2.1 : Nat)) (hn : (gX g).2.1 < 2147483648) (hv : (gX g).2.2 i.toNat = x) (kk : J (pc + 1) lo (vI x :: st) D) : J pc lo (vI i :: vZ a :: st) D := by
  obtain ⟨K, n0, s0, mc, ms, ini, hA, hr1, rfl⟩ := hA
  exact r_ialdX hA ha hd hi hn hv kk
theorem q_alenX (hA : AX g l cls cc nL d J) {a : Nat} (ha : (gX g).1 = a) (hd : decode cc pc = .ok (.arraylength, 1)) (kk : J (pc + 1) lo (vI ((gX g).2.1 : Nat) :: st) D) : J pc lo (vZ a :: st) D := by
  obtain ⟨K, n0, s0, mc, ms, ini, hA, hr1, rfl⟩ := hA
  exact r_alenX hA ha hd kk
theorem q_ldc (hA : AX g l cls cc nL d J) {idx : Nat} {v : Int} (hc : Cond.constant cls idx (Int32.ofInt v) ∈ Wd) (hd : decode cc pc = .ok (.ldc idx, 2)) (kk : J (pc + 2) lo (vI v :: st) D) : J pc lo st D := by
  obtain ⟨K, n0, s0, mc, ms, ini, hA, hr1, rfl⟩ := hA
  exact r_ldc hA hc hd kk
theorem q_ldcw (hA : AX g l cls cc nL d J) {idx : Nat} {v : Int} (hc : Cond.constant cls idx (Int32.ofInt v) ∈ Wd) (hd : decode cc pc = .ok (.ldc_w idx, 3)) (kk : J (pc + 3) lo (vI v :: st) D) : J pc lo st D := by
  obtain ⟨K, n0, s0, mc, ms, ini, hA, hr1, rfl⟩ := hA
  exact r_ldcw hA hc hd kk
theorem q_ldc2 (hA : AX g l cls cc nL d J) {idx : Nat} {v : Int} (hc : Cond.constantLong cls idx (Int64.ofInt v) ∈ Wd) (hd : decode cc pc = .ok (.ldc2_w idx, 3)) (kk : J (pc + 3) lo (vL v :: st) D) : J pc lo st D := by
  obtain ⟨K, n0, s0, mc, ms, ini, hA, hr1, rfl⟩ := hA
  exact r_ldc2 hA hc hd kk
theorem q_tblIn (hA : AX g l cls cc nL d J) {dflt lw hi : Int} {offs : Array Int} {len tgt : Nat} {off x : Int} (hx0 : -2147483648 ≤ x ∧ x ≤ 2147483647) (hd : decode cc pc = .ok (.tableswitch dflt lw hi offs, len)) (h : lw ≤ x ∧ x ≤ hi) (ho : offs[(x - lw).toNat]? = some off) (ht : (pc : Int) + off = (tgt : Int)) (kk : J tgt lo st D) : J pc lo (vI x :: st) D := by
  obtain ⟨K, n0, s0, mc, ms, ini, hA, hr1, rfl⟩ := hA
  exact r_tblIn hA hx0 hd h ho ht kk
theorem q_tblOut (hA : AX g l cls cc nL d J) {dflt lw hi : Int} {offs : Array Int} {len tgt : Nat} {x : Int} (hx0 : -2147483648 ≤ x ∧ x ≤ 2147483647) (hd : decode cc pc = .ok (.tableswitch dflt lw hi offs, len)) (h : x < lw ∨ hi < x) (ht : (pc : Int) + dflt = (tgt : Int)) (kk : J tgt lo st D) : J pc lo (vI x :: st) D := by
  obtain ⟨K, n0, s0, mc, ms, ini, hA, hr1, rfl⟩ := hA
  exact r_tblOut hA hx0 hd h ht kk
theorem q_look (hA : AX g l cls cc nL d J) {dflt off x : Int} {ps : Array (Int × Int)} {len tgt : Nat} (hx0 : -2147483648 ≤ x ∧ x ≤ 2147483647) (hd : decode cc pc = .ok (.lookupswitch dflt ps, len)) (hp : (ps.toList.zip (ps.toList.drop 1)).all (fun (a, next) => a.1 < next.1) = true) (ho : Op.lookupswitch.offset ps.toList dflt x = off) (ht : (pc : Int) + off = (tgt : Int)) (kk : J tgt lo st D) : J pc lo (vI x :: st) D := by
  obtain ⟨K, n0, s0, mc, ms, ini, hA, hr1, rfl⟩ := hA
  exact r_look hA hx0 hd hp ho ht kk
theorem q_max (hA : AX g l cls cc nL d J) {idx : Nat} {a b : Int} (hw : MthW cls idx Lib.Math.max.name Lib.Math.max.code 2) (ha : -2147483648 ≤ a ∧ a ≤ 2147483647) (hb0 : -2147483648 ≤ b ∧ b ≤ 2147483647) (hcat : catS st ≤ 8) (hdd : 1 ≤ d) (hd : decode cc pc = .ok (.invokestatic idx, 3)) (kk : J (pc + 3) lo (vI (if a < b then b else a) :: st) D) : J pc lo (vI b :: vI a :: st) D := by
  obtain ⟨K, n0, s0, mc, ms, ini, hA, hr1, rfl⟩ := hA
  exact r_max hA hw ha hb0 hcat hdd hr1 hd kk
theorem q_min (hA : AX g l cls cc nL d J) {idx : Nat} {a b : Int} (hw : MthW cls idx Lib.Math.min.name Lib.Math.min.code 2) (ha : -2147483648 ≤ a ∧ a ≤ 2147483647) (hb0 : -2147483648 ≤ b ∧ b ≤ 2147483647) (hcat : catS st ≤ 8) (hdd : 1 ≤ d) (hd : decode cc pc = .ok (.invokestatic idx, 3)) (kk : J (pc + 3) lo (vI (if b < a then b else a) :: st) D) : J pc lo (vI b :: vI a :: st) D := by
  obtain ⟨K, n0, s0, mc, ms, ini, hA, hr1, rfl⟩ := hA
  exact r_min hA hw ha hb0 hcat hdd hr1 hd kk
theorem q_abs (hA : AX g l cls cc nL d J) {idx : Nat} {a : Int} (hw : MthW cls idx Lib.Math.abs.name Lib.Math.abs.code 1) (ha : -2147483648 ≤ a ∧ a ≤ 2147483647) (hcat : catS st ≤ 8) (hdd : 1 ≤ d) (hd : decode cc pc = .ok (.invokestatic idx, 3)) (kk : J (pc + 3) lo (vI (if 0 ≤ a then a else 0 - a) :: st) D) : J pc lo (vI a :: st) D := by
  obtain ⟨K, n0, s0, mc, ms, ini, hA, hr1, rfl⟩ := hA
  exact r_abs hA hw ha hcat hdd hr1 hd kk
theorem q_copyi (hA : AX g l cls cc nL d J) {idx a0 a k0 k1 : Nat} {sp dp n : Int} (hw : CpW cls idx) (hs0 : Sx[a0]? = some (100, k0)) (hs : Sx[a]? = some (100, k1)) (h0 : 0 ≤ sp ∧ 0 ≤ dp ∧ 0 ≤ n) (h3 : sp + n ≤ k0 ∧ dp + n ≤ k1) (hk : k0 < 20000 ∧ k1 < 20000) (hcat : catS st ≤ 8) (hdd : 1 ≤ d) (hd : decode cc pc = .ok (.invokestatic idx, 3)) (kk : J (pc + 3) lo st (cpD D a0 sp a dp n)) : J pc lo (vI n :: vI dp :: vR a :: vI sp :: vR a0 :: st) D := by
  obtain ⟨K, n0, s0, mc, ms, ini, hA, hr1, rfl⟩ := hA
  exact r_copyi hA hw hs0 hs h0 h3 hk hcat hdd hd kk
theorem q_copyl (hA : AX g l cls cc nL d J) {idx a0 a k0 k1 : Nat} {sp dp n : Int} (hw : CpW cls idx) (hs0 : Sx[a0]? = some (101, k0)) (hs : Sx[a]? = some (101, k1)) (h0 : 0 ≤ sp ∧ 0 ≤ dp ∧ 0 ≤ n) (h3 : sp + n ≤ k0 ∧ dp + n ≤ k1) (hk : k0 < 20000 ∧ k1 < 20000) (hcat : catS st ≤ 8) (hdd : 1 ≤ d) (hd : decode cc pc = .ok (.invokestatic idx, 3)) (kk : J (pc + 3) lo st (cpD D a0 sp a dp n)) : J pc lo (vI n :: vI dp :: vR a :: vI sp :: vR a0 :: st) D := by
  obtain ⟨K, n0, s0, mc, ms, ini, hA, hr1, rfl⟩ := hA
  exact r_copyl hA hw hs0 hs h0 h3 hk hcat hdd hd kk
end JRows
/-- contracts over the layout; what they say of the answer: any, an int, a long, a cell, nothing -/
def Cr (g : Gm) (l : Launch) (d : Nat) (M : Mth) (As : List MV) (D : Dat) (Q : Option MV → Dat → Prop) : Prop := Cn g l d 0 0 M As Sx Fx D (fun r S F D1 => S = Sx ∧ F = Fx ∧ Q r D1)
def CrI (g : Gm) (l : Launch) (d : Nat) (M : Mth) (As : List MV) (D : Dat) (Q : Int → Dat → Prop) : Prop := Cr g l d M As D (fun r D1 => ∃ v, r = some (vI v) ∧ Q v D1)
def CrL (g : Gm) (l : Launch) (d : Nat) (M : Mth) (As : List MV) (D : Dat) (Q : Int → Dat → Prop) : Prop := Cr g l d M As D (fun r D1 => ∃ v, r = some (vL v) ∧ Q v D1)
def CrR (g : Gm) (l : Launch) (d : Nat) (M : Mth) (As : List MV) (D : Dat) (Q : Nat → Dat → Prop) : Prop := Cr g l d M As D (fun r D1 => ∃ v, r = some (vR v) ∧ Q v D1)
def CrV (g : Gm) (l : Launch) (d : Nat) (M : Mth) (As : List MV) (D : Dat) (Q : Dat → Prop) : Prop := Cr g l d M As D (fun r D1 => r = none ∧ Q D1)
/-- a truth told, memory as it was -/
def CrB (g : Gm) (l : Launch) (d : Nat) (M : Mth) (As : List MV) (D : Dat) (P : Prop) : Prop := CrI g l d M As D (fun v D1 => D1 = D ∧ ((P ∧ v = 1) ∨ (¬ P ∧ v = 0)))
/-- a number told, memory as it was -/
def CrP (g : Gm) (l : Launch) (d : Nat) (M : Mth) (As : List MV) (D : Dat) (x : Int) : Prop := CrI g l d M As D (fun v D1 => v = x ∧ D1 = D)
def CrQ (g : Gm) (l : Launch) (d : Nat) (M : Mth) (As : List MV) (D : Dat) (x : Int) : Prop := CrL g l d M As D (fun v D1 => v = x ∧ D1 = D)
section JCalls
variable {g : Gm} {l : Launch} {cls : String} {cc : ByteArray} {nL d : Nat} {J : JT} {pc : Nat} {lo st : List MV} {D : Dat}
theorem q_callV (hA : AX g l cls cc nL d J) {idx d2 n ci b k : Nat} {M : Mth} {As st0 : List MV} {C : String} {T : u_T} {N : Nat} {Qc : Option MV → Dat → Prop} (hL : Lk cls idx M) (hM : MokV M C n) (hC : Cr g l d2 M (vR b :: As) D Qc) (hd : decode cc pc = .ok (.invokevirtual idx, 3)) (hst : As.reverse ++ vR b :: st = st0) (hn : As.length = n) (hs : Sx[b]? = some (ci, k)) (hci : ci < 100) (hcl : vwCl[ci]? = some (C, T, N)) (hcat : catS st ≤ 8) (hdd : d2 + 1 ≤ d) (kk : ∀ (r : Option MV) (D1 : Dat), Qc r D1 → J (pc + 3) lo (r.toList ++ st) D1) : J pc lo st0 D := by
  obtain ⟨K, n0, s0, mc, ms, ini, hA, hr1, rfl⟩ := hA
  exact r_callV hA hL hM hC hd hst hn hs hci hcl hcat hdd hr1 (fun r S1 F1 D1 ⟨e1, e2, e3⟩ => by subst e1; subst e2; exact kk r D1 e3)
theorem q_callS (hA : AX g l cls cc nL d J) {idx d2 n : Nat} {M : Mth} {As st0 : List MV} {Qc : Option MV → Dat → Prop} (hL : Lk cls idx M) (hM : MokS M n) (hC : Cr g l d2 M As D Qc) (hd : decode cc pc = .ok (.invokestatic idx, 3)) (hst : As.reverse ++ st = st0) (hn : As.length = n) (hcat : catS st ≤ 8) (hdd : d2 + 1 ≤ d) (kk : ∀ (r : Option MV) (D1 : Dat), Qc r D1 → J (pc + 3) lo (r.toList ++ st) D1) : J pc lo st0 D := by
  obtain ⟨K, n0, s0, mc, ms, ini, hA, hr1, rfl⟩ := hA
  exact r_callS hA hL hM hC hd hst hn hcat hdd hr1 (fun r S1 F1 D1 ⟨e1, e2, e3⟩ => by subst e1; subst e2; exact kk r D1 e3)
theorem q_callVI (hA : AX g l cls cc nL d J) {idx d2 n ci b k : Nat} {M : Mth} {As st0 : List MV} {C : String} {T : u_T} {N : Nat} {Qc : Int → Dat → Prop} (hL : Lk cls idx M) (hM : MokV M C n) (hC : CrI g l d2 M (vR b :: As) D Qc) (hd : decode cc pc = .ok (.invokevirtual idx, 3)) (hst : As.reverse ++ vR b :: st = st0) (hn : As.length = n) (hs : Sx[b]? = some (ci, k)) (hci : ci < 100) (hcl : vwCl[ci]? = some (C, T, N)) (hcat : catS st ≤ 8) (hdd : d2 + 1 ≤ d) (kk : ∀ (v : Int) (D1 : Dat), Qc v D1 → J (pc + 3) lo (vI v :: st) D1) : J pc lo st0 D :=
  q_callV hA hL hM hC hd hst hn hs hci hcl hcat hdd (fun r D1 ⟨v, e1, e2⟩ => by subst e1; exact kk v D1 e2)
theorem q_callVL (hA : AX g l cls cc nL d J) {idx d2 n ci b k : Nat} {M : Mth} {As st0 : List MV} {C : String} {T : u_T} {N : Nat} {Qc : Int → Dat → Prop} (hL : Lk cls idx M) (hM : MokV M C n) (hC : CrL g l d2 M (vR b :: As) D Qc) (hd : decode cc pc = .ok (.invokevirtual idx, 3)) (hst : As.reverse ++ vR b :: st = st0) (hn : As.length = n) (hs : Sx[b]? = some (ci, k)) (hci : ci < 100) (hcl : vwCl[ci]? = some (C, T, N)) (hcat : catS st ≤ 8) (hdd : d2 + 1 ≤ d) (kk : ∀ (v : Int) (D1 : Dat), Qc v D1 → J (pc + 3) lo (vL v :: st) D1) : J pc lo st0 D :=
  q_callV hA hL hM hC hd hst hn hs hci hcl hcat hdd (fun r D1 ⟨v, e1, e2⟩ => by subst e1; exact kk v D1 e2)
theorem q_callVR (hA : AX g l cls cc nL d J) {idx d2 n ci b k : Nat} {M : Mth} {As st0 : List MV} {C : String} {T : u_T} {N : Nat} {Qc : Nat → Dat → Prop} (hL : Lk cls idx M) (hM : MokV M C n) (hC : CrR g l d2 M (vR b :: As) D Qc) (hd : decode cc pc = .ok (.invokevirtual idx, 3)) (hst : As.reverse ++ vR b :: st = st0) (hn : As.length = n) (hs : Sx[b]? = some (ci, k)) (hci : ci < 100) (hcl : vwCl[ci]? = some (C, T, N)) (hcat : catS st ≤ 8) (hdd : d2 + 1 ≤ d) (kk : ∀ (v : Nat) (D1 : Dat), Qc v D1 → J (pc + 3) lo (vR v :: st) D1) : J pc lo st0 D :=
  q_callV hA hL hM hC hd hst hn hs hci hcl hcat hdd (fun r D1 ⟨v, e1, e2⟩ => by subst e1; exact kk v D1 e2)
theorem q_callVV (hA : AX g l cls cc nL d J) {idx d2 n ci b k : Nat} {M : Mth} {As st0 : List MV} {C : String} {T : u_T} {N : Nat} {Qc : Dat → Prop} (hL : Lk cls idx M) (hM : MokV M C n) (hC : CrV g l d2 M (vR b :: As) D Qc) (hd : decode cc pc = .ok (.invokevirtual idx, 3)) (hst : As.reverse ++ vR b :: st = st0) (hn : As.length = n) (hs : Sx[b]? = some (ci, k)) (hci : ci < 100) (hcl : vwCl[ci]? = some (C, T, N)) (hcat : catS st ≤ 8) (hdd : d2 + 1 ≤ d) (kk : ∀ (D1 : Dat), Qc D1 → J (pc + 3) lo st D1) : J pc lo st0 D :=
  q_callV hA hL hM hC hd hst hn hs hci hcl hcat hdd (fun r D1 ⟨e1, e2⟩ => by subst e1; exact kk D1 e2)
theorem q_callVP (hA : AX g l cls cc nL d J) {idx d2 n ci b k : Nat} {M : Mth} {As st0 : List MV} {C : String} {T : u_T} {N : Nat} {x : Int} (hL : Lk cls idx M) (hM : MokV M C n) (hC : CrP g l d2 M (vR b :: As) D x) (hd : decode cc pc = .ok (.invokevirtual idx, 3)) (hst : As.reverse ++ vR b :: st = st0) (hn : As.length = n) (hs : Sx[b]? = some (ci, k)) (hci : ci < 100) (hcl : vwCl[ci]? = some (C, T, N)) (hcat : catS st ≤ 8) (hdd : d2 + 1 ≤ d) (kk : J (pc + 3) lo (vI x :: st) D) : J pc lo st0 D :=
  q_callV hA hL hM hC hd hst hn hs hci hcl hcat hdd (fun r D1 ⟨v, e1, e2, e3⟩ => by subst e1; subst e2; subst e3; exact kk)
theorem q_callVQ (hA : AX g l cls cc nL d J) {idx d2 n ci b k : Nat} {M : Mth} {As st0 : List MV} {C : String} {T : u_T} {N : Nat} {x : Int} (hL : Lk cls idx M) (hM : MokV M C n) (hC : CrQ g l d2 M (vR b :: As) D x) (hd : decode cc pc = .ok (.invokevirtual idx, 3)) (hst : As.reverse ++ vR b :: st = st0) (hn : As.length = n) (hs : Sx[b]? = some (ci, k)) (hci : ci < 100) (hcl : vwCl[ci]? = some (C, T, N)) (hcat : catS st ≤ 8) (hdd : d2 + 1 ≤ d) (kk : J (pc + 3) lo (vL x :: st) D) : J pc lo st0 D :=
  q_callV hA hL hM hC hd hst hn hs hci hcl hcat hdd (fun r D1 ⟨v, e1, e2, e3⟩ => by subst e1; subst e2; subst e3; exact kk)
theorem q_callVB (hA : AX g l cls cc nL d J) {idx d2 n ci b k : Nat} {M : Mth} {As st0 : List MV} {C : String} {T : u_T} {N : Nat} {P : Prop} (hL : Lk cls idx M) (hM : MokV M C n) (hC : CrB g l d2 M (vR b :: As) D P) (hd : decode cc pc = .ok (.invokevirtual idx, 3)) (hst : As.reverse ++ vR b :: st = st0) (hn : As.length = n) (hs : Sx[b]? = some (ci, k)) (hci : ci < 100) (hcl : vwCl[ci]? = some (C, T, N)) (hcat : catS st ≤ 8) (hdd : d2 + 1 ≤ d) (kt : P → J (pc + 3) lo (vI 1 :: st) D) (kf : ¬ P → J (pc + 3) lo (vI 0 :: st) D) : J pc lo st0 D :=
  q_callV hA hL hM hC hd hst hn hs hci hcl hcat hdd (fun r D1 ⟨v, e1, e2, e3⟩ => by
    subst e1; subst e2
    rcases e3 with ⟨h, rfl⟩ | ⟨h, rfl⟩
    · exact kt h
    · exact kf h)
theorem q_callSI (hA : AX g l cls cc nL d J) {idx d2 n : Nat} {M : Mth} {As st0 : List MV} {Qc : Int → Dat → Prop} (hL : Lk cls idx M) (hM : MokS M n) (hC : CrI g l d2 M As D Qc) (hd : decode cc pc = .ok (.invokestatic idx, 3)) (hst : As.reverse ++ st = st0) (hn : As.length = n) (hcat : catS st ≤ 8) (hdd : d2 + 1 ≤ d) (kk : ∀ (v : Int) (D1 : Dat), Qc v D1 → J (pc + 3) lo (vI v :: st) D1) : J pc lo st0 D :=
  q_callS hA hL hM hC hd hst hn hcat hdd (fun r D1 ⟨v, e1, e2⟩ => by subst e1; exact kk v D1 e2)
theorem q_callSL (hA : AX g l cls cc nL d J) {idx d2 n : Nat} {M : Mth} {As st0 : List MV} {Qc : Int → Dat → Prop} (hL : Lk cls idx M) (hM : MokS M n) (hC : CrL g l d2 M As D Qc) (hd : decode cc pc = .ok (.invokestatic idx, 3)) (hst : As.reverse ++ st = st0) (hn : As.length = n) (hcat : catS st ≤ 8) (hdd : d2 + 1 ≤ d) (kk : ∀ (v : Int) (D1 : Dat), Qc v D1 → J (pc + 3) lo (vL v :: st) D1) : J pc lo st0 D :=
  q_callS hA hL hM hC hd hst hn hcat hdd (fun r D1 ⟨v, e1, e2⟩ => by subst e1; exact kk v D1 e2)
theorem q_callSR (hA : AX g l cls cc nL d J) {idx d2 n : Nat} {M : Mth} {As st0 : List MV} {Qc : Nat → Dat → Prop} (hL : Lk cls idx M) (hM : MokS M n) (hC : CrR g l d2 M As D Qc) (hd : decode cc pc = .ok (.invokestatic idx, 3)) (hst : As.reverse ++ st = st0) (hn : As.length = n) (hcat : catS st ≤ 8) (hdd : d2 + 1 ≤ d) (kk : ∀ (v : Nat) (D1 : Dat), Qc v D1 → J (pc + 3) lo (vR v :: st) D1) : J pc lo st0 D :=
  q_callS hA hL hM hC hd hst hn hcat hdd (fun r D1 ⟨v, e1, e2⟩ => by subst e1; exact kk v D1 e2)
theorem q_callSV (hA : AX g l cls cc nL d J) {idx d2 n : Nat} {M : Mth} {As st0 : List MV} {Qc : Dat → Prop} (hL : Lk cls idx M) (hM : MokS M n) (hC : CrV g l d2 M As D Qc) (hd : decode cc pc = .ok (.invokestatic idx, 3)) (hst : As.reverse ++ st = st0) (hn : As.length = n) (hcat : catS st ≤ 8) (hdd : d2 + 1 ≤ d) (kk : ∀ (D1 : Dat), Qc D1 → J (pc + 3) lo st D1) : J pc lo st0 D :=
  q_callS hA hL hM hC hd hst hn hcat hdd (fun r D1 ⟨e1, e2⟩ => by subst e1; exact kk D1 e2)
theorem q_callSP (hA : AX g l cls cc nL d J) {idx d2 n : Nat} {M : Mth} {As st0 : List MV} {x : Int} (hL : Lk cls idx M) (hM : MokS M n) (hC : CrP g l d2 M As D x) (hd : decode cc pc = .ok (.invokestatic idx, 3)) (hst : As.reverse ++ st = st0) (hn : As.length = n) (hcat : catS st ≤ 8) (hdd : d2 + 1 ≤ d) (kk : J (pc + 3) lo (vI x :: st) D) : J pc lo st0 D :=
  q_callS hA hL hM hC hd hst hn hcat hdd (fun r D1 ⟨v, e1, e2, e3⟩ => by subst e1; subst e2; subst e3; exact kk)
theorem q_callSQ (hA : AX g l cls cc nL d J) {idx d2 n : Nat} {M : Mth} {As st0 : List MV} {x : Int} (hL : Lk cls idx M) (hM : MokS M n) (hC : CrQ g l d2 M As D x) (hd : decode cc pc = .ok (.invokestatic idx, 3)) (hst : As.reverse ++ st = st0) (hn : As.length = n) (hcat : catS st ≤ 8) (hdd : d2 + 1 ≤ d) (kk : J (pc + 3) lo (vL x :: st) D) : J pc lo st0 D :=
  q_callS hA hL hM hC hd hst hn hcat hdd (fun r D1 ⟨v, e1, e2, e3⟩ => by subst e1; subst e2; subst e3; exact kk)
theorem q_callSB (hA : AX g l cls cc nL d J) {idx d2 n : Nat} {M : Mth} {As st0 : List MV} {P : Prop} (hL : Lk cls idx M) (hM : MokS M n) (hC : CrB g l d2 M As D P) (hd : decode cc pc = .ok (.invokestatic idx, 3)) (hst : As.reverse ++ st = st0) (hn : As.length = n) (hcat : catS st ≤ 8) (hdd : d2 + 1 ≤ d) (kt : P → J (pc + 3) lo (vI 1 :: st) D) (kf : ¬ P → J (pc + 3) lo (vI 0 :: st) D) : J pc lo st0 D :=
  q_callS hA hL hM hC hd hst hn hcat hdd (fun r D1 ⟨v, e1, e2, e3⟩ => by
    subst e1; subst e2
    rcases e3 with ⟨h, rfl⟩ | ⟨h, rfl⟩
    · exact kt h
    · exact kf h)
end JCalls
/-- ends of a method over the layout -/
def ReI (cc : ByteArray) (Q : Int → Dat → Prop) (J : JT) : Prop := ∀ (pc : Nat) (lo : List MV) (v : Int) (D1 : Dat), decode cc pc = .ok (.ireturn, 1) → Q v D1 → J pc lo [vI v] D1
def ReZ (cc : ByteArray) (Q : Int → Dat → Prop) (J : JT) : Prop := ∀ (pc : Nat) (lo : List MV) (v : Int) (D1 : Dat), decode cc pc = .ok (.ireturn, 1) → (v = 0 ∨ v = 1) → Q v D1 → J pc lo [vI v] D1
def ReL (cc : ByteArray) (Q : Int → Dat → Prop) (J : JT) : Prop := ∀ (pc : Nat) (lo : List MV) (v : Int) (D1 : Dat), decode cc pc = .ok (.lreturn, 1) → Q v D1 → J pc lo [vL v] D1
def ReR (cc : ByteArray) (Q : Nat → Dat → Prop) (J : JT) : Prop := ∀ (pc : Nat) (lo : List MV) (v : Nat) (D1 : Dat), decode cc pc = .ok (.areturn, 1) → Q v D1 → J pc lo [vR v] D1
def ReV (cc : ByteArray) (Q : Dat → Prop) (J : JT) : Prop := ∀ (pc : Nat) (lo : List MV) (D1 : Dat), decode cc pc = .ok (.return_, 1) → Q D1 → J pc lo [] D1
section JEnds
variable {g : Gm} {l : Launch} {d nL : Nat} {y : MethodName} {cc : ByteArray} {As lo0 : List MV} {D : Dat}
theorem Cr.ofI {Q : Int → Dat → Prop} (hpl : plainName y.cls = true) (hen : (entA As).length ≤ nL) (hlo : entL As nL = lo0)
    (h : ∀ J : JT, AX g l y.cls cc nL d J → ReI cc Q J → J 0 lo0 [] D) : CrI g l d (y, cc, nL, some .int) As D Q := by
  subst hlo
  refine Cn.ofI hpl hen (fun K hA hR => ?_)
  exact h (fun pc lo st D => K pc lo st Sx Fx D) ⟨K, _, _, 0, 0, _, hA, ⟨by omega, by omega⟩, rfl⟩ (fun pc lo v D1 hd hq => hR pc lo v Sx Fx D1 hd ⟨rfl, rfl, v, rfl, hq⟩ (Nat.add_zero _).symm (Nat.add_zero _).symm)
theorem Cr.ofZ {Q : Int → Dat → Prop} (hpl : plainName y.cls = true) (hen : (entA As).length ≤ nL) (hlo : entL As nL = lo0)
    (h : ∀ J : JT, AX g l y.cls cc nL d J → ReZ cc Q J → J 0 lo0 [] D) : CrI g l d (y, cc, nL, some .boolean) As D Q := by
  subst hlo
  refine Cn.ofZ hpl hen (fun K hA hR => ?_)
  exact h (fun pc lo st D => K pc lo st Sx Fx D) ⟨K, _, _, 0, 0, _, hA, ⟨by omega, by omega⟩, rfl⟩ (fun pc lo v D1 hd h01 hq => hR pc lo v Sx Fx D1 hd h01 ⟨rfl, rfl, v, rfl, hq⟩ (Nat.add_zero _).symm (Nat.add_zero _).symm)
theorem Cr.ofL {Q : Int → Dat → Prop} (hpl : plainName y.cls = true) (hen : (entA As).length ≤ nL) (hlo : entL As nL = lo0)
    (h : ∀ J : JT, AX g l y.cls cc nL d J → ReL cc Q J → J 0 lo0 [] D) : CrL g l d (y, cc, nL, some .long) As D Q := by
  subst hlo
  refine Cn.ofL hpl hen (fun K hA hR => ?_)
  exact h (fun pc lo st D => K pc lo st Sx Fx D) ⟨K, _, _, 0, 0, _, hA, ⟨by omega, by omega⟩, rfl⟩ (fun pc lo v D1 hd hq => hR pc lo v Sx Fx D1 hd ⟨rfl, rfl, v, rfl, hq⟩ (Nat.add_zero _).symm (Nat.add_zero _).symm)
theorem Cr.ofV {Q : Dat → Prop} (hpl : plainName y.cls = true) (hen : (entA As).length ≤ nL) (hlo : entL As nL = lo0)
    (h : ∀ J : JT, AX g l y.cls cc nL d J → ReV cc Q J → J 0 lo0 [] D) : CrV g l d (y, cc, nL, none) As D Q := by
  subst hlo
  refine Cn.ofV hpl hen (fun K hA hR => ?_)
  exact h (fun pc lo st D => K pc lo st Sx Fx D) ⟨K, _, _, 0, 0, _, hA, ⟨by omega, by omega⟩, rfl⟩ (fun pc lo D1 hd hq => hR pc lo Sx Fx D1 hd ⟨rfl, rfl, rfl, hq⟩ (Nat.add_zero _).symm (Nat.add_zero _).symm)
theorem Cr.ofA {Q : Nat → Dat → Prop} (hpl : plainName y.cls = true) (hen : (entA As).length ≤ nL) (hlo : entL As nL = lo0)
    (h : ∀ J : JT, AX g l y.cls cc nL d J → ReR cc Q J → J 0 lo0 [] D) : CrR g l d (y, cc, nL, some (.object RX7)) As D Q := by
  subst hlo
  refine Cn.ofA (Or.inl ⟨_, rfl⟩) hpl hen (fun K hA hR => ?_)
  exact h (fun pc lo st D => K pc lo st Sx Fx D) ⟨K, _, _, 0, 0, _, hA, ⟨by omega, by omega⟩, rfl⟩ (fun pc lo v D1 hd hq => hR pc lo v Sx Fx D1 hd ⟨rfl, rfl, v, rfl, hq⟩ (Nat.add_zero _).symm (Nat.add_zero _).symm)
end JEnds
