/-! the making: cells in their order, references in theirs -/
def WL : List (Nat × Nat × Nat) := [(1, 0, 2), (0, 0, 1), (4, 0, 5), (4, 1, 6), (4, 2, 7), (4, 3, 8), (4, 4, 9), (4, 5, 10), (3, 0, 4), (0, 1, 3), (11, 0, 12), (11, 1, 13), (11, 2, 14), (11, 3, 15), (11, 4, 16), (11, 5, 17), (0, 2, 11), (18, 0, 19), (20, 0, 21), (20, 1, 22), (20, 2, 23), (20, 3, 24), (20, 4, 25), (20, 5, 26), (19, 0, 20), (27, 0, 28), (27, 1, 29), (27, 2, 30), (27, 3, 31), (27, 4, 32), (27, 5, 33), (19, 1, 27), (34, 0, 35), (34, 1, 36), (34, 2, 37), (34, 3, 38), (34, 4, 39), (34, 5, 40), (19, 2, 34), (41, 0, 42), (41, 1, 43), (41, 2, 44), (41, 3, 45), (41, 4, 46), (41, 5, 47), (19, 3, 41), (48, 0, 49), (48, 1, 50), (48, 2, 51), (48, 3, 52), (48, 4, 53), (48, 5, 54), (19, 4, 48), (55, 0, 56), (55, 1, 57), (55, 2, 58), (55, 3, 59), (55, 4, 60), (55, 5, 61), (19, 5, 55), (62, 0, 63), (62, 1, 64), (62, 2, 65), (62, 3, 66), (62, 4, 67), (62, 5, 68), (19, 6, 62), (69, 0, 70), (69, 1, 71), (69, 2, 72), (69, 3, 73), (69, 4, 74), (69, 5, 75), (19, 7, 69), (76, 0, 77), (76, 1, 78), (76, 2, 79), (76, 3, 80), (76, 4, 81), (76, 5, 82), (19, 8, 76), (83, 0, 84), (83, 1, 85), (83, 2, 86), (83, 3, 87), (83, 4, 88), (83, 5, 89), (19, 9, 83), (90, 0, 91), (90, 1, 92), (90, 2, 93), (90, 3, 94), (90, 4, 95), (90, 5, 96), (19, 10, 90), (97, 0, 98), (97, 1, 99), (97, 2, 100), (97, 3, 101), (97, 4, 102), (97, 5, 103), (19, 11, 97), (104, 0, 105), (104, 1, 106), (104, 2, 107), (104, 3, 108), (104, 4, 109), (104, 5, 110), (19, 12, 104), (111, 0, 112), (111, 1, 113), (111, 2, 114), (111, 3, 115), (111, 4, 116), (111, 5, 117), (19, 13, 111), (118, 0, 119), (118, 1, 120), (118, 2, 121), (118, 3, 122), (118, 4, 123), (118, 5, 124), (19, 14, 118), (125, 0, 126), (125, 1, 127), (125, 2, 128), (125, 3, 129), (125, 4, 130), (125, 5, 131), (19, 15, 125), (132, 0, 133), (132, 1, 134), (132, 2, 135), (132, 3, 136), (132, 4, 137), (132, 5, 138), (19, 16, 132), (139, 0, 140), (139, 1, 141), (139, 2, 142), (139, 3, 143), (139, 4, 144), (139, 5, 145), (19, 17, 139), (146, 0, 147), (146, 1, 148), (146, 2, 149), (146, 3, 150), (146, 4, 151), (146, 5, 152), (19, 18, 146), (153, 0, 154), (153, 1, 155), (153, 2, 156), (153, 3, 157), (153, 4, 158), (153, 5, 159), (19, 19, 153), (160, 0, 161), (160, 1, 162), (160, 2, 163), (160, 3, 164), (160, 4, 165), (160, 5, 166), (19, 20, 160), (167, 0, 168), (167, 1, 169), (167, 2, 170), (167, 3, 171), (167, 4, 172), (167, 5, 173), (19, 21, 167), (174, 0, 175), (174, 1, 176), (174, 2, 177), (174, 3, 178), (174, 4, 179), (174, 5, 180), (19, 22, 174), (181, 0, 182), (181, 1, 183), (181, 2, 184), (181, 3, 185), (181, 4, 186), (181, 5, 187), (19, 23, 181), (0, 3, 18), (0, 4, 188), (0, 5, 189), (190, 0, 191), (190, 1, 192), (190, 2, 193), (190, 3, 194), (190, 4, 195), (0, 6, 190), (196, 0, 197), (198, 0, 199), (198, 1, 200), (198, 2, 201), (198, 3, 202), (198, 4, 203), (198, 5, 204), (197, 0, 198), (205, 0, 206), (205, 1, 207), (205, 2, 208), (205, 3, 209), (205, 4, 210), (205, 5, 211), (197, 1, 205), (212, 0, 213), (212, 1, 214), (212, 2, 215), (212, 3, 216), (212, 4, 217), (212, 5, 218), (197, 2, 212), (219, 0, 220), (219, 1, 221), (219, 2, 222), (219, 3, 223), (219, 4, 224), (219, 5, 225), (197, 3, 219), (226, 0, 227), (226, 1, 228), (226, 2, 229), (226, 3, 230), (226, 4, 231), (226, 5, 232), (197, 4, 226), (233, 0, 234), (233, 1, 235), (233, 2, 236), (233, 3, 237), (233, 4, 238), (233, 5, 239), (197, 5, 233), (240, 0, 241), (240, 1, 242), (240, 2, 243), (240, 3, 244), (240, 4, 245), (240, 5, 246), (197, 6, 240), (0, 7, 196), (248, 0, 249), (248, 1, 250), (248, 2, 251), (248, 3, 252), (248, 4, 253), (248, 5, 254), (247, 0, 248), (247, 1, 255), (247, 2, 256), (247, 3, 257), (247, 4, 258), (247, 5, 259), (247, 6, 260), (0, 8, 247), (261, 0, 262), (261, 1, 263), (261, 2, 264), (261, 3, 265), (261, 4, 266), (261, 5, 267), (188, 0, 261), (268, 0, 269), (268, 1, 270), (268, 2, 271), (268, 3, 272), (268, 4, 273), (268, 5, 274), (188, 1, 268), (275, 0, 276), (189, 0, 275), (277, 0, 278), (189, 1, 277), (279, 0, 280), (189, 2, 279), (281, 0, 282), (189, 3, 281), (283, 0, 284), (283, 1, 285), (283, 4, 286), (283, 5, 287), (283, 7, 288), (283, 8, 289), (283, 9, 290), (283, 10, 291), (283, 11, 292), (283, 12, 293), (283, 14, 294), (283, 15, 295), (283, 16, 296), (283, 17, 297), (283, 18, 298), (283, 19, 299), (283, 21, 300), (283, 22, 301), (283, 23, 302), (283, 24, 303), (283, 25, 304)]
def wAt (t : Nat) : Nat × Nat × Nat := WL.getD t (999, 0, 0)
def wF : Nat → Rfs
  | 0 => fun _ _ => none
  | t + 1 => upF (wF t) (wAt t).1 (wAt t).2.1 (some (wAt t).2.2)
def wfr (t c : Nat) : Bool := (List.range t).all (fun i => !(Nat.beq (wAt i).1 c))
theorem wfr_n {c : Nat} : ∀ {t : Nat}, wfr t c = true → ∀ k, wF t c k = none
  | 0, _, k => rfl
  | t + 1, h, k => by
    have h1 := List.all_eq_true.mp h
    have h2 : wfr t c = true := List.all_eq_true.mpr (fun i hi => h1 i (List.mem_range.mpr (by have := List.mem_range.mp hi; omega)))
    have h3 := h1 t (List.mem_range.mpr (by omega))
    rw [wF, upF_other]
    · exact wfr_n h2 k
    · intro e
      rw [← e] at h3
      rw [Nat.beq_refl] at h3
      cases h3
theorem Sx_len : Sx.length = 305 := by decide +kernel
theorem tk_len {c : Nat} (h : c ≤ 305) : (Sx.take c).length = c := by
  rw [List.length_take, Sx_len]; omega
theorem tk_s {c : Nat} {x : Nat × Nat} (h : Sx[c]? = some x) : Sx.take c ++ [x] = Sx.take (c + 1) := by
  rw [List.take_add_one, h]; rfl
theorem tk_lt {c : Nat} {x : Nat × Nat} (h : Sx[c]? = some x) : c < 305 := by
  rcases Nat.lt_or_ge c 305 with q | q
  · exact q
  · rw [List.getElem?_eq_none (by rw [Sx_len]; exact q)] at h; cases h
theorem tk_at {a c : Nat} (h : a < c) : (Sx.take c)[a]? = Sx[a]? := List.getElem?_take_of_lt h
theorem tk_sz {c : Nat} {x : Nat × Nat} (h : Sx[c]? = some x) : szS (Sx.take (c + 1)) = szS (Sx.take c) + x.2 := by
  rw [← tk_s h, szS_app]
theorem tk_mono {c : Nat} : ∀ d, szS (Sx.take c) ≤ szS (Sx.take (c + d))
  | 0 => Nat.le_refl _
  | d + 1 => by
    have := tk_mono (c := c) d
    cases q : Sx[c + d]? with
    | none => rw [show c + (d + 1) = c + d + 1 from rfl, List.take_add_one, q]; simpa using this
    | some x => rw [show c + (d + 1) = c + d + 1 from rfl, tk_sz q]; omega
theorem tk_le {c e : Nat} (h : c ≤ e) : szS (Sx.take c) ≤ szS (Sx.take e) := by
  have := tk_mono (c := c) (e - c)
  rw [show c + (e - c) = e by omega] at this
  exact this
def YA (g : Gm) (l : Launch) (cls : String) (cc : ByteArray) (nL d n0 e : Nat) (K : KT) : Prop := ∃ ini : Prop, ini ∧ Act g l cls cc nL d n0 (szS (Sx.take n0)) (e - n0) (szS (Sx.take e) - szS (Sx.take n0)) ini K
/-- the contract of a constructor: from c cells and t references to e cells and u references -/
def CnI (g : Gm) (l : Launch) (d : Nat) (M : Mth) (a c e t u : Nat) (D D2 : Dat) : Prop := Cn g l d (e - c) (szS (Sx.take e) - szS (Sx.take c)) M [vR a] (Sx.take c) (wF t) D (fun r S F D1 => r = none ∧ S = Sx.take e ∧ F = wF u ∧ D1 = D2)
def ReN (cc : ByteArray) (e u : Nat) (D2 : Dat) (K : KT) : Prop := ∀ (pc : Nat) (lo : List MV), decode cc pc = .ok (.return_, 1) → K pc lo [] (Sx.take e) (wF u) D2
theorem CnI.of {g : Gm} {l : Launch} {d nL a c e t u : Nat} {y : MethodName} {cc : ByteArray} {D D2 : Dat} {lo0 : List MV} (hy : y.name = "<init>") (hpl : plainName y.cls = true) (hen : (entA [vR a]).length ≤ nL) (hlo : entL [vR a] nL = lo0) (hc : c ≤ e ∧ e ≤ 305) (h : ∀ K : KT, YA g l y.cls cc nL d c e K → ReN cc e u D2 K → K 0 lo0 [] (Sx.take c) (wF t) D) : CnI g l d (y, cc, nL, none) a c e t u D D2 := by
  subst hlo
  refine Cn.ofV hpl hen (fun K hA hR => ?_)
  rw [tk_len (by omega)] at hA
  refine h K ⟨_, hy, hA⟩ (fun pc lo hd => hR pc lo (Sx.take e) (wF u) D2 hd ⟨rfl, rfl, rfl, rfl⟩ ?_ ?_)
  · rw [tk_len hc.2, tk_len (by omega)]; omega
  · have := tk_le hc.1; omega
section YRows
variable {g : Gm} {l : Launch} {cls : String} {cc : ByteArray} {nL d n0 e : Nat} {K : KT} {pc c t : Nat} {lo st : List MV} {D : Dat}
theorem y_room {n : Nat} {k : Nat} (hx : Sx[c]? = some (k, n)) (hc : n0 ≤ c ∧ c < e) : (Sx.take c).length - n0 + 1 ≤ e - n0 ∧ szS (Sx.take c) - szS (Sx.take n0) + n ≤ szS (Sx.take e) - szS (Sx.take n0) := by
  have h1 := tk_lt hx
  have h2 := tk_sz hx
  have h3 := tk_le hc.1
  have h4 := tk_le (show c + 1 ≤ e from hc.2)
  rw [tk_len (by omega)]
  dsimp at h2
  omega
theorem y_fresh (hx : c < 305) (hf : wfr t c = true) (hD : ∀ i, D c i = 0) : freshAt (wF t) D (Sx.take c).length := by
  rw [tk_len (by omega)]
  exact ⟨wfr_n hf, hD⟩
theorem y_newaI (hA : YA g l cls cc nL d n0 e K) {n : Nat} (hx : Sx[c]? = some (100, n)) (hn : n < 20000) (hc : n0 ≤ c ∧ c < e) (hf : wfr t c = true) (hD : ∀ i, D c i = 0) (hd : decode cc pc = .ok (.newarray .int, 2)) (kk : K (pc + 2) lo (vR c :: st) (Sx.take (c + 1)) (wF t) D) : K pc lo (vI n :: st) (Sx.take c) (wF t) D := by
  obtain ⟨ini, hi, hA⟩ := hA
  have h1 := tk_lt hx
  refine r_newaI hA hn ac_int (y_fresh h1 hf hD) (y_room hx hc) hd ?_
  rw [tk_len (by omega), tk_s hx]; exact kk
theorem y_newaL (hA : YA g l cls cc nL d n0 e K) {n : Nat} (hx : Sx[c]? = some (101, n)) (hn : n < 20000) (hc : n0 ≤ c ∧ c < e) (hf : wfr t c = true) (hD : ∀ i, D c i = 0) (hd : decode cc pc = .ok (.newarray .long, 2)) (kk : K (pc + 2) lo (vR c :: st) (Sx.take (c + 1)) (wF t) D) : K pc lo (vI n :: st) (Sx.take c) (wF t) D := by
  obtain ⟨ini, hi, hA⟩ := hA
  have h1 := tk_lt hx
  refine r_newaL hA hn ac_long (y_fresh h1 hf hD) (y_room hx hc) hd ?_
  rw [tk_len (by omega), tk_s hx]; exact kk
theorem y_newaZ (hA : YA g l cls cc nL d n0 e K) {n : Nat} (hx : Sx[c]? = some (102, n)) (hn : n < 20000) (hc : n0 ≤ c ∧ c < e) (hf : wfr t c = true) (hD : ∀ i, D c i = 0) (hd : decode cc pc = .ok (.newarray .boolean, 2)) (kk : K (pc + 2) lo (vR c :: st) (Sx.take (c + 1)) (wF t) D) : K pc lo (vI n :: st) (Sx.take c) (wF t) D := by
  obtain ⟨ini, hi, hA⟩ := hA
  have h1 := tk_lt hx
  refine r_newaZ hA hn ac_boolean (y_fresh h1 hf hD) (y_room hx hc) hd ?_
  rw [tk_len (by omega), tk_s hx]; exact kk
theorem y_anewS (hA : YA g l cls cc nL d n0 e K) {idx n : Nat} (hw : Cond.classLink cls idx RX7 ∈ Wd) (hx : Sx[c]? = some (103, n)) (hn : n < 20000) (hc : n0 ≤ c ∧ c < e) (hf : wfr t c = true) (hD : ∀ i, D c i = 0) (hd : decode cc pc = .ok (.anewarray idx, 3)) (kk : K (pc + 3) lo (vR c :: st) (Sx.take (c + 1)) (wF t) D) : K pc lo (vI n :: st) (Sx.take c) (wF t) D := by
  obtain ⟨ini, hi, hA⟩ := hA
  have h1 := tk_lt hx
  refine r_anewS hA hn hw (y_fresh h1 hf hD) (y_room hx hc) hd ?_
  rw [tk_len (by omega), tk_s hx]; exact kk
theorem y_anewH (hA : YA g l cls cc nL d n0 e K) {idx n : Nat} (hw : Cond.classLink cls idx RX6 ∈ Wd) (hx : Sx[c]? = some (104, n)) (hn : n < 20000) (hc : n0 ≤ c ∧ c < e) (hf : wfr t c = true) (hD : ∀ i, D c i = 0) (hd : decode cc pc = .ok (.anewarray idx, 3)) (kk : K (pc + 3) lo (vR c :: st) (Sx.take (c + 1)) (wF t) D) : K pc lo (vI n :: st) (Sx.take c) (wF t) D := by
  obtain ⟨ini, hi, hA⟩ := hA
  have h1 := tk_lt hx
  refine r_anewH hA hn hw (y_fresh h1 hf hD) (y_room hx hc) hd ?_
  rw [tk_len (by omega), tk_s hx]; exact kk
theorem y_new (hA : YA g l cls cc nL d n0 e K) {idx ci N : Nat} {C : String} {T : u_T} {ty : Nat → FieldType} (hcl : vwCl[ci]? = some (C, T, N)) (hci : ci < 100) (hck : CK C T N) (hw : Cond.classLink cls idx C ∈ Wd) (hw2 : Cond.instantiable C N ∈ Wd ∧ Cond.initialized C ∈ Wd) (hty : ∀ k, k < N → parseFieldDescriptor (T k).2.2.1 = some (ty k)) (hdef : ∀ k, k < N → defaultValue (ty k) = if isR ci k then .null else .int 0) (hx : Sx[c]? = some (ci, N)) (hc : n0 ≤ c ∧ c < e) (hf : wfr t c = true) (hD : ∀ i, D c i = 0) (hd : decode cc pc = .ok (.new idx, 3)) (kk : K (pc + 3) lo (vR c :: st) (Sx.take (c + 1)) (wF t) D) : K pc lo st (Sx.take c) (wF t) D := by
  obtain ⟨ini, hi, hA⟩ := hA
  have h1 := tk_lt hx
  refine r_new hA hcl hci ⟨hck.1, hw, hw2.1, hw2.2⟩ hty hdef (y_fresh h1 hf hD) (y_room hx hc) hd ?_
  rw [tk_len (by omega), tk_s hx]; exact kk
theorem y_putR (hA : YA g l cls cc nL d n0 e K) {idx ci k n a b : Nat} {ty : FieldType} (hF : Fl cls idx ci k ty true) (hty2 : ∀ z : Nat, narrow ty (.ref z) = .ref z ∧ fits ty (.ref z) = true) (hown2 : ∀ (C : String) (T : u_T) (N : Nat), vwCl[ci]? = some (C, T, N) → Cond.fieldLink cls idx (T k).1 (T k).2.1 (T k).2.2.1 ∈ Wd ∧ (T k).1 = cls) (hx : Sx[a]? = some (ci, n)) (ha : a < c) (hci : ci < 100 ∧ k < n ∧ isR ci k = true) (hw : wAt t = (a, k, b)) (hd : decode cc pc = .ok (.putfield idx, 3)) (kk : K (pc + 3) lo st (Sx.take c) (wF (t + 1)) D) : K pc lo (vR b :: vR a :: st) (Sx.take c) (wF t) D := by
  obtain ⟨ini, hi, hA⟩ := hA
  refine r_putR hA hi hF hty2 hown2 hd (by rw [tk_at ha]; exact hx) hci ?_
  rw [wF, hw] at kk
  exact kk
theorem y_putI (hA : YA g l cls cc nL d n0 e K) {idx ci k n a : Nat} {x : Int} (hF : Fl cls idx ci k .int false) (hx : Sx[a]? = some (ci, n)) (ha : a < c) (hci : ci < 100 ∧ k < n ∧ isR ci k = false) (hd : decode cc pc = .ok (.putfield idx, 3)) (kk : K (pc + 3) lo st (Sx.take c) (wF t) (upD D a k x)) : K pc lo (vI x :: vR a :: st) (Sx.take c) (wF t) D := by
  obtain ⟨ini, hi, hA⟩ := hA
  exact r_putI hA hF hd (by rw [tk_at ha]; exact hx) hci kk
theorem y_getR (hA : YA g l cls cc nL d n0 e K) {idx ci k n a b : Nat} {ty : FieldType} {fin : Bool} (hF : Fl cls idx ci k ty fin) (hx : Sx[a]? = some (ci, n)) (ha : a < c) (hci : ci < 100 ∧ k < n ∧ isR ci k = true) (hv : wF t a k = some b) (hd : decode cc pc = .ok (.getfield idx, 3)) (kk : K (pc + 3) lo (vR b :: st) (Sx.take c) (wF t) D) : K pc lo (vR a :: st) (Sx.take c) (wF t) D := by
  obtain ⟨ini, hi, hA⟩ := hA
  exact r_getR hA hF hd (by rw [tk_at ha]; exact hx) hci hv kk
theorem y_aastS (hA : YA g l cls cc nL d n0 e K) {n a b k i : Nat} (hx : Sx[a]? = some (103, n)) (ha : a < c) (hy : Sx[b]? = some (6, k)) (hb : b < c) (hi : i < n) (hn : n < 20000) (hw : wAt t = (a, i, b)) (hd : decode cc pc = .ok (.aastore, 1)) (kk : K (pc + 1) lo st (Sx.take c) (wF (t + 1)) D) : K pc lo (vR b :: vI (i : Int) :: vR a :: st) (Sx.take c) (wF t) D := by
  obtain ⟨ini, _, hA⟩ := hA
  refine r_aastS hA hd (by rw [tk_at ha]; exact hx) (by rw [tk_at hb]; exact hy) hi hn ?_
  rw [wF, hw] at kk
  exact kk
theorem y_aastH (hA : YA g l cls cc nL d n0 e K) {n a b k i : Nat} (hx : Sx[a]? = some (104, n)) (ha : a < c) (hy : Sx[b]? = some (5, k)) (hb : b < c) (hi : i < n) (hn : n < 20000) (hw : wAt t = (a, i, b)) (hd : decode cc pc = .ok (.aastore, 1)) (kk : K (pc + 1) lo st (Sx.take c) (wF (t + 1)) D) : K pc lo (vR b :: vI (i : Int) :: vR a :: st) (Sx.take c) (wF t) D := by
  obtain ⟨ini, _, hA⟩ := hA
  refine r_aastH hA hd (by rw [tk_at ha]; exact hx) (by rw [tk_at hb]; exact hy) hi hn ?_
  rw [wF, hw] at kk
  exact kk
theorem y_callI (hA : YA g l cls cc nL d n0 e K) {idx d2 b e2 u : Nat} {M : Mth} {D2 : Dat} (hL : Lk cls idx M) (hM : MokI M 0) (hC : CnI g l d2 M b c e2 t u D D2) (hd : decode cc pc = .ok (.invokespecial idx, 3)) (hcat : catS st ≤ 8) (hdd : d2 + 1 ≤ d) (hc : n0 ≤ c ∧ c ≤ e2 ∧ e2 ≤ e ∧ e ≤ 305) (kk : K (pc + 3) lo st (Sx.take e2) (wF u) D2) : K pc lo (vR b :: st) (Sx.take c) (wF t) D := by
  obtain ⟨ini, hi, hA⟩ := hA
  refine r_callI hA hL hM hC hd rfl rfl hcat hdd ?_ (fun r S1 F1 D1 h => ?_)
  · have h1 := tk_le hc.1
    have h2 := tk_le hc.2.1
    have h3 := tk_le hc.2.2.1
    rw [tk_len (by omega)]
    omega
  · obtain ⟨e1, e2, e3, e4⟩ := h
    subst e1; subst e2; subst e3; subst e4
    exact kk
theorem YA.a (hA : YA g l cls cc nL d n0 e K) : ∃ s0 mc ms ini, Act g l cls cc nL d n0 s0 mc ms ini K := by
  obtain ⟨ini, hi, hA⟩ := hA
  exact ⟨_, _, _, _, hA⟩
end YRows
