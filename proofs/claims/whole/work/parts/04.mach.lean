/-! my own machine layer: one memory of numbered cells for the whole run, whole numbers instead of words -/
abbrev MV : Type := Int ⊕ Int ⊕ Nat ⊕ Nat ⊕ Unit
abbrev vI (x : Int) : MV := .inl x
abbrev vL (x : Int) : MV := .inr (.inl x)
abbrev vR (k : Nat) : MV := .inr (.inr (.inl k))
abbrev vZ (a : Nat) : MV := .inr (.inr (.inr (.inl a)))
abbrev vN : MV := .inr (.inr (.inr (.inr ())))
def vv (h : Nat) : MV → Value
  | .inl x => .int (Int32.ofInt x)
  | .inr (.inl x) => .long (Int64.ofInt x)
  | .inr (.inr (.inl k)) => .ref (h + k)
  | .inr (.inr (.inr (.inl a))) => .ref a
  | .inr (.inr (.inr (.inr _))) => .null
abbrev Shp : Type := List (Nat × Nat)
abbrev Rfs : Type := Nat → Nat → Option Nat
abbrev Dat : Type := Nat → Int → Int
/-- what the run rests on: the first new cell's address; classes; array classes; the read-only rows: three static ones and the script -/
abbrev Gm : Type := Nat × va_G × (Nat → ClassId) × (Nat → Nat) × (Nat × Nat × (Nat → Int))
abbrev gH (g : Gm) : Nat := g.1
abbrev gD (g : Gm) : va_G := g.2.1
abbrev gC (g : Gm) : Nat → ClassId := g.2.2.1
abbrev gA (g : Gm) : Nat → Nat := g.2.2.2.1
abbrev gX (g : Gm) : Nat × Nat × (Nat → Int) := g.2.2.2.2
abbrev gTy (g : Gm) : List (ClassId × FieldType) := [(gC g 0, .int), (gC g 1, .long), (gC g 2, .boolean), (gC g 3, .object RX7), (gC g 4, .object RX6)]
abbrev gFr (g : Gm) : Nat → Prop := fun q => gH g ≤ q
/-- which fields are references -/
def isR (c k : Nat) : Bool :=
  match c with
  | 0 => decide (k < 7)
  | 1 => true
  | 2 => decide (k < 1)
  | 3 => decide (k < 5)
  | 4 => decide (k < 1)
  | 5 => decide (k < 1)
  | 6 => decide (k < 6)
  | 7 => decide (k < 1)
  | 8 => true
  | _ => !([2, 3, 6, 13, 20].contains k)
def rfv (h : Nat) : Option Nat → Value
  | none => .null
  | some b => .ref (h + b)
def clE (g : Gm) (sh : Nat × Nat) (Fj : Nat → Option Nat) (Dj : Int → Int) : va_E :=
  if sh.1 = 100 then .inl (gC g 0, sh.2, .inl (fun i => Int32.ofInt (Dj i)))
  else if sh.1 = 101 then .inl (gC g 1, sh.2, .inr (.inl (fun i => Int64.ofInt (Dj i))))
  else if sh.1 = 102 then .inl (gC g 2, sh.2, .inl (fun i => Int32.ofInt (Dj i)))
  else if sh.1 = 103 then .inl (gC g 3, sh.2, .inr (.inr (.inr (.inr (fun i => (Fj i).map (gH g + ·))))))
  else if sh.1 = 104 then .inl (gC g 4, sh.2, .inr (.inr (.inr (.inr (fun i => (Fj i).map (gH g + ·))))))
  else .inr (sh.1, (List.range sh.2).map (fun k => if isR sh.1 k then rfv (gH g) (Fj k) else .int (Int32.ofInt (Dj k))))
def wsF (g : Gm) : Shp → Nat → Rfs → Dat → va_W
  | [], _, _, _ => []
  | sh :: S, n, F, D => (gH g + n, clE g sh (F n) (D n)) :: wsF g S (n + 1) F D
def wsO (g : Gm) (S : Shp) (F : Rfs) (D : Dat) : va_W := wsF g S 0 F D
theorem wsF_get (g : Gm) (F : Rfs) (D : Dat) : ∀ (S : Shp) (n k : Nat), (wsF g S n F D)[k]? = (S[k]?).map (fun sh => (gH g + (n + k), clE g sh (F (n + k)) (D (n + k))))
  | [], n, k => by simp [wsF]
  | sh :: S, n, 0 => by simp [wsF]
  | sh :: S, n, k + 1 => by
    rw [wsF, List.getElem?_cons_succ, List.getElem?_cons_succ, wsF_get g F D S (n + 1) k]
    rw [show n + 1 + k = n + (k + 1) by omega]
theorem wsO_get {g : Gm} {S : Shp} {F : Rfs} {D : Dat} {k : Nat} {sh : Nat × Nat} (h : S[k]? = some sh) : (wsO g S F D)[k]? = some (gH g + k, clE g sh (F k) (D k)) := by
  rw [wsO, wsF_get, h]; simp
theorem wsO_inv {g : Gm} {S : Shp} {F : Rfs} {D : Dat} {k : Nat} {q : Nat × va_E} (h : (wsO g S F D)[k]? = some q) : ∃ sh, S[k]? = some sh ∧ q = (gH g + k, clE g sh (F k) (D k)) := by
  rw [wsO, wsF_get] at h
  cases hs : S[k]? with
  | none => rw [hs] at h; cases h
  | some sh => rw [hs] at h; refine ⟨sh, rfl, ?_⟩; simp at h; exact h.symm
theorem wsO_len (g : Gm) (S : Shp) (F : Rfs) (D : Dat) : (wsO g S F D).length = S.length := by
  have : ∀ (S : Shp) (n : Nat), (wsF g S n F D).length = S.length := by
    intro S
    induction S with
    | nil => intro n; rfl
    | cons a S ih => intro n; simp [wsF, ih]
  exact this S 0
theorem wsO_D (g : Gm) (S : Shp) (F : Rfs) (D : Dat) : va_D (gFr g) (wsO g S F D) := by
  refine ⟨fun i j p q hi hj h => ?_, fun k q hk => ?_⟩
  · obtain ⟨s1, -, rfl⟩ := wsO_inv hi
    obtain ⟨s2, -, rfl⟩ := wsO_inv hj
    dsimp at h
    omega
  · obtain ⟨s1, -, rfl⟩ := wsO_inv hk
    show gH g ≤ gH g + k
    omega
/-- one place of the memory changed -/
def upD (D : Dat) (a : Nat) (i v : Int) : Dat := fun b j => if b = a then (if j = i then v else D b j) else D b j
def upF (F : Rfs) (a i : Nat) (v : Option Nat) : Rfs := fun b j => if b = a then (if j = i then v else F b j) else F b j
theorem wsO_ext {g : Gm} {S : Shp} {F F' : Rfs} {D D' : Dat} {k : Nat} {e : va_E} {sh : Nat × Nat} (hs : S[k]? = some sh) (he : e = clE g sh (F' k) (D' k)) (hF : ∀ b, b ≠ k → F' b = F b) (hD : ∀ b, b ≠ k → D' b = D b) : (wsO g S F D).set k (gH g + k, e) = wsO g S F' D' := by
  apply List.ext_getElem?
  intro j
  have hlt : k < S.length := (List.getElem?_eq_some_iff.mp hs).1
  by_cases hj : j = k
  · subst hj
    rw [List.getElem?_set_self (by rw [wsO_len]; exact hlt), wsO_get hs, he]
  · rw [List.getElem?_set_ne (fun h => hj h.symm), wsO, wsF_get, wsO, wsF_get]
    simp only [Nat.zero_add]
    rw [hF j hj, hD j hj]
theorem upD_other {D : Dat} {a b : Nat} {i v : Int} (h : b ≠ a) : upD D a i v b = D b := by
  funext j; simp [upD, h]
theorem upF_other {F : Rfs} {a b i : Nat} {v : Option Nat} (h : b ≠ a) : upF F a i v b = F b := by
  funext j; simp [upF, h]
/-- the locals -/
def lvh (h : Nat) (ls : Array Slot) (nL : Nat) (lo : List MV) : Prop := ls.size = nL ∧ lv_wf ls ∧ ∀ (i : Nat) (v : MV), lo[i]? = some v → v ≠ vN → ls[i]? = some (.val (vv h v))
/-- the words that every method takes -/
def Wd : List Cond := lw_tbl.filter goodWord
def isNw : Cond → Bool
  | .fieldLinkNest .. => true
  | .methodLinkNest .. => true
  | _ => false
def Nst : List Cond := tables_1.filter isNw
def stN (k : Nat) : String := match k with | 0 => "OVER" | 1 => "EFFORT_AT_FIRST" | _ => "WEARS"
def stV (k : Nat) (i : Nat) : Int := match k with
  | 0 => ([-4, 0, 1, 1, 0, 4] : List Int).getD i 0
  | 1 => ([0, 2, 1, 2, 4, 4] : List Int).getD i 0
  | _ => ([0, 1, 1, 2, 0, 0] : List Int).getD i 0
/-- what every method may rest on -/
def Amb (g : Gm) (U : State) : Prop :=
  va_K (gD g) vwCl (gTy g) U ∧ gH g ≤ U.heap.size ∧ (∀ w ∈ Nst, va_Nw w U) ∧
  (∀ k, k < 3 → va_Z RX3 (stN k) "[I" (.ref (gA g k)) (gFr g) U U.heap ∧ va_T .int (gA g k) 6 (fun j => .int (Int32.ofInt (stV k j))) (gFr g) U U.heap) ∧
  va_T .int (gX g).1 (gX g).2.1 (fun j => .int (Int32.ofInt ((gX g).2.2 j))) (gFr g) U U.heap ∧ va_AO RX7 U ∧ va_AO RX6 U
def szS (S : Shp) : Nat := (S.map (fun q => q.2)).sum
/-- the machine at a place, with memory and locals, comes to the end that is asked -/
def KW (g : Gm) (n0 s0 nL : Nat) (p : Program) (l : Launch) (e : Env) (R : Room) (s : State) (m : MethodId) (args : Array Value) (below : List Frame) (meth : Method) (c : Code) (Q : State → Prop) : Nat → List MV → List MV → Shp → Rfs → Dat → Prop := fun pc lo st S F D =>
  ∀ (H : Heap) (locs : List Loc) (ls : Array Slot), va_P (gD g) vwCl (wsO g S F D) H → va_S (gFr g) s.heap H locs → n0 ≤ S.length → s0 ≤ szS S → lvh (gH g) ls nL lo →
    W p l e R s m args below meth c H locs (S.length - n0) (szS S - s0) Q (F0 m pc ls (st.map (vv (gH g))))
abbrev KT : Type := Nat → List MV → List MV → Shp → Rfs → Dat → Prop
def Act (g : Gm) (l : Launch) (cls : String) (cc : ByteArray) (nL d n0 s0 mc ms : Nat) (ini : Prop) (K : KT) : Prop :=
  ∃ (p : Program) (e : Env) (R : Room) (s : State) (m : MethodId) (args : Array Value) (below : List Frame) (meth : Method) (c : Code) (Q : State → Prop),
    p.tables.exec = Jvm.exec ∧ c.code = cc ∧ c.maxLocals = nL ∧ s.vm.findClass cls = some m.cls ∧ (∀ w ∈ Wd, w.before args s = true) ∧ Amb g s ∧ d ≤ R.frames ∧ 64 * d ≤ R.locals ∧ mc ≤ R.cells ∧ ms ≤ R.slots ∧ (ini → meth.name = "<init>") ∧ s.heap.size = gH g + n0 ∧
    K = KW g n0 s0 nL p l e R s m args below meth c Q
/-- a class of ours as the rows of fields want it -/
def CK (C : String) (T : u_T) (N : Nat) : Prop := (∀ w ∈ u_ws C T N, w ∈ Wd) ∧ (∃ ty0 : Nat → FieldType, ∀ k, k < N → parseFieldDescriptor (T k).2.2.1 = some (ty0 k)) ∧ ∀ a, a < N → ∀ b, b < N → a ≠ b → (T a).2.1 ≠ (T b).2.1
/-- a field as a class' code names it -/
def Fl (cls : String) (idx ci k : Nat) (ty : FieldType) (fin : Bool) : Prop := ∃ (C : String) (T : u_T) (N : Nat), vwCl[ci]? = some (C, T, N) ∧ k < N ∧ CK C T N ∧ (parseFieldDescriptor (T k).2.2.1 = some ty ∧ (T k).2.2.2 = fin) ∧ (Cond.fieldLink cls idx (T k).1 (T k).2.1 (T k).2.2.1 ∈ Wd ∨ ∃ host : String, Cond.fieldLinkNest cls idx (T k).1 (T k).2.1 (T k).2.2.1 host ∈ Nst)
abbrev Mth : Type := MethodName × ByteArray × Nat × Option FieldType
/-- what a call of a method wants of the tables -/
def Mok (M : Mth) (n : Nat) : Prop := Cond.code M.1 M.2.1 M.2.2.1 M.2.2.2 ∈ Wd ∧ Cond.initialized M.1.cls ∈ Wd ∧ (M.1.cls ≠ "java/lang/invoke/MethodHandle" ∧ M.1.cls ≠ "java/lang/invoke/VarHandle" ∧ (parseMethodDescriptor M.1.desc).map (fun d => d.parameters.length) = some n) ∧ M.2.2.1 ≤ 40
def MokV (M : Mth) (C : String) (n : Nat) : Prop := Mok M n ∧ Cond.instanceMethod M.1 ∈ Wd ∧ Cond.selects C M.1 M.1 ∈ Wd
def MokS (M : Mth) (n : Nat) : Prop := Mok M n ∧ Cond.static M.1 ∈ Wd
def MokI (M : Mth) (n : Nat) : Prop := Mok M n ∧ Cond.instanceMethod M.1 ∈ Wd ∧ M.1.name = "<init>" ∧ M.2.2.2 = none
/-- a method as a class' code names it -/
def Lk (cls : String) (idx : Nat) (M : Mth) : Prop := Cond.methodLink cls idx M.1 ∈ Wd ∨ ∃ host : String, Cond.methodLinkNest cls idx M.1 host ∈ Nst
def MthW (cls : String) (idx : Nat) (y : MethodName) (b : ByteArray) (n : Nat) : Prop := Cond.methodLink cls idx y ∈ Wd ∧ Cond.static y ∈ Wd ∧ Cond.initialized "java/lang/Math" ∈ Wd ∧ Cond.code y b n (some .int) ∈ Wd
def CpW (cls : String) (idx : Nat) : Prop := Cond.methodLink cls idx arraycopyName ∈ Wd ∧ Cond.native arraycopyName ∈ Wd ∧ Cond.static arraycopyName ∈ Wd ∧ Cond.initialized "java/lang/System" ∈ Wd
