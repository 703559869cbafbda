/-! new cells, library calls, returns -/
theorem wsO_app (g : Gm) (S : Shp) (x : Nat × Nat) (F : Rfs) (D : Dat) : wsO g (S ++ [x]) F D = wsO g S F D ++ [(gH g + S.length, clE g x (F S.length) (D S.length))] := by
  have : ∀ (S : Shp) (n : Nat), wsF g (S ++ [x]) n F D = wsF g S n F D ++ [(gH g + (n + S.length), clE g x (F (n + S.length)) (D (n + S.length)))] := by
    intro S
    induction S with
    | nil => intro n; simp [wsF]
    | cons a S ih =>
      intro n
      simp only [List.cons_append, wsF, ih, List.length_cons]
      rw [show n + 1 + S.length = n + (S.length + 1) by omega]
  rw [wsO, this, wsO]
  simp
theorem szS_app (S : Shp) (x : Nat × Nat) : szS (S ++ [x]) = szS S + x.2 := by simp [szS]
section MNew
variable {g : Gm} {l : Launch} {cls : String} {cc : ByteArray} {nL d n0 s0 mc ms : Nat} {ini : Prop} {K : KT} {pc : Nat} {lo st : List MV} {S : Shp} {F : Rfs} {D : Dat}
/-- the address of a cell that is new -/
theorem k_new {p : Program} {e : Env} {R : Room} {s : State} {m : MethodId} {args : Array Value} {below : List Frame} {meth : Method} {c : Code} {H1 : Heap} {locs : List Loc} {T : State} {q n0 sl : Nat} {el : va_E} (hP : va_P (gD g) vwCl (wsO g S F D ++ [(q, el)]) H1) (hD : va_D (gFr g) (wsO g S F D ++ [(q, el)])) (h1 : n0 ≤ S.length) (hn0 : s.heap.size = gH g + n0) (hT : T.heap = H1) (X : Stand p l e R s m args below meth c T locs (S.length - n0 + 1) sl) : q = gH g + S.length := by
  have e1 : T.heap.size ≤ s.heap.size + (S.length - n0 + 1) := X.same.2.2.1
  rw [hT] at e1
  have hq : (wsO g S F D ++ [(q, el)])[S.length]? = some (q, el) := by
    rw [List.getElem?_append_right (by rw [wsO_len]; omega), wsO_len, Nat.sub_self]; rfl
  have l1 := (hP _ _ hq).lt
  have l2 : gH g ≤ q := hD.2 _ _ hq
  dsimp at l1
  rcases Nat.lt_or_ge (q - gH g) S.length with h | h
  · have h3 := wsO_get (g := g) (F := F) (D := D) (List.getElem?_eq_getElem h)
    have h4 : (wsO g S F D ++ [(q, el)])[q - gH g]? = some (gH g + (q - gH g), clE g S[q - gH g] (F (q - gH g)) (D (q - gH g))) := by
      rw [List.getElem?_append_left (by rw [wsO_len]; exact h)]; exact h3
    have := hD.1 _ _ _ _ h4 hq (by dsimp; omega)
    omega
  · omega
def freshAt (F : Rfs) (D : Dat) (n : Nat) : Prop := (∀ k, F n k = none) ∧ ∀ i, D n i = 0
theorem r_new (hA : Act g l cls cc nL d n0 s0 mc ms ini K) {idx ci N : Nat} {C : String} {T : u_T} {ty : Nat → FieldType} (hcl : vwCl[ci]? = some (C, T, N)) (hci : ci < 100) (hw : (∀ w ∈ u_ws C T N, w ∈ Wd) ∧ Cond.classLink cls idx C ∈ Wd ∧ Cond.instantiable C N ∈ Wd ∧ Cond.initialized C ∈ Wd) (hty : ∀ k, k < N → parseFieldDescriptor (T k).2.2.1 = some (ty k)) (hdef : ∀ k, k < N → defaultValue (ty k) = if isR ci k then .null else .int 0) (hfr : freshAt F D S.length) (hroom : S.length - n0 + 1 ≤ mc ∧ szS S - s0 + N ≤ ms) (hd : decode cc pc = .ok (.new idx, 3)) (kk : K (pc + 3) lo (vR S.length :: st) (S ++ [(ci, N)]) F D) : K pc lo st S F D := by
  have hfr0 := hfr
  obtain ⟨p, e, R, s, m, args, below, meth, c, Q, hx, hb, hml, hown, hts, hAm, hfr, hlo, hmc, hms, hin, hn0, rfl⟩ := hA
  intro H locs ls hP hS h1 h2 hl
  refine va_new (fs := (List.range N).map (fun k => if isR ci k then .null else .int 0)) hx hb hts hw.1 ty hty hown (hts _ hw.2.1) (hts _ hw.2.2.1) (hts _ hw.2.2.2) hAm.1 hP (wsO_D g S F D) hS (fun q hq => by show gH g ≤ q; omega) hcl (fun j hj => by rw [hdef j hj]; unfold vp_V; rw [List.getD_eq_getElem?_getD, fs_get hj]; rfl) (by omega) (by omega) hd (fun q H1 hP1 hD1 hS1 => ?_)
  intro T0 hT0 X0
  have hq := k_new hP1 hD1 h1 hn0 hT0 X0
  subst hq
  have k2 := kk H1 locs ls (by
    rw [wsO_app, clE_obj hci]
    have : (fun k => if isR ci k then rfv (gH g) (F S.length k) else Value.int (Int32.ofInt (D S.length k))) = (fun k => if isR ci k then .null else .int 0) := by
      funext k; rw [hfr0.1, hfr0.2]; rfl
    rw [this]; exact hP1) hS1 (by simp; omega) (by rw [szS_app]; omega) hl
  have c1 : (S ++ [(ci, N)]).length - n0 = S.length - n0 + 1 := by simp; omega
  have c2 : szS (S ++ [(ci, N)]) - s0 = szS S - s0 + N := by rw [szS_app]; omega
  rw [c1, c2] at k2
  exact k2 T0 hT0 X0
theorem r_objInit (hA : Act g l cls cc nL d n0 s0 mc ms ini K) {idx a : Nat} (hw : Cond.methodLink cls idx Lib.objectInit ∈ Wd ∧ Cond.instanceMethod Lib.objectInit ∈ Wd ∧ Cond.code Lib.objectInit ⟨#[0xb1]⟩ 1 none ∈ Wd) (hcat : catS st ≤ 8) (hdd : 1 ≤ d) (hd : decode cc pc = .ok (.invokespecial idx, 3)) (kk : K (pc + 3) lo st S F D) : K pc lo (vR a :: st) S F D := by
  obtain ⟨p, e, R, s, m, args, below, meth, c, Q, hx, hb, hml, hown, hts, hAm, hfr, hlo, hmc, hms, hin, hn0, rfl⟩ := hA
  intro H locs ls hP hS h1 h2 hl
  have hcat' : ((st.map (vv (gH g))).map fun v => v.category).sum ≤ 8 := by rw [catS_vv]; exact hcat
  have hrm := lv_room (m := m) (pc := pc) (ls := ls) (rest := (vR a :: st).map (vv (gH g))) hcat'
  exact W.objInit (a := gH g + a) (rest := st.map (vv (gH g))) hx hb hown (hts _ hw.1) (hts _ hw.2.1) (hts _ hw.2.2) rfl (hl.1.trans hml.symm) rfl hd (by omega) (by omega) (kk H locs ls hP hS h1 h2 hl)
theorem r_newaI (hA : Act g l cls cc nL d n0 s0 mc ms ini K) {n : Nat} (hn : n < 20000) (hw : Cond.arrayClass (newarray.typeOf .int) ∈ Wd) (hfr : freshAt F D S.length) (hroom : S.length - n0 + 1 ≤ mc ∧ szS S - s0 + n ≤ ms) (hd : decode cc pc = .ok (.newarray .int, 2)) (kk : K (pc + 2) lo (vR S.length :: st) (S ++ [(100, n)]) F D) : K pc lo (vI n :: st) S F D := by
  have hfr0 := hfr
  obtain ⟨p, e, R, s, m, args, below, meth, c, Q, hx, hb, hml, hown, hts, hAm, hfr, hlo, hmc, hms, hin, hn0, rfl⟩ := hA
  intro H locs ls hP hS h1 h2 hl
  have hn32 := n32_in (a := (n : Int)) (by omega)
  refine va_newa (n := Int32.ofInt n) (N' := n) (a0 := (n, .inl (fun _ => 0))) (ty := .int) hx hb (hts _ hw) rfl hAm.1 hP (wsO_D g S F D) hS (fun q hq => by show gH g ≤ q; omega) (fun cA => rfl) (by rw [n32_lt0 (by omega)]; omega) (by rw [Int32.toNatClampNeg, hn32]; rfl) (by show n * _ ≤ _; simp [componentBytes]; omega) (by omega) (by omega) hd (fun q cA H1 hK1 hP1 hD1 hS1 => ?_)
  intro T0 hT0 X0
  have hq := k_new hP1 hD1 h1 hn0 hT0 X0
  subst hq
  have hcA : cA = gC g 0 := by
    have z1 := (hK1.2 5 (cA, .int) rfl).2
    have z2 := (hK1.2 0 (gC g 0, .int) rfl).2
    exact Option.some.inj (Eq.trans (Eq.symm z1) z2)
  subst hcA
  have k2 := kk H1 locs ls (by
    rw [wsO_app]
    have : clE g (100, n) (F S.length) (D S.length) = .inl (gC g 0, n, .inl (fun _ => 0)) := by
      have e : D S.length = fun _ => 0 := by funext i; exact hfr0.2 i
      rw [e]; rfl
    rw [this]; exact hP1) hS1 (by simp; omega) (by rw [szS_app]; omega) hl
  have c1 : (S ++ [(100, n)]).length - n0 = S.length - n0 + 1 := by simp; omega
  have c2 : szS (S ++ [(100, n)]) - s0 = szS S - s0 + n := by rw [szS_app]; omega
  rw [c1, c2] at k2
  exact k2 T0 hT0 X0
theorem r_newaL (hA : Act g l cls cc nL d n0 s0 mc ms ini K) {n : Nat} (hn : n < 20000) (hw : Cond.arrayClass (newarray.typeOf .long) ∈ Wd) (hfr : freshAt F D S.length) (hroom : S.length - n0 + 1 ≤ mc ∧ szS S - s0 + n ≤ ms) (hd : decode cc pc = .ok (.newarray .long, 2)) (kk : K (pc + 2) lo (vR S.length :: st) (S ++ [(101, n)]) F D) : K pc lo (vI n :: st) S F D := by
  have hfr0 := hfr
  obtain ⟨p, e, R, s, m, args, below, meth, c, Q, hx, hb, hml, hown, hts, hAm, hfr, hlo, hmc, hms, hin, hn0, rfl⟩ := hA
  intro H locs ls hP hS h1 h2 hl
  have hn32 := n32_in (a := (n : Int)) (by omega)
  refine va_newa (n := Int32.ofInt n) (N' := n) (a0 := (n, .inr (.inl (fun _ => 0)))) (ty := .long) hx hb (hts _ hw) rfl hAm.1 hP (wsO_D g S F D) hS (fun q hq => by show gH g ≤ q; omega) (fun cA => rfl) (by rw [n32_lt0 (by omega)]; omega) (by rw [Int32.toNatClampNeg, hn32]; rfl) (by show n * _ ≤ _; simp [componentBytes]; omega) (by omega) (by omega) hd (fun q cA H1 hK1 hP1 hD1 hS1 => ?_)
  intro T0 hT0 X0
  have hq := k_new hP1 hD1 h1 hn0 hT0 X0
  subst hq
  have hcA : cA = gC g 1 := by
    have z1 := (hK1.2 5 (cA, .long) rfl).2
    have z2 := (hK1.2 1 (gC g 1, .long) rfl).2
    exact Option.some.inj (Eq.trans (Eq.symm z1) z2)
  subst hcA
  have k2 := kk H1 locs ls (by
    rw [wsO_app]
    have : clE g (101, n) (F S.length) (D S.length) = .inl (gC g 1, n, .inr (.inl (fun _ => 0))) := by
      have e : D S.length = fun _ => 0 := by funext i; exact hfr0.2 i
      rw [e]; rfl
    rw [this]; exact hP1) hS1 (by simp; omega) (by rw [szS_app]; omega) hl
  have c1 : (S ++ [(101, n)]).length - n0 = S.length - n0 + 1 := by simp; omega
  have c2 : szS (S ++ [(101, n)]) - s0 = szS S - s0 + n := by rw [szS_app]; omega
  rw [c1, c2] at k2
  exact k2 T0 hT0 X0
theorem r_newaZ (hA : Act g l cls cc nL d n0 s0 mc ms ini K) {n : Nat} (hn : n < 20000) (hw : Cond.arrayClass (newarray.typeOf .boolean) ∈ Wd) (hfr : freshAt F D S.length) (hroom : S.length - n0 + 1 ≤ mc ∧ szS S - s0 + n ≤ ms) (hd : decode cc pc = .ok (.newarray .boolean, 2)) (kk : K (pc + 2) lo (vR S.length :: st) (S ++ [(102, n)]) F D) : K pc lo (vI n :: st) S F D := by
  have hfr0 := hfr
  obtain ⟨p, e, R, s, m, args, below, meth, c, Q, hx, hb, hml, hown, hts, hAm, hfr, hlo, hmc, hms, hin, hn0, rfl⟩ := hA
  intro H locs ls hP hS h1 h2 hl
  have hn32 := n32_in (a := (n : Int)) (by omega)
  refine va_newa (n := Int32.ofInt n) (N' := n) (a0 := (n, .inl (fun _ => 0))) (ty := .boolean) hx hb (hts _ hw) rfl hAm.1 hP (wsO_D g S F D) hS (fun q hq => by show gH g ≤ q; omega) (fun cA => rfl) (by rw [n32_lt0 (by omega)]; omega) (by rw [Int32.toNatClampNeg, hn32]; rfl) (by show n * _ ≤ _; simp [componentBytes]; omega) (by omega) (by omega) hd (fun q cA H1 hK1 hP1 hD1 hS1 => ?_)
  intro T0 hT0 X0
  have hq := k_new hP1 hD1 h1 hn0 hT0 X0
  subst hq
  have hcA : cA = gC g 2 := by
    have z1 := (hK1.2 5 (cA, .boolean) rfl).2
    have z2 := (hK1.2 2 (gC g 2, .boolean) rfl).2
    exact Option.some.inj (Eq.trans (Eq.symm z1) z2)
  subst hcA
  have k2 := kk H1 locs ls (by
    rw [wsO_app]
    have : clE g (102, n) (F S.length) (D S.length) = .inl (gC g 2, n, .inl (fun _ => 0)) := by
      have e : D S.length = fun _ => 0 := by funext i; exact hfr0.2 i
      rw [e]; rfl
    rw [this]; exact hP1) hS1 (by simp; omega) (by rw [szS_app]; omega) hl
  have c1 : (S ++ [(102, n)]).length - n0 = S.length - n0 + 1 := by simp; omega
  have c2 : szS (S ++ [(102, n)]) - s0 = szS S - s0 + n := by rw [szS_app]; omega
  rw [c1, c2] at k2
  exact k2 T0 hT0 X0
theorem r_anewS (hA : Act g l cls cc nL d n0 s0 mc ms ini K) {idx n : Nat} (hn : n < 20000) (hw : Cond.classLink cls idx RX7 ∈ Wd) (hfr : freshAt F D S.length) (hroom : S.length - n0 + 1 ≤ mc ∧ szS S - s0 + n ≤ ms) (hd : decode cc pc = .ok (.anewarray idx, 3)) (kk : K (pc + 3) lo (vR S.length :: st) (S ++ [(103, n)]) F D) : K pc lo (vI n :: st) S F D := by
  have hfr0 := hfr
  obtain ⟨p, e, R, s, m, args, below, meth, c, Q, hx, hb, hml, hown, hts, hAm, hfr, hlo, hmc, hms, hin, hn0, rfl⟩ := hA
  intro H locs ls hP hS h1 h2 hl
  have hn32 := n32_in (a := (n : Int)) (by omega)
  refine va_newq (n := Int32.ofInt n) (N' := n) hx hb hown (hts _ hw) hAm.2.2.2.2.2.1 hAm.1 hP (wsO_D g S F D) hS (fun q hq => by show gH g ≤ q; omega) (by rw [n32_lt0 (by omega)]; omega) (by rw [Int32.toNatClampNeg, hn32]; rfl) (by omega) (by omega) (by omega) hd (fun q cA H1 hK1 hP1 hD1 hS1 => ?_)
  intro T0 hT0 X0
  have hq := k_new hP1 hD1 h1 hn0 hT0 X0
  subst hq
  have hcA : cA = gC g 3 := by
    have z1 := (hK1.2 5 (cA, .object RX7) rfl).2
    have z2 := (hK1.2 3 (gC g 3, .object RX7) rfl).2
    obtain ⟨_, _, -, -, -, z3⟩ := z1
    obtain ⟨_, _, -, -, -, z4⟩ := z2
    exact Option.some.inj (Eq.trans (Eq.symm z3) z4)
  subst hcA
  have k2 := kk H1 locs ls (by
    rw [wsO_app]
    have : clE g (103, n) (F S.length) (D S.length) = .inl (gC g 3, n, .inr (.inr (.inr (.inr (fun _ => none))))) := by
      have e : F S.length = fun _ => none := by funext i; exact hfr0.1 i
      rw [e]; rfl
    rw [this]; exact hP1) hS1 (by simp; omega) (by rw [szS_app]; omega) hl
  have c1 : (S ++ [(103, n)]).length - n0 = S.length - n0 + 1 := by simp; omega
  have c2 : szS (S ++ [(103, n)]) - s0 = szS S - s0 + n := by rw [szS_app]; omega
  rw [c1, c2] at k2
  exact k2 T0 hT0 X0
theorem r_aastS (hA : Act g l cls cc nL d n0 s0 mc ms ini K) {n a b k : Nat} {i : Nat} (hd : decode cc pc = .ok (.aastore, 1)) (hs : S[a]? = some (103, n)) (hb2 : S[b]? = some (6, k)) (hi : i < n) (hn : n < 20000) (kk : K (pc + 1) lo st S (upF F a i (some b)) D) : K pc lo (vR b :: vI (i : Int) :: vR a :: st) S F D := by
  obtain ⟨p, e, R, s, m, args, below, meth, c, Q, hx, hb, hml, hown, hts, hAm, hfr, hlo, hmc, hms, hin, hn0, rfl⟩ := hA
  intro H locs ls hP hS h1 h2 hl
  have hg := wsO_get (g := g) (F := F) (D := D) hs
  have hgb := wsO_get (g := g) (F := F) (D := D) hb2
  rw [clE_obj (by omega)] at hgb
  have hj := vin (i := (i : Int)) (n := n) (by omega) (by omega)
  refine va_astq hx hb hAm.1 hP (wsO_D g S F D) hS a 3 b 6 hg rfl hgb rfl hj.1 hd (fun H1 locs1 hP1 _ hS1 => ?_)
  rw [wsO_ext (F' := upF F a i (some b)) (D' := D) hs (by
    rw [hj.2]
    show Sum.inl _ = Sum.inl _
    congr 7
    funext z
    unfold va_up upF
    by_cases h : z = i
    · simp [h]
    · simp [h]) (fun b hb => upF_other hb) (fun _ _ => rfl)] at hP1
  exact kk H1 locs1 ls hP1 hS1 h1 h2 hl
theorem r_anewH (hA : Act g l cls cc nL d n0 s0 mc ms ini K) {idx n : Nat} (hn : n < 20000) (hw : Cond.classLink cls idx RX6 ∈ Wd) (hfr : freshAt F D S.length) (hroom : S.length - n0 + 1 ≤ mc ∧ szS S - s0 + n ≤ ms) (hd : decode cc pc = .ok (.anewarray idx, 3)) (kk : K (pc + 3) lo (vR S.length :: st) (S ++ [(104, n)]) F D) : K pc lo (vI n :: st) S F D := by
  have hfr0 := hfr
  obtain ⟨p, e, R, s, m, args, below, meth, c, Q, hx, hb, hml, hown, hts, hAm, hfr, hlo, hmc, hms, hin, hn0, rfl⟩ := hA
  intro H locs ls hP hS h1 h2 hl
  have hn32 := n32_in (a := (n : Int)) (by omega)
  refine va_newq (n := Int32.ofInt n) (N' := n) hx hb hown (hts _ hw) hAm.2.2.2.2.2.2 hAm.1 hP (wsO_D g S F D) hS (fun q hq => by show gH g ≤ q; omega) (by rw [n32_lt0 (by omega)]; omega) (by rw [Int32.toNatClampNeg, hn32]; rfl) (by omega) (by omega) (by omega) hd (fun q cA H1 hK1 hP1 hD1 hS1 => ?_)
  intro T0 hT0 X0
  have hq := k_new hP1 hD1 h1 hn0 hT0 X0
  subst hq
  have hcA : cA = gC g 4 := by
    have z1 := (hK1.2 5 (cA, .object RX6) rfl).2
    have z2 := (hK1.2 4 (gC g 4, .object RX6) rfl).2
    obtain ⟨_, _, -, -, -, z3⟩ := z1
    obtain ⟨_, _, -, -, -, z4⟩ := z2
    exact Option.some.inj (Eq.trans (Eq.symm z3) z4)
  subst hcA
  have k2 := kk H1 locs ls (by
    rw [wsO_app]
    have : clE g (104, n) (F S.length) (D S.length) = .inl (gC g 4, n, .inr (.inr (.inr (.inr (fun _ => none))))) := by
      have e : F S.length = fun _ => none := by funext i; exact hfr0.1 i
      rw [e]; rfl
    rw [this]; exact hP1) hS1 (by simp; omega) (by rw [szS_app]; omega) hl
  have c1 : (S ++ [(104, n)]).length - n0 = S.length - n0 + 1 := by simp; omega
  have c2 : szS (S ++ [(104, n)]) - s0 = szS S - s0 + n := by rw [szS_app]; omega
  rw [c1, c2] at k2
  exact k2 T0 hT0 X0
theorem r_aastH (hA : Act g l cls cc nL d n0 s0 mc ms ini K) {n a b k : Nat} {i : Nat} (hd : decode cc pc = .ok (.aastore, 1)) (hs : S[a]? = some (104, n)) (hb2 : S[b]? = some (5, k)) (hi : i < n) (hn : n < 20000) (kk : K (pc + 1) lo st S (upF F a i (some b)) D) : K pc lo (vR b :: vI (i : Int) :: vR a :: st) S F D := by
  obtain ⟨p, e, R, s, m, args, below, meth, c, Q, hx, hb, hml, hown, hts, hAm, hfr, hlo, hmc, hms, hin, hn0, rfl⟩ := hA
  intro H locs ls hP hS h1 h2 hl
  have hg := wsO_get (g := g) (F := F) (D := D) hs
  have hgb := wsO_get (g := g) (F := F) (D := D) hb2
  rw [clE_obj (by omega)] at hgb
  have hj := vin (i := (i : Int)) (n := n) (by omega) (by omega)
  refine va_astq hx hb hAm.1 hP (wsO_D g S F D) hS a 4 b 5 hg rfl hgb rfl hj.1 hd (fun H1 locs1 hP1 _ hS1 => ?_)
  rw [wsO_ext (F' := upF F a i (some b)) (D' := D) hs (by
    rw [hj.2]
    show Sum.inl _ = Sum.inl _
    congr 7
    funext z
    unfold va_up upF
    by_cases h : z = i
    · simp [h]
    · simp [h]) (fun b hb => upF_other hb) (fun _ _ => rfl)] at hP1
  exact kk H1 locs1 ls hP1 hS1 h1 h2 hl
end MNew
