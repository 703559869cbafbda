/-! Math, arraycopy, a method's start and end -/
section MLib
variable {g : Gm} {l : Launch} {cls : String} {cc : ByteArray} {nL d n0 s0 mc ms : Nat} {ini : Prop} {K : KT} {pc : Nat} {lo st : List MV} {S : Shp} {F : Rfs} {D : Dat}
theorem r_max (hA : Act g l cls cc nL d n0 s0 mc ms ini K) {idx : Nat} {a b : Int} (hw : MthW cls idx Lib.Math.max.name Lib.Math.max.code 2) (ha : -2147483648 ≤ a ∧ a ≤ 2147483647) (hb0 : -2147483648 ≤ b ∧ b ≤ 2147483647) (hcat : catS st ≤ 8) (hdd : 1 ≤ d) (hroom : S.length - n0 ≤ mc ∧ szS S - s0 ≤ ms) (hd : decode cc pc = .ok (.invokestatic idx, 3)) (kk : K (pc + 3) lo (vI (if a < b then b else a) :: st) S F D) : K pc lo (vI b :: vI a :: st) S F D := by
  obtain ⟨p, e, R, s, m, args, below, meth, c, Q, hx, hb, hml, hown, hts, hAm, hfr, hlo, hmc, hms, hin, hn0, rfl⟩ := hA
  intro H locs ls hP hS h1 h2 hl
  have hcat' : ((st.map (vv (gH g))).map fun v => v.category).sum ≤ 8 := by rw [catS_vv]; exact hcat
  have k2 := kk H locs ls hP hS h1 h2 hl
  refine va_mmax (x := Int32.ofInt a) (y := Int32.ofInt b) (rest := st.map (vv (gH g))) hx hb (hml.trans hl.1.symm) hown (hts _ hw.1) (hts _ hw.2.1) (hts _ hw.2.2.1) (hts _ hw.2.2.2) (by omega) (by omega) (by omega) (by omega) hd ?_
  have e0 : vv (gH g) (vI (if a < b then b else a)) = Value.int (if Int32.ofInt a < Int32.ofInt b then Int32.ofInt b else Int32.ofInt a) := by
    simp only [(n32_lt ha hb0), vv]
    split <;> rfl
  rw [← e0]
  exact k2
theorem r_min (hA : Act g l cls cc nL d n0 s0 mc ms ini K) {idx : Nat} {a b : Int} (hw : MthW cls idx Lib.Math.min.name Lib.Math.min.code 2) (ha : -2147483648 ≤ a ∧ a ≤ 2147483647) (hb0 : -2147483648 ≤ b ∧ b ≤ 2147483647) (hcat : catS st ≤ 8) (hdd : 1 ≤ d) (hroom : S.length - n0 ≤ mc ∧ szS S - s0 ≤ ms) (hd : decode cc pc = .ok (.invokestatic idx, 3)) (kk : K (pc + 3) lo (vI (if b < a then b else a) :: st) S F D) : K pc lo (vI b :: vI a :: st) S F D := by
  obtain ⟨p, e, R, s, m, args, below, meth, c, Q, hx, hb, hml, hown, hts, hAm, hfr, hlo, hmc, hms, hin, hn0, rfl⟩ := hA
  intro H locs ls hP hS h1 h2 hl
  have hcat' : ((st.map (vv (gH g))).map fun v => v.category).sum ≤ 8 := by rw [catS_vv]; exact hcat
  have k2 := kk H locs ls hP hS h1 h2 hl
  refine va_mmin (x := Int32.ofInt a) (y := Int32.ofInt b) (rest := st.map (vv (gH g))) hx hb (hml.trans hl.1.symm) hown (hts _ hw.1) (hts _ hw.2.1) (hts _ hw.2.2.1) (hts _ hw.2.2.2) (by omega) (by omega) (by omega) (by omega) hd ?_
  have e0 : vv (gH g) (vI (if b < a then b else a)) = Value.int (if Int32.ofInt b < Int32.ofInt a then Int32.ofInt b else Int32.ofInt a) := by
    simp only [(n32_lt hb0 ha), vv]
    split <;> rfl
  rw [← e0]
  exact k2
theorem r_abs (hA : Act g l cls cc nL d n0 s0 mc ms ini K) {idx : Nat} {a : Int} (hw : MthW cls idx Lib.Math.abs.name Lib.Math.abs.code 1) (ha : -2147483648 ≤ a ∧ a ≤ 2147483647) (hcat : catS st ≤ 8) (hdd : 1 ≤ d) (hroom : S.length - n0 ≤ mc ∧ szS S - s0 ≤ ms) (hd : decode cc pc = .ok (.invokestatic idx, 3)) (kk : K (pc + 3) lo (vI (if 0 ≤ a then a else 0 - a) :: st) S F D) : K pc lo (vI a :: st) S F D := by
  obtain ⟨p, e, R, s, m, args, below, meth, c, Q, hx, hb, hml, hown, hts, hAm, hfr, hlo, hmc, hms, hin, hn0, rfl⟩ := hA
  intro H locs ls hP hS h1 h2 hl
  have hcat' : ((st.map (vv (gH g))).map fun v => v.category).sum ≤ 8 := by rw [catS_vv]; exact hcat
  have k2 := kk H locs ls hP hS h1 h2 hl
  refine va_mabs (x := Int32.ofInt a) (rest := st.map (vv (gH g))) hx hb (hml.trans hl.1.symm) hown (hts _ hw.1) (hts _ hw.2.1) (hts _ hw.2.2.1) (hts _ hw.2.2.2) (by omega) (by omega) (by omega) (by omega) hd ?_
  have e0 : vv (gH g) (vI (if 0 ≤ a then a else 0 - a)) = Value.int (if 0 ≤ Int32.ofInt a then Int32.ofInt a else 0 - Int32.ofInt a) := by
    have e1 := n32_le (a := 0) (by omega) ha
    rw [← n32_z] at e1
    simp only [e1, vv]
    split
    · rfl
    · rw [Int32.ofInt_sub]; rfl
  rw [← e0]
  exact k2
def cpD (D : Dat) (a0 : Nat) (sp : Int) (a : Nat) (dp n : Int) : Dat := fun b j => if b = a then (if dp ≤ j ∧ j < dp + n then D a0 (sp + (j - dp)) else D b j) else D b j
theorem natW : nativeFrameWords "java/lang/System" "arraycopy" 5 ≤ 40 := by decide +kernel
theorem r_copyi (hA : Act g l cls cc nL d n0 s0 mc ms ini K) {idx a0 a k0 k1 : Nat} {sp dp n : Int} (hw : CpW cls idx) (hs0 : S[a0]? = some (100, k0)) (hs : S[a]? = some (100, k1)) (h0 : 0 ≤ sp ∧ 0 ≤ dp ∧ 0 ≤ n) (h3 : sp + n ≤ k0 ∧ dp + n ≤ k1) (hk : k0 < 20000 ∧ k1 < 20000) (hcat : catS st ≤ 8) (hdd : 1 ≤ d) (hd : decode cc pc = .ok (.invokestatic idx, 3)) (kk : K (pc + 3) lo st S F (cpD D a0 sp a dp n)) : K pc lo (vI n :: vI dp :: vR a :: vI sp :: vR a0 :: st) S F D := by
  obtain ⟨p, e, R, s, m, args, below, meth, c, Q, hx, hb, hml, hown, hts, hAm, hfr, hlo, hmc, hms, hin, hn0, rfl⟩ := hA
  intro H locs ls hP hS h1 h2 hl
  have hcat' : ((st.map (vv (gH g))).map fun v => v.category).sum ≤ 8 := by rw [catS_vv]; exact hcat
  have hg0 := wsO_get (g := g) (F := F) (D := D) hs0
  have hg := wsO_get (g := g) (F := F) (D := D) hs
  rw [clE_i] at hg0 hg
  have cl : ∀ x : Int, 0 ≤ x → x < 20001 → (Int32.ofInt x).toNatClampNeg = x.toNat ∧ ¬ Int32.ofInt x < 0 := fun x h1 h2 => ⟨by rw [Int32.toNatClampNeg, n32_in (by omega)], by rw [n32_lt0 (by omega)]; omega⟩
  have c1 := cl sp (by omega) (by omega)
  have c2 := cl dp (by omega) (by omega)
  have c3 := cl n (by omega) (by omega)
  have hnw := natW
  refine va_copyi (rest := st.map (vv (gH g))) (ty := .int) hx hb (hml.trans hl.1.symm) hown (hts _ hw.1) (hts _ hw.2.1) (hts _ hw.2.2.1) (hts _ hw.2.2.2) hAm.1 hP (wsO_D g S F D) hS a0 a 0 0 hg0 hg rfl rfl rfl c1.2 c2.2 c3.2 (by rw [c1.1, c3.1]; omega) (by rw [c2.1, c3.1]; omega) (fun _ _ => rfl) (by omega) (by omega) hd (fun H1 locs1 hP1 _ hS1 => ?_)
  rw [wsO_ext (F' := F) (D' := cpD D a0 sp a dp n) hs (by
    rw [clE_i, c1.1, c2.1, c3.1]
    congr 4
    funext j
    unfold va_cpy cpD
    by_cases h : dp.toNat ≤ j ∧ j < dp.toNat + n.toNat
    · rw [if_pos h, if_pos rfl, if_pos (by omega)]
      rw [show sp + ((j : Int) - dp) = ((sp.toNat + (j - dp.toNat) : Nat) : Int) by omega]
    · rw [if_neg h, if_pos rfl, if_neg (by omega)]) (fun _ _ => rfl) (fun b hb => by funext j; simp [cpD, hb])] at hP1
  exact kk H1 locs1 ls hP1 hS1 h1 h2 hl
theorem r_copyl (hA : Act g l cls cc nL d n0 s0 mc ms ini K) {idx a0 a k0 k1 : Nat} {sp dp n : Int} (hw : CpW cls idx) (hs0 : S[a0]? = some (101, k0)) (hs : S[a]? = some (101, k1)) (h0 : 0 ≤ sp ∧ 0 ≤ dp ∧ 0 ≤ n) (h3 : sp + n ≤ k0 ∧ dp + n ≤ k1) (hk : k0 < 20000 ∧ k1 < 20000) (hcat : catS st ≤ 8) (hdd : 1 ≤ d) (hd : decode cc pc = .ok (.invokestatic idx, 3)) (kk : K (pc + 3) lo st S F (cpD D a0 sp a dp n)) : K pc lo (vI n :: vI dp :: vR a :: vI sp :: vR a0 :: st) S F D := by
  obtain ⟨p, e, R, s, m, args, below, meth, c, Q, hx, hb, hml, hown, hts, hAm, hfr, hlo, hmc, hms, hin, hn0, rfl⟩ := hA
  intro H locs ls hP hS h1 h2 hl
  have hcat' : ((st.map (vv (gH g))).map fun v => v.category).sum ≤ 8 := by rw [catS_vv]; exact hcat
  have hg0 := wsO_get (g := g) (F := F) (D := D) hs0
  have hg := wsO_get (g := g) (F := F) (D := D) hs
  rw [clE_l] at hg0 hg
  have cl : ∀ x : Int, 0 ≤ x → x < 20001 → (Int32.ofInt x).toNatClampNeg = x.toNat ∧ ¬ Int32.ofInt x < 0 := fun x h1 h2 => ⟨by rw [Int32.toNatClampNeg, n32_in (by omega)], by rw [n32_lt0 (by omega)]; omega⟩
  have c1 := cl sp (by omega) (by omega)
  have c2 := cl dp (by omega) (by omega)
  have c3 := cl n (by omega) (by omega)
  have hnw := natW
  refine va_copyl (rest := st.map (vv (gH g))) (ty := .long) hx hb (hml.trans hl.1.symm) hown (hts _ hw.1) (hts _ hw.2.1) (hts _ hw.2.2.1) (hts _ hw.2.2.2) hAm.1 hP (wsO_D g S F D) hS a0 a 1 1 hg0 hg rfl rfl rfl c1.2 c2.2 c3.2 (by rw [c1.1, c3.1]; omega) (by rw [c2.1, c3.1]; omega) (fun _ _ => rfl) (by omega) (by omega) hd (fun H1 locs1 hP1 _ hS1 => ?_)
  rw [wsO_ext (F' := F) (D' := cpD D a0 sp a dp n) hs (by
    rw [clE_l, c1.1, c2.1, c3.1]
    congr 5
    funext j
    unfold va_cpy cpD
    by_cases h : dp.toNat ≤ j ∧ j < dp.toNat + n.toNat
    · rw [if_pos h, if_pos rfl, if_pos (by omega)]
      rw [show sp + ((j : Int) - dp) = ((sp.toNat + (j - dp.toNat) : Nat) : Int) by omega]
    · rw [if_neg h, if_pos rfl, if_neg (by omega)]) (fun _ _ => rfl) (fun b hb => by funext j; simp [cpD, hb])] at hP1
  exact kk H1 locs1 ls hP1 hS1 h1 h2 hl
end MLib
/-- the locals at a method's start -/
def entA : List MV → List MV
  | [] => []
  | .inr (.inl x) :: As => .inr (.inl x) :: vN :: entA As
  | v :: As => v :: entA As
def entL (As : List MV) (nL : Nat) : List MV := entA As ++ List.replicate (nL - (entA As).length) vN
theorem entA_cons (v : MV) (As : List MV) : (∃ x, v = vL x ∧ entA (v :: As) = v :: vN :: entA As) ∨ ((∀ x, v ≠ vL x) ∧ entA (v :: As) = v :: entA As) := by
  rcases v with x | x | x | x | x
  · exact Or.inr ⟨fun _ h => (by cases h), rfl⟩
  · exact Or.inl ⟨x, rfl, rfl⟩
  · exact Or.inr ⟨fun _ h => (by cases h), rfl⟩
  · exact Or.inr ⟨fun _ h => (by cases h), rfl⟩
  · exact Or.inr ⟨fun _ h => (by cases h), rfl⟩
theorem entA_len (h : Nat) : ∀ As : List MV, (lg_sl (As.map (vv h))).length = (entA As).length
  | [] => rfl
  | v :: As => by
    have ih := entA_len h As
    unfold lg_sl at ih ⊢
    rw [List.map_cons, List.flatMap_cons, List.length_append, ih]
    rcases entA_cons v As with ⟨x, rfl, e⟩ | ⟨hn, e⟩
    · rw [e]; simp [vv, Value.category]; omega
    · rw [e, if_neg (fun hc => by obtain ⟨x, hx⟩ := vv_cat hc; exact hn x hx)]; simp; omega
theorem entA_args (h : Nat) : ∀ (As : List MV) (i j : Nat) (v : MV), (entA As)[j]? = some v → v ≠ vN → (i + j, vv h v) ∈ lv_args i (As.map (vv h))
  | [], i, j, v, hv, _ => by simp [entA] at hv
  | a :: As, i, j, v, hv, hn => by
    rw [List.map_cons, lv_args]
    rcases entA_cons a As with ⟨x, rfl, e⟩ | ⟨hna, e⟩
    · rw [e] at hv
      match j with
      | 0 =>
        rw [List.getElem?_cons_zero] at hv
        cases hv
        exact List.mem_cons_self
      | 1 =>
        rw [List.getElem?_cons_succ, List.getElem?_cons_zero] at hv
        cases hv
        exact absurd rfl hn
      | j + 2 =>
        rw [List.getElem?_cons_succ, List.getElem?_cons_succ] at hv
        refine List.mem_cons_of_mem _ ?_
        rw [if_pos (show (vv h (vL x)).category = 2 from rfl)]
        have := entA_args h As (i + 2) j v hv hn
        rwa [show i + 2 + j = i + (j + 2) by omega] at this
    · rw [e] at hv
      match j with
      | 0 =>
        rw [List.getElem?_cons_zero] at hv
        cases hv
        exact List.mem_cons_self
      | j + 1 =>
        rw [List.getElem?_cons_succ] at hv
        refine List.mem_cons_of_mem _ ?_
        rw [if_neg (fun hc => by obtain ⟨x, hx⟩ := vv_cat hc; exact hna x hx)]
        have := entA_args h As (i + 1) j v hv hn
        rwa [show i + 1 + j = i + (j + 1) by omega] at this
/-- the ends of a method: an int, a truth, a long, a reference, nothing -/
def RtI (cc : ByteArray) (S : Shp) (mc ms : Nat) (Q : QT) (K : KT) : Prop := ∀ (pc : Nat) (lo : List MV) (v : Int) (S1 : Shp) (F1 : Rfs) (D1 : Dat), decode cc pc = .ok (.ireturn, 1) → Q (some (vI v)) S1 F1 D1 → S1.length = S.length + mc → szS S1 = szS S + ms → K pc lo [vI v] S1 F1 D1
def RtZ (cc : ByteArray) (S : Shp) (mc ms : Nat) (Q : QT) (K : KT) : Prop := ∀ (pc : Nat) (lo : List MV) (v : Int) (S1 : Shp) (F1 : Rfs) (D1 : Dat), decode cc pc = .ok (.ireturn, 1) → (v = 0 ∨ v = 1) → Q (some (vI v)) S1 F1 D1 → S1.length = S.length + mc → szS S1 = szS S + ms → K pc lo [vI v] S1 F1 D1
def RtL (cc : ByteArray) (S : Shp) (mc ms : Nat) (Q : QT) (K : KT) : Prop := ∀ (pc : Nat) (lo : List MV) (v : Int) (S1 : Shp) (F1 : Rfs) (D1 : Dat), decode cc pc = .ok (.lreturn, 1) → Q (some (vL v)) S1 F1 D1 → S1.length = S.length + mc → szS S1 = szS S + ms → K pc lo [vL v] S1 F1 D1
def RtA (cc : ByteArray) (S : Shp) (mc ms : Nat) (Q : QT) (K : KT) : Prop := ∀ (pc : Nat) (lo : List MV) (v : Nat) (S1 : Shp) (F1 : Rfs) (D1 : Dat), decode cc pc = .ok (.areturn, 1) → Q (some (vR v)) S1 F1 D1 → S1.length = S.length + mc → szS S1 = szS S + ms → K pc lo [vR v] S1 F1 D1
def RtV (cc : ByteArray) (S : Shp) (mc ms : Nat) (Q : QT) (K : KT) : Prop := ∀ (pc : Nat) (lo : List MV) (S1 : Shp) (F1 : Rfs) (D1 : Dat), decode cc pc = .ok (.return_, 1) → Q none S1 F1 D1 → S1.length = S.length + mc → szS S1 = szS S + ms → K pc lo [] S1 F1 D1
theorem Cn.ofI {g : Gm} {l : Launch} {d mc ms nL : Nat} {y : MethodName} {cc : ByteArray} {As : List MV} {S : Shp} {F : Rfs} {D : Dat} {Q : QT} (hpl : plainName y.cls = true) (hen : (entA As).length ≤ nL)
    (h : ∀ K : KT, Act g l y.cls cc nL d S.length (szS S) mc ms (y.name = "<init>") K → RtI cc S mc ms Q K → K 0 (entL As nL) [] S F D) : Cn g l d mc ms (y, cc, nL, some .int) As S F D Q := by
  refine Met.ofW (cc := cc) (maxL := nL) (ret := some .int) hpl rfl ?_
  intro p e s m args below meth c s₁ B hml hv
  obtain ⟨rfl, hAm, hP, hsz⟩ := hv
  have hx := B.exec
  have hb := B.bytes
  have hr := B.returns
  have hts := atoms_spec (ws := Cond.code y cc nL (some .int) :: Wd) B.pre
  have hown : s.vm.findClass y.cls = some m.cls := findClass_of_methodNamed B.named
  have hlocks := B.notSynchronized
  have hin : y.name = "<init>" → meth.name = "<init>" := fun hy => (name_of_methodNamed B.named B.method).1.trans hy
  have k := h (KW g S.length (szS S) nL p l e (rmO d mc ms) s m ((As.map (vv (gH g))).toArray) below meth c (MQ below (Qcn g S mc ms Q) ((As.map (vv (gH g))).toArray) s mc ms (gFr g))) ⟨p, e, rmO d mc ms, s, m, _, below, meth, c, _, hx, hb, hml, hown, fun w hw => hts w (List.mem_cons_of_mem _ hw), hAm, Nat.le_refl _, Nat.le_refl _, Nat.le_refl _, Nat.le_refl _, hin, hsz, rfl⟩ (by
    intro pc lo v S1 F1 D1 hd hq hl1 hs1 H locs ls hP1 hS h1 h2 hl
    have c1 : S1.length - S.length = mc := by omega
    have c2 : szS S1 - szS S = ms := by omega
    rw [c1, c2]
    exact W.iret (v := Int32.ofInt v) hx hb hr (fun t ht hW => ⟨⟨(some (vI v)), S1, F1, D1, rfl, hq, by rw [ht]; exact hP1, hl1, hs1⟩, hS.F ht⟩) hS.2.2 hd)
  have hl := lv_entry (As.map (vv (gH g))) (n := nL) (by rw [entA_len]; exact hen)
  have hlv : lvh (gH g) ((lg_sl (As.map (vv (gH g))) ++ List.replicate (nL - (lg_sl (As.map (vv (gH g)))).length) Slot.unset).toArray) nL (entL As nL) := by
    refine ⟨hl.1, hl.2.1, fun i v hv hn => ?_⟩
    unfold entL at hv
    by_cases hi : i < (entA As).length
    · rw [List.getElem?_append_left hi] at hv
      have := entA_args (gH g) As 0 i v hv hn
      rw [Nat.zero_add] at this
      exact hl.2.2 _ this
    · rw [List.getElem?_append_right (by omega), List.getElem?_replicate] at hv
      split at hv
      · cases hv; exact absurd rfl hn
      · cases hv
  rw [lg_entry_eq]
  have k2 := k s.heap [] _ hP va_S.rf (Nat.le_refl _) (Nat.le_refl _) hlv
  rw [Nat.sub_self, Nat.sub_self] at k2
  exact k2
theorem Cn.ofZ {g : Gm} {l : Launch} {d mc ms nL : Nat} {y : MethodName} {cc : ByteArray} {As : List MV} {S : Shp} {F : Rfs} {D : Dat} {Q : QT} (hpl : plainName y.cls = true) (hen : (entA As).length ≤ nL)
    (h : ∀ K : KT, Act g l y.cls cc nL d S.length (szS S) mc ms (y.name = "<init>") K → RtZ cc S mc ms Q K → K 0 (entL As nL) [] S F D) : Cn g l d mc ms (y, cc, nL, some .boolean) As S F D Q := by
  refine Met.ofW (cc := cc) (maxL := nL) (ret := some .boolean) hpl rfl ?_
  intro p e s m args below meth c s₁ B hml hv
  obtain ⟨rfl, hAm, hP, hsz⟩ := hv
  have hx := B.exec
  have hb := B.bytes
  have hr := B.returns
  have hts := atoms_spec (ws := Cond.code y cc nL (some .boolean) :: Wd) B.pre
  have hown : s.vm.findClass y.cls = some m.cls := findClass_of_methodNamed B.named
  have hlocks := B.notSynchronized
  have hin : y.name = "<init>" → meth.name = "<init>" := fun hy => (name_of_methodNamed B.named B.method).1.trans hy
  have k := h (KW g S.length (szS S) nL p l e (rmO d mc ms) s m ((As.map (vv (gH g))).toArray) below meth c (MQ below (Qcn g S mc ms Q) ((As.map (vv (gH g))).toArray) s mc ms (gFr g))) ⟨p, e, rmO d mc ms, s, m, _, below, meth, c, _, hx, hb, hml, hown, fun w hw => hts w (List.mem_cons_of_mem _ hw), hAm, Nat.le_refl _, Nat.le_refl _, Nat.le_refl _, Nat.le_refl _, hin, hsz, rfl⟩ (by
    intro pc lo v S1 F1 D1 hd h01 hq hl1 hs1 H locs ls hP1 hS h1 h2 hl
    have c1 : S1.length - S.length = mc := by omega
    have c2 : szS S1 - szS S = ms := by omega
    rw [c1, c2]
    exact W.zret (v := Int32.ofInt v) hx hb hr (by rcases h01 with rfl | rfl <;> decide +kernel) (fun t ht hW => ⟨⟨(some (vI v)), S1, F1, D1, rfl, hq, by rw [ht]; exact hP1, hl1, hs1⟩, hS.F ht⟩) hS.2.2 hd)
  have hl := lv_entry (As.map (vv (gH g))) (n := nL) (by rw [entA_len]; exact hen)
  have hlv : lvh (gH g) ((lg_sl (As.map (vv (gH g))) ++ List.replicate (nL - (lg_sl (As.map (vv (gH g)))).length) Slot.unset).toArray) nL (entL As nL) := by
    refine ⟨hl.1, hl.2.1, fun i v hv hn => ?_⟩
    unfold entL at hv
    by_cases hi : i < (entA As).length
    · rw [List.getElem?_append_left hi] at hv
      have := entA_args (gH g) As 0 i v hv hn
      rw [Nat.zero_add] at this
      exact hl.2.2 _ this
    · rw [List.getElem?_append_right (by omega), List.getElem?_replicate] at hv
      split at hv
      · cases hv; exact absurd rfl hn
      · cases hv
  rw [lg_entry_eq]
  have k2 := k s.heap [] _ hP va_S.rf (Nat.le_refl _) (Nat.le_refl _) hlv
  rw [Nat.sub_self, Nat.sub_self] at k2
  exact k2
theorem Cn.ofL {g : Gm} {l : Launch} {d mc ms nL : Nat} {y : MethodName} {cc : ByteArray} {As : List MV} {S : Shp} {F : Rfs} {D : Dat} {Q : QT} (hpl : plainName y.cls = true) (hen : (entA As).length ≤ nL)
    (h : ∀ K : KT, Act g l y.cls cc nL d S.length (szS S) mc ms (y.name = "<init>") K → RtL cc S mc ms Q K → K 0 (entL As nL) [] S F D) : Cn g l d mc ms (y, cc, nL, some .long) As S F D Q := by
  refine Met.ofW (cc := cc) (maxL := nL) (ret := some .long) hpl rfl ?_
  intro p e s m args below meth c s₁ B hml hv
  obtain ⟨rfl, hAm, hP, hsz⟩ := hv
  have hx := B.exec
  have hb := B.bytes
  have hr := B.returns
  have hts := atoms_spec (ws := Cond.code y cc nL (some .long) :: Wd) B.pre
  have hown : s.vm.findClass y.cls = some m.cls := findClass_of_methodNamed B.named
  have hlocks := B.notSynchronized
  have hin : y.name = "<init>" → meth.name = "<init>" := fun hy => (name_of_methodNamed B.named B.method).1.trans hy
  have k := h (KW g S.length (szS S) nL p l e (rmO d mc ms) s m ((As.map (vv (gH g))).toArray) below meth c (MQ below (Qcn g S mc ms Q) ((As.map (vv (gH g))).toArray) s mc ms (gFr g))) ⟨p, e, rmO d mc ms, s, m, _, below, meth, c, _, hx, hb, hml, hown, fun w hw => hts w (List.mem_cons_of_mem _ hw), hAm, Nat.le_refl _, Nat.le_refl _, Nat.le_refl _, Nat.le_refl _, hin, hsz, rfl⟩ (by
    intro pc lo v S1 F1 D1 hd hq hl1 hs1 H locs ls hP1 hS h1 h2 hl
    have c1 : S1.length - S.length = mc := by omega
    have c2 : szS S1 - szS S = ms := by omega
    rw [c1, c2]
    exact W.lret (v := Int64.ofInt v) hx hb hr (fun t ht hW => ⟨⟨(some (vL v)), S1, F1, D1, rfl, hq, by rw [ht]; exact hP1, hl1, hs1⟩, hS.F ht⟩) hS.2.2 hd)
  have hl := lv_entry (As.map (vv (gH g))) (n := nL) (by rw [entA_len]; exact hen)
  have hlv : lvh (gH g) ((lg_sl (As.map (vv (gH g))) ++ List.replicate (nL - (lg_sl (As.map (vv (gH g)))).length) Slot.unset).toArray) nL (entL As nL) := by
    refine ⟨hl.1, hl.2.1, fun i v hv hn => ?_⟩
    unfold entL at hv
    by_cases hi : i < (entA As).length
    · rw [List.getElem?_append_left hi] at hv
      have := entA_args (gH g) As 0 i v hv hn
      rw [Nat.zero_add] at this
      exact hl.2.2 _ this
    · rw [List.getElem?_append_right (by omega), List.getElem?_replicate] at hv
      split at hv
      · cases hv; exact absurd rfl hn
      · cases hv
  rw [lg_entry_eq]
  have k2 := k s.heap [] _ hP va_S.rf (Nat.le_refl _) (Nat.le_refl _) hlv
  rw [Nat.sub_self, Nat.sub_self] at k2
  exact k2
theorem Cn.ofV {g : Gm} {l : Launch} {d mc ms nL : Nat} {y : MethodName} {cc : ByteArray} {As : List MV} {S : Shp} {F : Rfs} {D : Dat} {Q : QT} (hpl : plainName y.cls = true) (hen : (entA As).length ≤ nL)
    (h : ∀ K : KT, Act g l y.cls cc nL d S.length (szS S) mc ms (y.name = "<init>") K → RtV cc S mc ms Q K → K 0 (entL As nL) [] S F D) : Cn g l d mc ms (y, cc, nL, none) As S F D Q := by
  refine Met.ofW (cc := cc) (maxL := nL) (ret := none) hpl rfl ?_
  intro p e s m args below meth c s₁ B hml hv
  obtain ⟨rfl, hAm, hP, hsz⟩ := hv
  have hx := B.exec
  have hb := B.bytes
  have hr := B.returns
  have hts := atoms_spec (ws := Cond.code y cc nL (none) :: Wd) B.pre
  have hown : s.vm.findClass y.cls = some m.cls := findClass_of_methodNamed B.named
  have hlocks := B.notSynchronized
  have hin : y.name = "<init>" → meth.name = "<init>" := fun hy => (name_of_methodNamed B.named B.method).1.trans hy
  have k := h (KW g S.length (szS S) nL p l e (rmO d mc ms) s m ((As.map (vv (gH g))).toArray) below meth c (MQ below (Qcn g S mc ms Q) ((As.map (vv (gH g))).toArray) s mc ms (gFr g))) ⟨p, e, rmO d mc ms, s, m, _, below, meth, c, _, hx, hb, hml, hown, fun w hw => hts w (List.mem_cons_of_mem _ hw), hAm, Nat.le_refl _, Nat.le_refl _, Nat.le_refl _, Nat.le_refl _, hin, hsz, rfl⟩ (by
    intro pc lo S1 F1 D1 hd hq hl1 hs1 H locs ls hP1 hS h1 h2 hl
    have c1 : S1.length - S.length = mc := by omega
    have c2 : szS S1 - szS S = ms := by omega
    rw [c1, c2]
    exact W.vret hx hb hr (fun t ht hW => ⟨⟨none, S1, F1, D1, rfl, hq, by rw [ht]; exact hP1, hl1, hs1⟩, hS.F ht⟩) hS.2.2 hd)
  have hl := lv_entry (As.map (vv (gH g))) (n := nL) (by rw [entA_len]; exact hen)
  have hlv : lvh (gH g) ((lg_sl (As.map (vv (gH g))) ++ List.replicate (nL - (lg_sl (As.map (vv (gH g)))).length) Slot.unset).toArray) nL (entL As nL) := by
    refine ⟨hl.1, hl.2.1, fun i v hv hn => ?_⟩
    unfold entL at hv
    by_cases hi : i < (entA As).length
    · rw [List.getElem?_append_left hi] at hv
      have := entA_args (gH g) As 0 i v hv hn
      rw [Nat.zero_add] at this
      exact hl.2.2 _ this
    · rw [List.getElem?_append_right (by omega), List.getElem?_replicate] at hv
      split at hv
      · cases hv; exact absurd rfl hn
      · cases hv
  rw [lg_entry_eq]
  have k2 := k s.heap [] _ hP va_S.rf (Nat.le_refl _) (Nat.le_refl _) hlv
  rw [Nat.sub_self, Nat.sub_self] at k2
  exact k2
theorem Cn.ofA {g : Gm} {l : Launch} {d mc ms nL : Nat} {y : MethodName} {cc : ByteArray} {rt : FieldType} (hrt : (∃ n, rt = .object n) ∨ ∃ t, rt = .array t) {As : List MV} {S : Shp} {F : Rfs} {D : Dat} {Q : QT} (hpl : plainName y.cls = true) (hen : (entA As).length ≤ nL)
    (h : ∀ K : KT, Act g l y.cls cc nL d S.length (szS S) mc ms (y.name = "<init>") K → RtA cc S mc ms Q K → K 0 (entL As nL) [] S F D) : Cn g l d mc ms (y, cc, nL, some rt) As S F D Q := by
  refine Met.ofW (cc := cc) (maxL := nL) (ret := some rt) hpl rfl ?_
  intro p e s m args below meth c s₁ B hml hv
  obtain ⟨rfl, hAm, hP, hsz⟩ := hv
  have hx := B.exec
  have hb := B.bytes
  have hr := B.returns
  have hts := atoms_spec (ws := Cond.code y cc nL (some rt) :: Wd) B.pre
  have hown : s.vm.findClass y.cls = some m.cls := findClass_of_methodNamed B.named
  have hlocks := B.notSynchronized
  have hin : y.name = "<init>" → meth.name = "<init>" := fun hy => (name_of_methodNamed B.named B.method).1.trans hy
  have k := h (KW g S.length (szS S) nL p l e (rmO d mc ms) s m ((As.map (vv (gH g))).toArray) below meth c (MQ below (Qcn g S mc ms Q) ((As.map (vv (gH g))).toArray) s mc ms (gFr g))) ⟨p, e, rmO d mc ms, s, m, _, below, meth, c, _, hx, hb, hml, hown, fun w hw => hts w (List.mem_cons_of_mem _ hw), hAm, Nat.le_refl _, Nat.le_refl _, Nat.le_refl _, Nat.le_refl _, hin, hsz, rfl⟩ (by
    intro pc lo v S1 F1 D1 hd hq hl1 hs1 H locs ls hP1 hS h1 h2 hl
    have c1 : S1.length - S.length = mc := by omega
    have c2 : szS S1 - szS S = ms := by omega
    rw [c1, c2]
    exact W.aret (v := .ref (gH g + v)) hx hb hr hrt (Or.inr ⟨_, rfl⟩) (fun t ht hW => ⟨⟨(some (vR v)), S1, F1, D1, rfl, hq, by rw [ht]; exact hP1, hl1, hs1⟩, hS.F ht⟩) hS.2.2 hd)
  have hl := lv_entry (As.map (vv (gH g))) (n := nL) (by rw [entA_len]; exact hen)
  have hlv : lvh (gH g) ((lg_sl (As.map (vv (gH g))) ++ List.replicate (nL - (lg_sl (As.map (vv (gH g)))).length) Slot.unset).toArray) nL (entL As nL) := by
    refine ⟨hl.1, hl.2.1, fun i v hv hn => ?_⟩
    unfold entL at hv
    by_cases hi : i < (entA As).length
    · rw [List.getElem?_append_left hi] at hv
      have := entA_args (gH g) As 0 i v hv hn
      rw [Nat.zero_add] at this
      exact hl.2.2 _ this
    · rw [List.getElem?_append_right (by omega), List.getElem?_replicate] at hv
      split at hv
      · cases hv; exact absurd rfl hn
      · cases hv
  rw [lg_entry_eq]
  have k2 := k s.heap [] _ hP va_S.rf (Nat.le_refl _) (Nat.le_refl _) hlv
  rw [Nat.sub_self, Nat.sub_self] at k2
  exact k2
