/-! contracts over the one memory, calls, new cells -/
theorem wdGood : ∀ w ∈ Wd, (w.onTables && w.keeps) = true ∨ ∃ ty, w = .arrayClass ty := fun w h => good_of_word (List.mem_filter.mp h).2
theorem nst_warm {w : Cond} (hw : w ∈ Nst) {s U : State} (hW : s.WarmedH U.vm) (h : va_Nw w s) : va_Nw w U := by
  have h1 := (List.mem_filter.mp hw).2
  cases w <;> first | exact va_Nw.warmF hW h | exact va_Nw.warmM hW h | exact absurd h1 (by simp [isNw])
theorem nst_tab {w : Cond} (hw : w ∈ Nst) : w.onTables = true := by
  have h1 := (List.mem_filter.mp hw).2
  cases w <;> first | rfl | exact absurd h1 (by simp [isNw])
theorem Amb.warm {g : Gm} {s U : State} {H : Heap} {locs : List Loc} (h : Amb g s) (hW : s.WarmedH U.vm) (hS : va_S (gFr g) s.heap H locs) (hU : U.heap = H) : Amb g U := by
  obtain ⟨a1, a2, a3, a4, a5, a6, a7⟩ := h
  have hk : ∀ a : Nat, a < s.heap.size → ¬ gFr g a → U.heap[a]? = s.heap[a]? := fun a h1 h2 => by rw [hU]; exact hS.2.1 a h1 h2
  refine ⟨va_K.moved hW.alike a1, by rw [hU]; exact Nat.le_trans a2 hS.1, fun w hw => nst_warm hw hW (a3 w hw), fun k hk3 => ⟨((a4 k hk3).1.kept hk).moved hW.alike, ((a4 k hk3).2.kept hk).moved hW.alike⟩, (a5.kept hk).moved hW.alike, a6.moved hW.alike, a7.moved hW.alike⟩
theorem Amb.calling {g : Gm} {U : State} {fr : JFrame} {mk : MethodId} {a : Array Value} (h : Amb g U) : Amb g (U.calling fr mk a) := by
  obtain ⟨a1, a2, a3, a4, a5, a6, a7⟩ := h
  exact ⟨va_K.moved (u := U) (U := U.calling fr mk a) (Vm.Alike.refl U.vm) a1, a2, fun w hw => va_Nw.same (u := U) (U := U.calling fr mk a) (nst_tab hw) rfl (a3 w hw), fun k hk3 => ⟨va_Z.moved (u := U) (U := U.calling fr mk a) (Vm.Alike.refl U.vm) (a4 k hk3).1, va_T.moved (u := U) (U := U.calling fr mk a) (Vm.Alike.refl U.vm) (a4 k hk3).2⟩, va_T.moved (u := U) (U := U.calling fr mk a) (Vm.Alike.refl U.vm) a5, va_AO.moved (u := U) (U := U.calling fr mk a) (Vm.Alike.refl U.vm) a6, va_AO.moved (u := U) (U := U.calling fr mk a) (Vm.Alike.refl U.vm) a7⟩
def rmO (d mc ms : Nat) : Room := { frames := d, cells := mc, slots := ms, locals := 64 * d }
abbrev QT : Type := Option MV → Shp → Rfs → Dat → Prop
def Pcn (g : Gm) (As : List MV) (S : Shp) (F : Rfs) (D : Dat) : Array Value → State → Prop := fun v U => v = (As.map (vv (gH g))).toArray ∧ Amb g U ∧ va_P (gD g) vwCl (wsO g S F D) U.heap ∧ U.heap.size = gH g + S.length
def Qcn (g : Gm) (S : Shp) (mc ms : Nat) (Q : QT) : Array Value → State → Outcome → State → Prop := fun _ st o t =>
  (∃ (r : Option MV) (S1 : Shp) (F1 : Rfs) (D1 : Dat), o = .returned (r.map (vv (gH g))) ∧ Q r S1 F1 D1 ∧ va_P (gD g) vwCl (wsO g S1 F1 D1) t.heap ∧ S1.length = S.length + mc ∧ szS S1 = szS S + ms) ∧ va_F (gFr g) st t
/-- the contract of a method, called with these arguments over this memory: it returns, and Q holds of the answer and of the memory then -/
def Cn (g : Gm) (l : Launch) (d mc ms : Nat) (M : Mth) (As : List MV) (S : Shp) (F : Rfs) (D : Dat) (Q : QT) : Prop :=
  Met l M.1 (.code M.1 M.2.1 M.2.2.1 M.2.2.2 :: Wd) (rmO d mc ms) (Pcn g As S F D) (Qcn g S mc ms Q) mc ms (gFr g)
theorem Pcn.blind {g : Gm} {As : List MV} {S : Shp} {F : Rfs} {D : Dat} : FrameBlind (Pcn g As S F D) := fun a U fr mk ⟨h1, h2, h3, h4⟩ => ⟨h1, h2.calling, h3, h4⟩
theorem wdIn (M : Mth) (h : Cond.code M.1 M.2.1 M.2.2.1 M.2.2.2 ∈ Wd) : GoodIn Wd (.code M.1 M.2.1 M.2.2.1 M.2.2.2 :: Wd) := by
  intro w hw
  rcases List.mem_cons.mp hw with rfl | hw
  · exact ⟨h, wdGood _ h⟩
  · exact ⟨hw, wdGood _ hw⟩
section MCalls
variable {p : Program} {l : Launch} {e : Env} {R : Room} {s : State} {m : MethodId} {args : Array Value} {below : List Frame} {meth : Method} {c : Code} {H : Heap} {locs : List Loc}
theorem k_size {g : Gm} {S : Shp} {F : Rfs} {D : Dat} {T : State} {n0 sl : Nat} (hP : va_P (gD g) vwCl (wsO g S F D) H) (hS : va_S (gFr g) s.heap H locs) (h1 : n0 ≤ S.length) (hn0 : s.heap.size = gH g + n0) (hT : T.heap = H) (X : Stand p l e R s m args below meth c T locs (S.length - n0) sl) : H.size = gH g + S.length := by
  have e1 : T.heap.size ≤ s.heap.size + (S.length - n0) := X.same.2.2.1
  have e2 : s.heap.size ≤ H.size := hS.1
  rw [hT] at e1
  by_cases hz : S.length = 0
  · omega
  · have hl : S.length - 1 < S.length := by omega
    have hg := wsO_get (g := g) (F := F) (D := D) (List.getElem?_eq_getElem hl)
    have := (hP _ _ hg).lt
    dsimp at this
    omega
/-- behind a call of any kind -/
theorem k_call {g : Gm} {n0 s0 nL : Nat} {Q : State → Prop} {S : Shp} {F : Rfs} {D : Dat} {mc ms pc : Nat} {st0 st : List MV} {lo : List MV} {ls : Array Slot} {A9 : Array Value} {Qc : QT}
    (hr : va_Run p l e R s m args below meth c H locs (S.length - n0) (szS S - s0) mc ms (F0 m pc ls (st0.map (vv (gH g)))) (st.map (vv (gH g))) (Qcn g S mc ms Qc A9) (gFr g)) (hS : va_S (gFr g) s.heap H locs) (h1 : n0 ≤ S.length) (h2 : s0 ≤ szS S) (hl : lvh (gH g) ls nL lo)
    (k : ∀ (r : Option MV) (S1 : Shp) (F1 : Rfs) (D1 : Dat), Qc r S1 F1 D1 → KW g n0 s0 nL p l e R s m args below meth c Q (pc + 3) lo (r.toList ++ st) S1 F1 D1) : W p l e R s m args below meth c H locs (S.length - n0) (szS S - s0) Q (F0 m pc ls (st0.map (vv (gH g)))) := by
  intro T hT X
  obtain ⟨v, st₀, t, T', L, h0, X', hL, e1, e2, ⟨⟨r, S1, F1, D1, hv, hq, hP1, hl1, hs1⟩, hz, hk⟩, stp⟩ := hr T hT X
  cases hv
  rw [h0] at hz hk
  have hS1 : va_S (gFr g) s.heap T'.heap (locs ++ L) := by
    refine ⟨Nat.le_trans hS.1 (by rw [e1]; exact hz), fun q h1 h2 => ?_, fun q hq => ?_⟩
    · rw [e1, hk q (Nat.lt_of_lt_of_le h1 hS.1) h2]; exact hS.2.1 q h1 h2
    · rcases List.mem_append.mp hq with h | h
      · exact hS.2.2 q h
      · exact hL q h
  have X2 : Stand p l e R s m args below meth c T' (locs ++ L) (S1.length - n0) (szS S1 - s0) := by
    have c1 : S.length - n0 + mc = S1.length - n0 := by omega
    have c2 : szS S - s0 + ms = szS S1 - s0 := by omega
    rw [← c1, ← c2]; exact X'
  obtain ⟨t2, a1, b1⟩ := k r S1 F1 D1 hq T'.heap (locs ++ L) ls (by rw [e1]; exact hP1) hS1 (by omega) (by omega) hl T' rfl X2
  refine ⟨t2, stp t2 ?_, b1⟩
  have : (r.map (vv (gH g))).toList ++ st.map (vv (gH g)) = (r.toList ++ st).map (vv (gH g)) := by
    cases r <;> rfl
  rw [this]
  exact a1
end MCalls
section MRows2
variable {g : Gm} {l : Launch} {cls : String} {cc : ByteArray} {nL d n0 s0 mc ms : Nat} {ini : Prop} {K : KT} {pc : Nat} {lo st : List MV} {S : Shp} {F : Rfs} {D : Dat}
/-- the words that stay on the stack under a call -/
def catS (st : List MV) : Nat := (st.map (fun v => match v with | .inr (.inl _) => 2 | _ => 1)).sum
theorem catS_vv (h : Nat) : ∀ st : List MV, ((st.map (vv h)).map fun v => v.category).sum = catS st
  | [] => rfl
  | v :: st => by
    have ih := catS_vv h st
    simp only [List.map_cons, List.sum_cons, catS] at ih ⊢
    rw [ih]
    rcases v with x | x | x | x | x <;> rfl
theorem r_callV (hA : Act g l cls cc nL d n0 s0 mc ms ini K) {idx d2 mc2 ms2 n ci b k : Nat} {M : Mth} {As st0 : List MV} {C : String} {T : u_T} {N : Nat} {Qc : QT} (hL : Lk cls idx M) (hM : MokV M C n) (hC : Cn g l d2 mc2 ms2 M (vR b :: As) S F D Qc) (hd : decode cc pc = .ok (.invokevirtual idx, 3)) (hst : As.reverse ++ vR b :: st = st0) (hn : As.length = n) (hs : S[b]? = some (ci, k)) (hci : ci < 100) (hcl : vwCl[ci]? = some (C, T, N)) (hcat : catS st ≤ 8) (hdd : d2 + 1 ≤ d) (hroom : S.length - n0 + mc2 ≤ mc ∧ szS S - s0 + ms2 ≤ ms) (kk : ∀ (r : Option MV) (S1 : Shp) (F1 : Rfs) (D1 : Dat), Qc r S1 F1 D1 → K (pc + 3) lo (r.toList ++ st) S1 F1 D1) : K pc lo st0 S F D := by
  obtain ⟨p, e, R, s, m, args, below, meth, c, Q, hx, hb, hml, hown, hts, hAm, hfr, hlo, hmc, hms, hin, hn0, rfl⟩ := hA
  intro H locs ls hP hS h1 h2 hl T0 hT X0
  have hsz := k_size hP hS h1 hn0 hT X0
  revert T0
  intro T0 hT X0
  subst hst
  obtain ⟨⟨hcd, hini, hnm, hmx⟩, hinst, hsel⟩ := hM
  have hg := wsO_get (g := g) (F := F) (D := D) hs
  rw [clE_obj hci] at hg
  have hp : PreV s H C (gH g + b) (Pcn g (vR b :: As) S F D) (As.map (vv (gH g))) := ⟨Pcn.blind, va_recv hAm.1 hP hcl hg, fun U hU hW => ⟨rfl, hAm.warm hW hS hU, by rw [hU]; exact hP, by rw [hU]; exact hsz⟩⟩
  have hR : (rmO d2 mc2 ms2).frames + 1 ≤ R.frames ∧ 8 + (M.2.2.1 + 11) + (rmO d2 mc2 ms2).locals ≤ R.locals := ⟨by show d2 + 1 ≤ R.frames; omega, by show 8 + (M.2.2.1 + 11) + 64 * d2 ≤ R.locals; omega⟩
  have hstk : (As.reverse ++ vR b :: st).map (vv (gH g)) = (As.map (vv (gH g))).reverse ++ .ref (gH g + b) :: st.map (vv (gH g)) := by simp [vv]
  have hf : S.length - n0 + mc2 ≤ R.cells ∧ szS S - s0 + ms2 ≤ R.slots := ⟨by omega, by omega⟩
  have hcat' : ((st.map (vv (gH g))).map fun v => v.category).sum ≤ 8 := by rw [catS_vv]; exact hcat
  refine k_call (S := S) (D := D) (F := F) (n0 := n0) (s0 := s0) (nL := nL) (mc := mc2) (ms := ms2) (st := st) (lo := lo) (Qc := Qc) (A9 := (Value.ref (gH g + b) :: As.map (vv (gH g))).toArray) ?_ hS h1 h2 hl kk T0 hT X0
  rcases hL with hL | ⟨host, hL⟩
  · exact va_runV (Ts := Wd) ⟨hx, hb, hml, hown, hts⟩ hC ⟨callB_of n hts (wdIn M hcd) rfl rfl rfl (hts _ hini) (hts _ hL) hnm hR, hts _ hinst, hts _ hsel⟩ hp rfl (by simpa using hn) hl.1 hstk (lv_room hcat') hd hf
  · exact va_runVN (Ts := Wd) ⟨hx, hb, hml, hown, hts⟩ hC ⟨va_cnB n hts (wdIn M hcd) rfl rfl rfl (hAm.2.2.1 _ hL) (hts _ hini) hnm hR, hts _ hinst, hts _ hsel⟩ hp rfl (by simpa using hn) hl.1 hstk (lv_room hcat') hd hf
theorem r_callS (hA : Act g l cls cc nL d n0 s0 mc ms ini K) {idx d2 mc2 ms2 n : Nat} {M : Mth} {As st0 : List MV} {Qc : QT} (hL : Lk cls idx M) (hM : MokS M n) (hC : Cn g l d2 mc2 ms2 M As S F D Qc) (hd : decode cc pc = .ok (.invokestatic idx, 3)) (hst : As.reverse ++ st = st0) (hn : As.length = n) (hcat : catS st ≤ 8) (hdd : d2 + 1 ≤ d) (hroom : S.length - n0 + mc2 ≤ mc ∧ szS S - s0 + ms2 ≤ ms) (kk : ∀ (r : Option MV) (S1 : Shp) (F1 : Rfs) (D1 : Dat), Qc r S1 F1 D1 → K (pc + 3) lo (r.toList ++ st) S1 F1 D1) : K pc lo st0 S F D := by
  obtain ⟨p, e, R, s, m, args, below, meth, c, Q, hx, hb, hml, hown, hts, hAm, hfr, hlo, hmc, hms, hin, hn0, rfl⟩ := hA
  intro H locs ls hP hS h1 h2 hl T0 hT X0
  have hsz := k_size hP hS h1 hn0 hT X0
  subst hst
  obtain ⟨⟨hcd, hini, hnm, hmx⟩, hstat⟩ := hM
  have hp : PreS s H (Pcn g As S F D) (As.map (vv (gH g))) := ⟨Pcn.blind, fun U hU hW => ⟨rfl, hAm.warm hW hS hU, by rw [hU]; exact hP, by rw [hU]; exact hsz⟩⟩
  have hR : (rmO d2 mc2 ms2).frames + 1 ≤ R.frames ∧ 8 + (M.2.2.1 + 11) + (rmO d2 mc2 ms2).locals ≤ R.locals := ⟨by show d2 + 1 ≤ R.frames; omega, by show 8 + (M.2.2.1 + 11) + 64 * d2 ≤ R.locals; omega⟩
  have hstk : (As.reverse ++ st).map (vv (gH g)) = (As.map (vv (gH g))).reverse ++ st.map (vv (gH g)) := by simp
  have hf : S.length - n0 + mc2 ≤ R.cells ∧ szS S - s0 + ms2 ≤ R.slots := ⟨by omega, by omega⟩
  have hcat' : ((st.map (vv (gH g))).map fun v => v.category).sum ≤ 8 := by rw [catS_vv]; exact hcat
  refine k_call (S := S) (D := D) (F := F) (n0 := n0) (s0 := s0) (nL := nL) (mc := mc2) (ms := ms2) (st := st) (lo := lo) (Qc := Qc) (A9 := (As.map (vv (gH g))).toArray) ?_ hS h1 h2 hl kk T0 hT X0
  rcases hL with hL | ⟨host, hL⟩
  · exact va_runS (Ts := Wd) ⟨hx, hb, hml, hown, hts⟩ hC ⟨callB_of n hts (wdIn M hcd) rfl rfl rfl (hts _ hini) (hts _ hL) hnm hR, hts _ hstat⟩ hp rfl (by simpa using hn) hl.1 hstk (lv_room hcat') hd hf
  · exact va_runSN (Ts := Wd) ⟨hx, hb, hml, hown, hts⟩ hC ⟨va_cnB n hts (wdIn M hcd) rfl rfl rfl (hAm.2.2.1 _ hL) (hts _ hini) hnm hR, hts _ hstat, trivial⟩ hp rfl (by simpa using hn) hl.1 hstk (lv_room hcat') hd hf
theorem r_callI (hA : Act g l cls cc nL d n0 s0 mc ms ini K) {idx d2 mc2 ms2 n b : Nat} {M : Mth} {As st0 : List MV} {Qc : QT} (hL : Lk cls idx M) (hM : MokI M n) (hC : Cn g l d2 mc2 ms2 M (vR b :: As) S F D Qc) (hd : decode cc pc = .ok (.invokespecial idx, 3)) (hst : As.reverse ++ vR b :: st = st0) (hn : As.length = n) (hcat : catS st ≤ 8) (hdd : d2 + 1 ≤ d) (hroom : S.length - n0 + mc2 ≤ mc ∧ szS S - s0 + ms2 ≤ ms) (kk : ∀ (r : Option MV) (S1 : Shp) (F1 : Rfs) (D1 : Dat), Qc r S1 F1 D1 → K (pc + 3) lo (r.toList ++ st) S1 F1 D1) : K pc lo st0 S F D := by
  obtain ⟨p, e, R, s, m, args, below, meth, c, Q, hx, hb, hml, hown, hts, hAm, hfr, hlo, hmc, hms, hin, hn0, rfl⟩ := hA
  intro H locs ls hP hS h1 h2 hl T0 hT X0
  have hsz := k_size hP hS h1 hn0 hT X0
  subst hst
  obtain ⟨⟨hcd, hini, hnm, hmx⟩, hinst, hnin, hrn⟩ := hM
  obtain ⟨y, bytes, maxL, ret⟩ := M
  dsimp only at hrn hcd hini hnm hmx hinst hnin
  subst hrn
  have hp : PreS s H (Pcn g (vR b :: As) S F D) (.ref (gH g + b) :: As.map (vv (gH g))) := ⟨Pcn.blind, fun U hU hW => ⟨rfl, hAm.warm hW hS hU, by rw [hU]; exact hP, by rw [hU]; exact hsz⟩⟩
  have hR : (rmO d2 mc2 ms2).frames + 1 ≤ R.frames ∧ 8 + (maxL + 11) + (rmO d2 mc2 ms2).locals ≤ R.locals := ⟨by show d2 + 1 ≤ R.frames; omega, by show 8 + (maxL + 11) + 64 * d2 ≤ R.locals; omega⟩
  have hstk : (As.reverse ++ vR b :: st).map (vv (gH g)) = (As.map (vv (gH g))).reverse ++ .ref (gH g + b) :: st.map (vv (gH g)) := by simp [vv]
  have hf : S.length - n0 + mc2 ≤ R.cells ∧ szS S - s0 + ms2 ≤ R.slots := ⟨by omega, by omega⟩
  have hcat' : ((st.map (vv (gH g))).map fun v => v.category).sum ≤ 8 := by rw [catS_vv]; exact hcat
  refine k_call (S := S) (D := D) (F := F) (n0 := n0) (s0 := s0) (nL := nL) (mc := mc2) (ms := ms2) (st := st) (lo := lo) (Qc := Qc) (A9 := (Value.ref (gH g + b) :: As.map (vv (gH g))).toArray) ?_ hS h1 h2 hl kk T0 hT X0
  rcases hL with hL | ⟨host, hL⟩
  · exact va_runI (Ts := Wd) ⟨hx, hb, hml, hown, hts⟩ hC ⟨callB_of n hts (wdIn (y, bytes, maxL, none) hcd) rfl rfl rfl (hts _ hini) (hts _ hL) hnm hR, hnin, hts _ hinst⟩ hp rfl (by simpa using hn) hl.1 hstk (lv_room hcat') hd hf
  · exact va_runIN (Ts := Wd) ⟨hx, hb, hml, hown, hts⟩ hC ⟨va_cnB n hts (wdIn (y, bytes, maxL, none) hcd) rfl rfl rfl (hAm.2.2.1 _ hL) (hts _ hini) hnm hR, hnin, hts _ hinst⟩ hp rfl (by simpa using hn) hl.1 hstk (lv_room hcat') hd hf
end MRows2
