theorem zX10_moves {g : Gm} {l : Launch} {D : Dat} {m : Int} (ho : mOk D 284) (hg : 0 < D 284 0 ∧ D 284 1 < D 284 0 ∧ D 284 2 < D 284 0) (hm : 0 ≤ m ∧ m ≤ 2) (hy : m = 2 ∨ bnM D m ≠ -4) : CrI g l 5 mX10_moves [vR 283, vI m] D (fun v D1 => movQ D D1 v m) := by
  by_cases h : m = 2
  · exact zX10_moves_t ho hg h
  · exact zX10_moves_f ho hg (by omega) (by omega)
