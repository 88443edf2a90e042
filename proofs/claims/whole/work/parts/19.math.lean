def absI (x : Int32) : Int32 := if 0 ≤ x then x else 0 - x
def absL (x : Int64) : Int64 := if 0 < x then x else -x
def maxI (a b : Int32) : Int32 := if a < b then b else a
section
variable {X : Fr} {cc : ByteArray} {own : String} {d : Nat} {S : St} {pc : Nat} {lv rest : List Value} {idx : Nat}
theorem r_absI {x : Int32} (h : Ok X cc own d) (hlink : Cond.methodLink own idx yJ9_abs_0f7a4 ∈ tb) (hd : 1 ≤ d) (hroom : (rest.map fun v => v.category).sum ≤ 8) (dg : decode cc pc = .ok (.invokestatic idx, 3)) (k : Wx X S (pc + 3) lv (.int (absI x) :: rest)) : Wx X S pc lv (.int x :: rest) := by
  intro H locs ls hP hS hl
  have hts := h.2.2.2.2.1
  have hfr := h.2.2.2.2.2.2.2.1
  exact va_mabs h.1 h.2.1 (h.2.2.1.trans hl.1.1.symm) h.2.2.2.1 (hts _ hlink) (hts _ kJ9_abs_0f7a4.2) (hts _ kJ9_abs_0f7a4.1.2.1) (hts _ kJ9_abs_0f7a4.1.1) (by omega) (by omega) h.2.2.2.2.2.2.2.2.1 h.2.2.2.2.2.2.2.2.2 dg (k H locs ls hP hS hl)
theorem r_absL {x : Int64} (h : Ok X cc own d) (hlink : Cond.methodLink own idx yJ9_abs_067f4 ∈ tb) (hd : 1 ≤ d) (hroom : (rest.map fun v => v.category).sum ≤ 8) (dg : decode cc pc = .ok (.invokestatic idx, 3)) (k : Wx X S (pc + 3) lv (.long (absL x) :: rest)) : Wx X S pc lv (.long x :: rest) := by
  intro H locs ls hP hS hl
  have hts := h.2.2.2.2.1
  have hfr := h.2.2.2.2.2.2.2.1
  exact va_mabs_long h.1 h.2.1 (h.2.2.1.trans hl.1.1.symm) h.2.2.2.1 (hts _ hlink) (hts _ kJ9_abs_067f4.2) (hts _ kJ9_abs_067f4.1.2.1) (hts _ kJ9_abs_067f4.1.1) (by omega) (by omega) h.2.2.2.2.2.2.2.2.1 h.2.2.2.2.2.2.2.2.2 dg (k H locs ls hP hS hl)
theorem r_maxI {x y : Int32} (h : Ok X cc own d) (hlink : Cond.methodLink own idx yJ9_max_7cf53 ∈ tb) (hd : 1 ≤ d) (hroom : (rest.map fun v => v.category).sum ≤ 8) (dg : decode cc pc = .ok (.invokestatic idx, 3)) (k : Wx X S (pc + 3) lv (.int (maxI x y) :: rest)) : Wx X S pc lv (.int y :: .int x :: rest) := by
  intro H locs ls hP hS hl
  have hts := h.2.2.2.2.1
  have hfr := h.2.2.2.2.2.2.2.1
  exact va_mmax h.1 h.2.1 (h.2.2.1.trans hl.1.1.symm) h.2.2.2.1 (hts _ hlink) (hts _ kJ9_max_7cf53.2) (hts _ kJ9_max_7cf53.1.2.1) (hts _ kJ9_max_7cf53.1.1) (by omega) (by omega) h.2.2.2.2.2.2.2.2.1 h.2.2.2.2.2.2.2.2.2 dg (k H locs ls hP hS hl)
theorem atN_1 {i : Nat} (h : Ok X cc own d) (hi : i < 6) (dg : decode cc pc = .ok (.iaload, 1)) (k : Wx X S (pc + 1) lv (.int (tabF i) :: rest)) : Wx X S pc lv (.int (nI i) :: .ref (fT1 (xw X)) :: rest) := by
  refine at_1 h (vin hi) dg ?_
  rw [ncl (by omega)]
  exact k
theorem atN_2 {i : Nat} (h : Ok X cc own d) (hi : i < 25) (dg : decode cc pc = .ok (.iaload, 1)) (k : Wx X S (pc + 1) lv (.int (tabC i) :: rest)) : Wx X S pc lv (.int (nI i) :: .ref (fT2 (xw X)) :: rest) := by
  refine at_2 h (vin hi) dg ?_
  rw [ncl (by omega)]
  exact k
end
