section
variable {X : Fr} {cc : ByteArray} {own : String} {d : Nat} {S : St} {pc : Nat} {lv st : List Value}
theorem r_sw3 (tD t0 t1 t2 : Nat) {dflt o0 o1 o2 : Int} {len : Nat} {x : Int32} (h : Ok X cc own d) (dg : decode cc pc = .ok (.tableswitch dflt 0 2 #[o0, o1, o2], len)) (eD : (pc : Int) + dflt = (tD : Int)) (e0 : (pc : Int) + o0 = (t0 : Int)) (e1 : (pc : Int) + o1 = (t1 : Int)) (e2 : (pc : Int) + o2 = (t2 : Int)) (kD : (x < 0 ∨ 2 < x) → Wx X S tD lv st) (k0 : x = 0 → Wx X S t0 lv st) (k1 : x = 1 → Wx X S t1 lv st) (k2 : x = 2 → Wx X S t2 lv st) : Wx X S pc lv (.int x :: st) := by
  by_cases c0 : x < 0
  · exact r_swOut tD h dg (Or.inl (Int32.lt_iff_toInt_lt.mp c0)) eD (kD (Or.inl c0))
  by_cases c1 : (2 : Int32) < x
  · exact r_swOut tD h dg (Or.inr (Int32.lt_iff_toInt_lt.mp c1)) eD (kD (Or.inr c1))
  obtain ⟨j, hj, rfl⟩ := nI_of2 (M := 2) (n := 2) (by decide) c0 (Int32.not_lt.mp c1)
  have g1 : ¬ (nI j).toInt < 0 := by rw [nI_toInt (by omega)]; omega
  have g2 : ¬ (2 : Int) < (nI j).toInt := by rw [nI_toInt (by omega)]; omega
  have e : ((nI j).toInt - 0).toNat = j := by rw [nI_toInt (by omega)]; omega
  match j, hj with
  | 0, _ => exact r_swIn (off := o0) t0 h dg g1 g2 (by rw [e]; rfl) e0 (k0 rfl)
  | 1, _ => exact r_swIn (off := o1) t1 h dg g1 g2 (by rw [e]; rfl) e1 (k1 rfl)
  | 2, _ => exact r_swIn (off := o2) t2 h dg g1 g2 (by rw [e]; rfl) e2 (k2 rfl)
  | j + 3, hj => exact absurd hj (by omega)
theorem r_sw5 (tD t0 t1 t2 t3 t4 : Nat) {dflt o0 o1 o2 o3 o4 : Int} {len : Nat} {x : Int32} (h : Ok X cc own d) (dg : decode cc pc = .ok (.tableswitch dflt 0 4 #[o0, o1, o2, o3, o4], len)) (eD : (pc : Int) + dflt = (tD : Int)) (e0 : (pc : Int) + o0 = (t0 : Int)) (e1 : (pc : Int) + o1 = (t1 : Int)) (e2 : (pc : Int) + o2 = (t2 : Int)) (e3 : (pc : Int) + o3 = (t3 : Int)) (e4 : (pc : Int) + o4 = (t4 : Int)) (kD : (x < 0 ∨ 4 < x) → Wx X S tD lv st) (k0 : x = 0 → Wx X S t0 lv st) (k1 : x = 1 → Wx X S t1 lv st) (k2 : x = 2 → Wx X S t2 lv st) (k3 : x = 3 → Wx X S t3 lv st) (k4 : x = 4 → Wx X S t4 lv st) : Wx X S pc lv (.int x :: st) := by
  by_cases c0 : x < 0
  · exact r_swOut tD h dg (Or.inl (Int32.lt_iff_toInt_lt.mp c0)) eD (kD (Or.inl c0))
  by_cases c1 : (4 : Int32) < x
  · exact r_swOut tD h dg (Or.inr (Int32.lt_iff_toInt_lt.mp c1)) eD (kD (Or.inr c1))
  obtain ⟨j, hj, rfl⟩ := nI_of2 (M := 4) (n := 4) (by decide) c0 (Int32.not_lt.mp c1)
  have g1 : ¬ (nI j).toInt < 0 := by rw [nI_toInt (by omega)]; omega
  have g2 : ¬ (4 : Int) < (nI j).toInt := by rw [nI_toInt (by omega)]; omega
  have e : ((nI j).toInt - 0).toNat = j := by rw [nI_toInt (by omega)]; omega
  match j, hj with
  | 0, _ => exact r_swIn (off := o0) t0 h dg g1 g2 (by rw [e]; rfl) e0 (k0 rfl)
  | 1, _ => exact r_swIn (off := o1) t1 h dg g1 g2 (by rw [e]; rfl) e1 (k1 rfl)
  | 2, _ => exact r_swIn (off := o2) t2 h dg g1 g2 (by rw [e]; rfl) e2 (k2 rfl)
  | 3, _ => exact r_swIn (off := o3) t3 h dg g1 g2 (by rw [e]; rfl) e3 (k3 rfl)
  | 4, _ => exact r_swIn (off := o4) t4 h dg g1 g2 (by rw [e]; rfl) e4 (k4 rfl)
  | j + 5, hj => exact absurd hj (by omega)
theorem r_sw6 (tD t0 t1 t2 t3 t4 t5 : Nat) {dflt o0 o1 o2 o3 o4 o5 : Int} {len : Nat} {x : Int32} (h : Ok X cc own d) (dg : decode cc pc = .ok (.tableswitch dflt 0 5 #[o0, o1, o2, o3, o4, o5], len)) (eD : (pc : Int) + dflt = (tD : Int)) (e0 : (pc : Int) + o0 = (t0 : Int)) (e1 : (pc : Int) + o1 = (t1 : Int)) (e2 : (pc : Int) + o2 = (t2 : Int)) (e3 : (pc : Int) + o3 = (t3 : Int)) (e4 : (pc : Int) + o4 = (t4 : Int)) (e5 : (pc : Int) + o5 = (t5 : Int)) (kD : (x < 0 ∨ 5 < x) → Wx X S tD lv st) (k0 : x = 0 → Wx X S t0 lv st) (k1 : x = 1 → Wx X S t1 lv st) (k2 : x = 2 → Wx X S t2 lv st) (k3 : x = 3 → Wx X S t3 lv st) (k4 : x = 4 → Wx X S t4 lv st) (k5 : x = 5 → Wx X S t5 lv st) : Wx X S pc lv (.int x :: st) := by
  by_cases c0 : x < 0
  · exact r_swOut tD h dg (Or.inl (Int32.lt_iff_toInt_lt.mp c0)) eD (kD (Or.inl c0))
  by_cases c1 : (5 : Int32) < x
  · exact r_swOut tD h dg (Or.inr (Int32.lt_iff_toInt_lt.mp c1)) eD (kD (Or.inr c1))
  obtain ⟨j, hj, rfl⟩ := nI_of2 (M := 5) (n := 5) (by decide) c0 (Int32.not_lt.mp c1)
  have g1 : ¬ (nI j).toInt < 0 := by rw [nI_toInt (by omega)]; omega
  have g2 : ¬ (5 : Int) < (nI j).toInt := by rw [nI_toInt (by omega)]; omega
  have e : ((nI j).toInt - 0).toNat = j := by rw [nI_toInt (by omega)]; omega
  match j, hj with
  | 0, _ => exact r_swIn (off := o0) t0 h dg g1 g2 (by rw [e]; rfl) e0 (k0 rfl)
  | 1, _ => exact r_swIn (off := o1) t1 h dg g1 g2 (by rw [e]; rfl) e1 (k1 rfl)
  | 2, _ => exact r_swIn (off := o2) t2 h dg g1 g2 (by rw [e]; rfl) e2 (k2 rfl)
  | 3, _ => exact r_swIn (off := o3) t3 h dg g1 g2 (by rw [e]; rfl) e3 (k3 rfl)
  | 4, _ => exact r_swIn (off := o4) t4 h dg g1 g2 (by rw [e]; rfl) e4 (k4 rfl)
  | 5, _ => exact r_swIn (off := o5) t5 h dg g1 g2 (by rw [e]; rfl) e5 (k5 rfl)
  | j + 6, hj => exact absurd hj (by omega)
theorem r_sw19 (tD t0 t1 t2 t3 t4 t5 t6 t7 t8 t9 t10 t11 t12 t13 t14 t15 t16 t17 t18 : Nat) {dflt o0 o1 o2 o3 o4 o5 o6 o7 o8 o9 o10 o11 o12 o13 o14 o15 o16 o17 o18 : Int} {len : Nat} {x : Int32} (h : Ok X cc own d) (dg : decode cc pc = .ok (.tableswitch dflt 0 18 #[o0, o1, o2, o3, o4, o5, o6, o7, o8, o9, o10, o11, o12, o13, o14, o15, o16, o17, o18], len)) (eD : (pc : Int) + dflt = (tD : Int)) (e0 : (pc : Int) + o0 = (t0 : Int)) (e1 : (pc : Int) + o1 = (t1 : Int)) (e2 : (pc : Int) + o2 = (t2 : Int)) (e3 : (pc : Int) + o3 = (t3 : Int)) (e4 : (pc : Int) + o4 = (t4 : Int)) (e5 : (pc : Int) + o5 = (t5 : Int)) (e6 : (pc : Int) + o6 = (t6 : Int)) (e7 : (pc : Int) + o7 = (t7 : Int)) (e8 : (pc : Int) + o8 = (t8 : Int)) (e9 : (pc : Int) + o9 = (t9 : Int)) (e10 : (pc : Int) + o10 = (t10 : Int)) (e11 : (pc : Int) + o11 = (t11 : Int)) (e12 : (pc : Int) + o12 = (t12 : Int)) (e13 : (pc : Int) + o13 = (t13 : Int)) (e14 : (pc : Int) + o14 = (t14 : Int)) (e15 : (pc : Int) + o15 = (t15 : Int)) (e16 : (pc : Int) + o16 = (t16 : Int)) (e17 : (pc : Int) + o17 = (t17 : Int)) (e18 : (pc : Int) + o18 = (t18 : Int)) (kD : (x < 0 ∨ 18 < x) → Wx X S tD lv st) (k0 : x = 0 → Wx X S t0 lv st) (k1 : x = 1 → Wx X S t1 lv st) (k2 : x = 2 → Wx X S t2 lv st) (k3 : x = 3 → Wx X S t3 lv st) (k4 : x = 4 → Wx X S t4 lv st) (k5 : x = 5 → Wx X S t5 lv st) (k6 : x = 6 → Wx X S t6 lv st) (k7 : x = 7 → Wx X S t7 lv st) (k8 : x = 8 → Wx X S t8 lv st) (k9 : x = 9 → Wx X S t9 lv st) (k10 : x = 10 → Wx X S t10 lv st) (k11 : x = 11 → Wx X S t11 lv st) (k12 : x = 12 → Wx X S t12 lv st) (k13 : x = 13 → Wx X S t13 lv st) (k14 : x = 14 → Wx X S t14 lv st) (k15 : x = 15 → Wx X S t15 lv st) (k16 : x = 16 → Wx X S t16 lv st) (k17 : x = 17 → Wx X S t17 lv st) (k18 : x = 18 → Wx X S t18 lv st) : Wx X S pc lv (.int x :: st) := by
  by_cases c0 : x < 0
  · exact r_swOut tD h dg (Or.inl (Int32.lt_iff_toInt_lt.mp c0)) eD (kD (Or.inl c0))
  by_cases c1 : (18 : Int32) < x
  · exact r_swOut tD h dg (Or.inr (Int32.lt_iff_toInt_lt.mp c1)) eD (kD (Or.inr c1))
  obtain ⟨j, hj, rfl⟩ := nI_of2 (M := 18) (n := 18) (by decide) c0 (Int32.not_lt.mp c1)
  have g1 : ¬ (nI j).toInt < 0 := by rw [nI_toInt (by omega)]; omega
  have g2 : ¬ (18 : Int) < (nI j).toInt := by rw [nI_toInt (by omega)]; omega
  have e : ((nI j).toInt - 0).toNat = j := by rw [nI_toInt (by omega)]; omega
  match j, hj with
  | 0, _ => exact r_swIn (off := o0) t0 h dg g1 g2 (by rw [e]; rfl) e0 (k0 rfl)
  | 1, _ => exact r_swIn (off := o1) t1 h dg g1 g2 (by rw [e]; rfl) e1 (k1 rfl)
  | 2, _ => exact r_swIn (off := o2) t2 h dg g1 g2 (by rw [e]; rfl) e2 (k2 rfl)
  | 3, _ => exact r_swIn (off := o3) t3 h dg g1 g2 (by rw [e]; rfl) e3 (k3 rfl)
  | 4, _ => exact r_swIn (off := o4) t4 h dg g1 g2 (by rw [e]; rfl) e4 (k4 rfl)
  | 5, _ => exact r_swIn (off := o5) t5 h dg g1 g2 (by rw [e]; rfl) e5 (k5 rfl)
  | 6, _ => exact r_swIn (off := o6) t6 h dg g1 g2 (by rw [e]; rfl) e6 (k6 rfl)
  | 7, _ => exact r_swIn (off := o7) t7 h dg g1 g2 (by rw [e]; rfl) e7 (k7 rfl)
  | 8, _ => exact r_swIn (off := o8) t8 h dg g1 g2 (by rw [e]; rfl) e8 (k8 rfl)
  | 9, _ => exact r_swIn (off := o9) t9 h dg g1 g2 (by rw [e]; rfl) e9 (k9 rfl)
  | 10, _ => exact r_swIn (off := o10) t10 h dg g1 g2 (by rw [e]; rfl) e10 (k10 rfl)
  | 11, _ => exact r_swIn (off := o11) t11 h dg g1 g2 (by rw [e]; rfl) e11 (k11 rfl)
  | 12, _ => exact r_swIn (off := o12) t12 h dg g1 g2 (by rw [e]; rfl) e12 (k12 rfl)
  | 13, _ => exact r_swIn (off := o13) t13 h dg g1 g2 (by rw [e]; rfl) e13 (k13 rfl)
  | 14, _ => exact r_swIn (off := o14) t14 h dg g1 g2 (by rw [e]; rfl) e14 (k14 rfl)
  | 15, _ => exact r_swIn (off := o15) t15 h dg g1 g2 (by rw [e]; rfl) e15 (k15 rfl)
  | 16, _ => exact r_swIn (off := o16) t16 h dg g1 g2 (by rw [e]; rfl) e16 (k16 rfl)
  | 17, _ => exact r_swIn (off := o17) t17 h dg g1 g2 (by rw [e]; rfl) e17 (k17 rfl)
  | 18, _ => exact r_swIn (off := o18) t18 h dg g1 g2 (by rw [e]; rfl) e18 (k18 rfl)
  | j + 19, hj => exact absurd hj (by omega)
theorem r_lk2 (tD t0 t1 : Nat) {dflt o0 o1 : Int} {len : Nat} {x : Int32} (h : Ok X cc own d) (dg : decode cc pc = .ok (.lookupswitch dflt #[(0, o0), (1, o1)], len)) (eD : (pc : Int) + dflt = (tD : Int)) (e0 : (pc : Int) + o0 = (t0 : Int)) (e1 : (pc : Int) + o1 = (t1 : Int)) (kD : (¬ x = 0 ∧ ¬ x = 1) → Wx X S tD lv st) (k0 : x = 0 → Wx X S t0 lv st) (k1 : x = 1 → Wx X S t1 lv st) : Wx X S pc lv (.int x :: st) := by
  by_cases c0 : x = 0
  · exact r_look (off := o0) t0 h dg rfl (by subst c0; rfl) e0 (k0 c0)
  by_cases c1 : x = 1
  · refine r_look (off := o1) t1 h dg rfl ?_ e1 (k1 c1)
    rw [show (#[(0, o0), (1, o1)] : Array (Int × Int)).toList = [(0, o0), (1, o1)] from rfl, lv_osw c0 (by decide)]
    subst c1
    rfl
  · refine r_look (off := dflt) tD h dg rfl ?_ eD (kD ⟨c0, c1⟩)
    rw [show (#[(0, o0), (1, o1)] : Array (Int × Int)).toList = [(0, o0), (1, o1)] from rfl, lv_osw c0 (by decide), lv_osw c1 (by decide)]
    rfl
end
/-- a counter that runs down: nI m less 1 -/
def pI (m : Nat) : Int32 := nI m - 1
theorem pI_s (m : Nat) : pI (m + 1) = nI m := nI_pred m
theorem pI_d (m : Nat) : pI (m + 1) + (-1) = pI m := by rw [pI_s]; unfold pI; rw [Int32.sub_eq_add_neg]
theorem pI_0 : pI 0 < 0 := by decide
theorem pI_p {m : Nat} (h : m < 2 ^ 31) : ¬ pI (m + 1) < 0 := by rw [pI_s]; exact nI_pos h
theorem vin {i N : Nat} (h : i < N) (hN : N < 2 ^ 31 := by decide) : vp_in (nI i) N := vp_in_nI h hN
theorem ncl {n : Nat} (h : n < 2 ^ 31) : (nI n).toNatClampNeg = n := nI_clamp h
theorem bigT {a b : Nat} (h : a ≤ b) (hb : b < 2 ^ 31) : nI a ≤ nI b := nI_le h hb
theorem bigF {a b : Nat} (h : b < a) (hb : a < 2 ^ 31) : ¬ nI a ≤ nI b := nI_ge h hb
theorem gtT {a b : Nat} (h : a < b) (hb : b < 2 ^ 31) : nI a < nI b := nI_lt h hb
theorem gtF {a b : Nat} (h : b ≤ a) (hb : a < 2 ^ 31) : ¬ nI a < nI b := nI_nlt h hb
theorem ixN {p : Int32} {N : Nat} (hN : N < 2 ^ 31) (h1 : ¬ p < 0) (h2 : ¬ nI N ≤ p) : vp_in p N := by
  rcases pk_ix p hN with q | q | ⟨j, hj, rfl⟩
  · exact absurd q h1
  · exact absurd q h2
  · exact vp_in_nI hj hN
theorem nar1 : vp_nar .boolean 1 = 1 := by decide
theorem nar0 : vp_nar .boolean 0 = 0 := by decide
section
variable {X : Fr} {cc : ByteArray} {own : String} {d : Nat} {S : St} {pc : Nat} {lv st : List Value}
theorem alN_2 {i : Nat} (h : Ok X cc own d) (hi : i < 40) (dg : decode cc pc = .ok (.baload, 1)) (k : Wx X S (pc + 1) lv (.int (S.1 0 i) :: st)) : Wx X S pc lv (.int (nI i) :: .ref (aD (xw X) 2) :: st) := by
  refine al_2 h (vin hi) dg ?_
  rw [ncl (by omega)]
  exact k
theorem as0_2 {i : Int32} (h : Ok X cc own d) (hin : vp_in i 40) (dg : decode cc pc = .ok (.bastore, 1)) (k : Wx X (sI S 0 i.toNatClampNeg 0) (pc + 1) lv st) : Wx X S pc lv (.int 0 :: .int i :: .ref (aD (xw X) 2) :: st) := by
  refine as_2 h hin dg ?_
  rw [nar0]
  exact k
theorem as1_2 {i : Int32} (h : Ok X cc own d) (hin : vp_in i 40) (dg : decode cc pc = .ok (.bastore, 1)) (k : Wx X (sI S 0 i.toNatClampNeg 1) (pc + 1) lv st) : Wx X S pc lv (.int 1 :: .int i :: .ref (aD (xw X) 2) :: st) := by
  refine as_2 h hin dg ?_
  rw [nar1]
  exact k
theorem alN_3 {i : Nat} (h : Ok X cc own d) (hi : i < 40) (dg : decode cc pc = .ok (.iaload, 1)) (k : Wx X S (pc + 1) lv (.int (S.1 1 i) :: st)) : Wx X S pc lv (.int (nI i) :: .ref (aD (xw X) 3) :: st) := by
  refine al_3 h (vin hi) dg ?_
  rw [ncl (by omega)]
  exact k
theorem asN_3 {i : Nat} {x : Int32} (h : Ok X cc own d) (hi : i < 40) (dg : decode cc pc = .ok (.iastore, 1)) (k : Wx X (sI S 1 i x) (pc + 1) lv st) : Wx X S pc lv (.int x :: .int (nI i) :: .ref (aD (xw X) 3) :: st) := by
  refine as_3 h (vin hi) dg ?_
  rw [ncl (by omega)]
  exact k
theorem alN_4 {i : Nat} (h : Ok X cc own d) (hi : i < 40) (dg : decode cc pc = .ok (.iaload, 1)) (k : Wx X S (pc + 1) lv (.int (S.1 2 i) :: st)) : Wx X S pc lv (.int (nI i) :: .ref (aD (xw X) 4) :: st) := by
  refine al_4 h (vin hi) dg ?_
  rw [ncl (by omega)]
  exact k
theorem asN_4 {i : Nat} {x : Int32} (h : Ok X cc own d) (hi : i < 40) (dg : decode cc pc = .ok (.iastore, 1)) (k : Wx X (sI S 2 i x) (pc + 1) lv st) : Wx X S pc lv (.int x :: .int (nI i) :: .ref (aD (xw X) 4) :: st) := by
  refine as_4 h (vin hi) dg ?_
  rw [ncl (by omega)]
  exact k
theorem alN_5 {i : Nat} (h : Ok X cc own d) (hi : i < 40) (dg : decode cc pc = .ok (.iaload, 1)) (k : Wx X S (pc + 1) lv (.int (S.1 3 i) :: st)) : Wx X S pc lv (.int (nI i) :: .ref (aD (xw X) 5) :: st) := by
  refine al_5 h (vin hi) dg ?_
  rw [ncl (by omega)]
  exact k
theorem asN_5 {i : Nat} {x : Int32} (h : Ok X cc own d) (hi : i < 40) (dg : decode cc pc = .ok (.iastore, 1)) (k : Wx X (sI S 3 i x) (pc + 1) lv st) : Wx X S pc lv (.int x :: .int (nI i) :: .ref (aD (xw X) 5) :: st) := by
  refine as_5 h (vin hi) dg ?_
  rw [ncl (by omega)]
  exact k
theorem alN_6 {i : Nat} (h : Ok X cc own d) (hi : i < 40) (dg : decode cc pc = .ok (.iaload, 1)) (k : Wx X S (pc + 1) lv (.int (S.1 4 i) :: st)) : Wx X S pc lv (.int (nI i) :: .ref (aD (xw X) 6) :: st) := by
  refine al_6 h (vin hi) dg ?_
  rw [ncl (by omega)]
  exact k
theorem asN_6 {i : Nat} {x : Int32} (h : Ok X cc own d) (hi : i < 40) (dg : decode cc pc = .ok (.iastore, 1)) (k : Wx X (sI S 4 i x) (pc + 1) lv st) : Wx X S pc lv (.int x :: .int (nI i) :: .ref (aD (xw X) 6) :: st) := by
  refine as_6 h (vin hi) dg ?_
  rw [ncl (by omega)]
  exact k
theorem alN_7 {i : Nat} (h : Ok X cc own d) (hi : i < 40) (dg : decode cc pc = .ok (.iaload, 1)) (k : Wx X S (pc + 1) lv (.int (S.1 5 i) :: st)) : Wx X S pc lv (.int (nI i) :: .ref (aD (xw X) 7) :: st) := by
  refine al_7 h (vin hi) dg ?_
  rw [ncl (by omega)]
  exact k
theorem asN_7 {i : Nat} {x : Int32} (h : Ok X cc own d) (hi : i < 40) (dg : decode cc pc = .ok (.iastore, 1)) (k : Wx X (sI S 5 i x) (pc + 1) lv st) : Wx X S pc lv (.int x :: .int (nI i) :: .ref (aD (xw X) 7) :: st) := by
  refine as_7 h (vin hi) dg ?_
  rw [ncl (by omega)]
  exact k
theorem alN_9 {i : Nat} (h : Ok X cc own d) (hi : i < 1365) (dg : decode cc pc = .ok (.iaload, 1)) (k : Wx X S (pc + 1) lv (.int (S.1 7 i) :: st)) : Wx X S pc lv (.int (nI i) :: .ref (aD (xw X) 9) :: st) := by
  refine al_9 h (vin hi) dg ?_
  rw [ncl (by omega)]
  exact k
theorem asN_9 {i : Nat} {x : Int32} (h : Ok X cc own d) (hi : i < 1365) (dg : decode cc pc = .ok (.iastore, 1)) (k : Wx X (sI S 7 i x) (pc + 1) lv st) : Wx X S pc lv (.int x :: .int (nI i) :: .ref (aD (xw X) 9) :: st) := by
  refine as_9 h (vin hi) dg ?_
  rw [ncl (by omega)]
  exact k
theorem alN_10 {i : Nat} (h : Ok X cc own d) (hi : i < 25) (dg : decode cc pc = .ok (.laload, 1)) (k : Wx X S (pc + 1) lv (.long (S.2 0 i) :: st)) : Wx X S pc lv (.int (nI i) :: .ref (aD (xw X) 10) :: st) := by
  refine al_10 h (vin hi) dg ?_
  rw [ncl (by omega)]
  exact k
theorem asN_10 {i : Nat} {x : Int64} (h : Ok X cc own d) (hi : i < 25) (dg : decode cc pc = .ok (.lastore, 1)) (k : Wx X (sJ S 0 i x) (pc + 1) lv st) : Wx X S pc lv (.long x :: .int (nI i) :: .ref (aD (xw X) 10) :: st) := by
  refine as_10 h (vin hi) dg ?_
  rw [ncl (by omega)]
  exact k
theorem alN_12 {i : Nat} (h : Ok X cc own d) (hi : i < 25) (dg : decode cc pc = .ok (.laload, 1)) (k : Wx X S (pc + 1) lv (.long (S.2 1 i) :: st)) : Wx X S pc lv (.int (nI i) :: .ref (aD (xw X) 12) :: st) := by
  refine al_12 h (vin hi) dg ?_
  rw [ncl (by omega)]
  exact k
theorem asN_12 {i : Nat} {x : Int64} (h : Ok X cc own d) (hi : i < 25) (dg : decode cc pc = .ok (.lastore, 1)) (k : Wx X (sJ S 1 i x) (pc + 1) lv st) : Wx X S pc lv (.long x :: .int (nI i) :: .ref (aD (xw X) 12) :: st) := by
  refine as_12 h (vin hi) dg ?_
  rw [ncl (by omega)]
  exact k
theorem alN_15 {i : Nat} (h : Ok X cc own d) (hi : i < 25) (dg : decode cc pc = .ok (.laload, 1)) (k : Wx X S (pc + 1) lv (.long (S.2 2 i) :: st)) : Wx X S pc lv (.int (nI i) :: .ref (aD (xw X) 15) :: st) := by
  refine al_15 h (vin hi) dg ?_
  rw [ncl (by omega)]
  exact k
theorem asN_15 {i : Nat} {x : Int64} (h : Ok X cc own d) (hi : i < 25) (dg : decode cc pc = .ok (.lastore, 1)) (k : Wx X (sJ S 2 i x) (pc + 1) lv st) : Wx X S pc lv (.long x :: .int (nI i) :: .ref (aD (xw X) 15) :: st) := by
  refine as_15 h (vin hi) dg ?_
  rw [ncl (by omega)]
  exact k
theorem alN_17 {i : Nat} (h : Ok X cc own d) (hi : i < 40) (dg : decode cc pc = .ok (.iaload, 1)) (k : Wx X S (pc + 1) lv (.int (S.1 10 i) :: st)) : Wx X S pc lv (.int (nI i) :: .ref (aD (xw X) 17) :: st) := by
  refine al_17 h (vin hi) dg ?_
  rw [ncl (by omega)]
  exact k
theorem asN_17 {i : Nat} {x : Int32} (h : Ok X cc own d) (hi : i < 40) (dg : decode cc pc = .ok (.iastore, 1)) (k : Wx X (sI S 10 i x) (pc + 1) lv st) : Wx X S pc lv (.int x :: .int (nI i) :: .ref (aD (xw X) 17) :: st) := by
  refine as_17 h (vin hi) dg ?_
  rw [ncl (by omega)]
  exact k
theorem alN_18 {i : Nat} (h : Ok X cc own d) (hi : i < 40) (dg : decode cc pc = .ok (.iaload, 1)) (k : Wx X S (pc + 1) lv (.int (S.1 11 i) :: st)) : Wx X S pc lv (.int (nI i) :: .ref (aD (xw X) 18) :: st) := by
  refine al_18 h (vin hi) dg ?_
  rw [ncl (by omega)]
  exact k
theorem asN_18 {i : Nat} {x : Int32} (h : Ok X cc own d) (hi : i < 40) (dg : decode cc pc = .ok (.iastore, 1)) (k : Wx X (sI S 11 i x) (pc + 1) lv st) : Wx X S pc lv (.int x :: .int (nI i) :: .ref (aD (xw X) 18) :: st) := by
  refine as_18 h (vin hi) dg ?_
  rw [ncl (by omega)]
  exact k
theorem alN_19 {i : Nat} (h : Ok X cc own d) (hi : i < 40) (dg : decode cc pc = .ok (.iaload, 1)) (k : Wx X S (pc + 1) lv (.int (S.1 12 i) :: st)) : Wx X S pc lv (.int (nI i) :: .ref (aD (xw X) 19) :: st) := by
  refine al_19 h (vin hi) dg ?_
  rw [ncl (by omega)]
  exact k
theorem asN_19 {i : Nat} {x : Int32} (h : Ok X cc own d) (hi : i < 40) (dg : decode cc pc = .ok (.iastore, 1)) (k : Wx X (sI S 12 i x) (pc + 1) lv st) : Wx X S pc lv (.int x :: .int (nI i) :: .ref (aD (xw X) 19) :: st) := by
  refine as_19 h (vin hi) dg ?_
  rw [ncl (by omega)]
  exact k
theorem alN_21 {i : Nat} (h : Ok X cc own d) (hi : i < 40) (dg : decode cc pc = .ok (.iaload, 1)) (k : Wx X S (pc + 1) lv (.int (S.1 17 i) :: st)) : Wx X S pc lv (.int (nI i) :: .ref (aD (xw X) 21) :: st) := by
  refine al_21 h (vin hi) dg ?_
  rw [ncl (by omega)]
  exact k
theorem asN_21 {i : Nat} {x : Int32} (h : Ok X cc own d) (hi : i < 40) (dg : decode cc pc = .ok (.iastore, 1)) (k : Wx X (sI S 17 i x) (pc + 1) lv st) : Wx X S pc lv (.int x :: .int (nI i) :: .ref (aD (xw X) 21) :: st) := by
  refine as_21 h (vin hi) dg ?_
  rw [ncl (by omega)]
  exact k
theorem alN_22 {i : Nat} (h : Ok X cc own d) (hi : i < 40) (dg : decode cc pc = .ok (.iaload, 1)) (k : Wx X S (pc + 1) lv (.int (S.1 18 i) :: st)) : Wx X S pc lv (.int (nI i) :: .ref (aD (xw X) 22) :: st) := by
  refine al_22 h (vin hi) dg ?_
  rw [ncl (by omega)]
  exact k
theorem asN_22 {i : Nat} {x : Int32} (h : Ok X cc own d) (hi : i < 40) (dg : decode cc pc = .ok (.iastore, 1)) (k : Wx X (sI S 18 i x) (pc + 1) lv st) : Wx X S pc lv (.int x :: .int (nI i) :: .ref (aD (xw X) 22) :: st) := by
  refine as_22 h (vin hi) dg ?_
  rw [ncl (by omega)]
  exact k
theorem alN_24 {i : Nat} (h : Ok X cc own d) (hi : i < 40) (dg : decode cc pc = .ok (.baload, 1)) (k : Wx X S (pc + 1) lv (.int (S.1 20 i) :: st)) : Wx X S pc lv (.int (nI i) :: .ref (aD (xw X) 24) :: st) := by
  refine al_24 h (vin hi) dg ?_
  rw [ncl (by omega)]
  exact k
theorem as0_24 {i : Int32} (h : Ok X cc own d) (hin : vp_in i 40) (dg : decode cc pc = .ok (.bastore, 1)) (k : Wx X (sI S 20 i.toNatClampNeg 0) (pc + 1) lv st) : Wx X S pc lv (.int 0 :: .int i :: .ref (aD (xw X) 24) :: st) := by
  refine as_24 h hin dg ?_
  rw [nar0]
  exact k
theorem as1_24 {i : Int32} (h : Ok X cc own d) (hin : vp_in i 40) (dg : decode cc pc = .ok (.bastore, 1)) (k : Wx X (sI S 20 i.toNatClampNeg 1) (pc + 1) lv st) : Wx X S pc lv (.int 1 :: .int i :: .ref (aD (xw X) 24) :: st) := by
  refine as_24 h hin dg ?_
  rw [nar1]
  exact k
theorem alN_25 {i : Nat} (h : Ok X cc own d) (hi : i < 40) (dg : decode cc pc = .ok (.iaload, 1)) (k : Wx X S (pc + 1) lv (.int (S.1 21 i) :: st)) : Wx X S pc lv (.int (nI i) :: .ref (aD (xw X) 25) :: st) := by
  refine al_25 h (vin hi) dg ?_
  rw [ncl (by omega)]
  exact k
theorem asN_25 {i : Nat} {x : Int32} (h : Ok X cc own d) (hi : i < 40) (dg : decode cc pc = .ok (.iastore, 1)) (k : Wx X (sI S 21 i x) (pc + 1) lv st) : Wx X S pc lv (.int x :: .int (nI i) :: .ref (aD (xw X) 25) :: st) := by
  refine as_25 h (vin hi) dg ?_
  rw [ncl (by omega)]
  exact k
theorem alN_26 {i : Nat} (h : Ok X cc own d) (hi : i < 40) (dg : decode cc pc = .ok (.iaload, 1)) (k : Wx X S (pc + 1) lv (.int (S.1 22 i) :: st)) : Wx X S pc lv (.int (nI i) :: .ref (aD (xw X) 26) :: st) := by
  refine al_26 h (vin hi) dg ?_
  rw [ncl (by omega)]
  exact k
theorem asN_26 {i : Nat} {x : Int32} (h : Ok X cc own d) (hi : i < 40) (dg : decode cc pc = .ok (.iastore, 1)) (k : Wx X (sI S 22 i x) (pc + 1) lv st) : Wx X S pc lv (.int x :: .int (nI i) :: .ref (aD (xw X) 26) :: st) := by
  refine as_26 h (vin hi) dg ?_
  rw [ncl (by omega)]
  exact k
theorem alN_27 {i : Nat} (h : Ok X cc own d) (hi : i < 40) (dg : decode cc pc = .ok (.iaload, 1)) (k : Wx X S (pc + 1) lv (.int (S.1 23 i) :: st)) : Wx X S pc lv (.int (nI i) :: .ref (aD (xw X) 27) :: st) := by
  refine al_27 h (vin hi) dg ?_
  rw [ncl (by omega)]
  exact k
theorem asN_27 {i : Nat} {x : Int32} (h : Ok X cc own d) (hi : i < 40) (dg : decode cc pc = .ok (.iastore, 1)) (k : Wx X (sI S 23 i x) (pc + 1) lv st) : Wx X S pc lv (.int x :: .int (nI i) :: .ref (aD (xw X) 27) :: st) := by
  refine as_27 h (vin hi) dg ?_
  rw [ncl (by omega)]
  exact k
theorem alN_28 {i : Nat} (h : Ok X cc own d) (hi : i < 40) (dg : decode cc pc = .ok (.iaload, 1)) (k : Wx X S (pc + 1) lv (.int (S.1 24 i) :: st)) : Wx X S pc lv (.int (nI i) :: .ref (aD (xw X) 28) :: st) := by
  refine al_28 h (vin hi) dg ?_
  rw [ncl (by omega)]
  exact k
theorem asN_28 {i : Nat} {x : Int32} (h : Ok X cc own d) (hi : i < 40) (dg : decode cc pc = .ok (.iastore, 1)) (k : Wx X (sI S 24 i x) (pc + 1) lv st) : Wx X S pc lv (.int x :: .int (nI i) :: .ref (aD (xw X) 28) :: st) := by
  refine as_28 h (vin hi) dg ?_
  rw [ncl (by omega)]
  exact k
theorem alN_29 {i : Nat} (h : Ok X cc own d) (hi : i < 40) (dg : decode cc pc = .ok (.iaload, 1)) (k : Wx X S (pc + 1) lv (.int (S.1 25 i) :: st)) : Wx X S pc lv (.int (nI i) :: .ref (aD (xw X) 29) :: st) := by
  refine al_29 h (vin hi) dg ?_
  rw [ncl (by omega)]
  exact k
theorem asN_29 {i : Nat} {x : Int32} (h : Ok X cc own d) (hi : i < 40) (dg : decode cc pc = .ok (.iastore, 1)) (k : Wx X (sI S 25 i x) (pc + 1) lv st) : Wx X S pc lv (.int x :: .int (nI i) :: .ref (aD (xw X) 29) :: st) := by
  refine as_29 h (vin hi) dg ?_
  rw [ncl (by omega)]
  exact k
theorem alN_30 {i : Nat} (h : Ok X cc own d) (hi : i < 25) (dg : decode cc pc = .ok (.iaload, 1)) (k : Wx X S (pc + 1) lv (.int (S.1 26 i) :: st)) : Wx X S pc lv (.int (nI i) :: .ref (aD (xw X) 30) :: st) := by
  refine al_30 h (vin hi) dg ?_
  rw [ncl (by omega)]
  exact k
theorem asN_30 {i : Nat} {x : Int32} (h : Ok X cc own d) (hi : i < 25) (dg : decode cc pc = .ok (.iastore, 1)) (k : Wx X (sI S 26 i x) (pc + 1) lv st) : Wx X S pc lv (.int x :: .int (nI i) :: .ref (aD (xw X) 30) :: st) := by
  refine as_30 h (vin hi) dg ?_
  rw [ncl (by omega)]
  exact k
theorem alN_31 {i : Nat} (h : Ok X cc own d) (hi : i < 40) (dg : decode cc pc = .ok (.iaload, 1)) (k : Wx X S (pc + 1) lv (.int (S.1 29 i) :: st)) : Wx X S pc lv (.int (nI i) :: .ref (aD (xw X) 31) :: st) := by
  refine al_31 h (vin hi) dg ?_
  rw [ncl (by omega)]
  exact k
theorem asN_31 {i : Nat} {x : Int32} (h : Ok X cc own d) (hi : i < 40) (dg : decode cc pc = .ok (.iastore, 1)) (k : Wx X (sI S 29 i x) (pc + 1) lv st) : Wx X S pc lv (.int x :: .int (nI i) :: .ref (aD (xw X) 31) :: st) := by
  refine as_31 h (vin hi) dg ?_
  rw [ncl (by omega)]
  exact k
theorem alN_32 {i : Nat} (h : Ok X cc own d) (hi : i < 40) (dg : decode cc pc = .ok (.iaload, 1)) (k : Wx X S (pc + 1) lv (.int (S.1 30 i) :: st)) : Wx X S pc lv (.int (nI i) :: .ref (aD (xw X) 32) :: st) := by
  refine al_32 h (vin hi) dg ?_
  rw [ncl (by omega)]
  exact k
theorem asN_32 {i : Nat} {x : Int32} (h : Ok X cc own d) (hi : i < 40) (dg : decode cc pc = .ok (.iastore, 1)) (k : Wx X (sI S 30 i x) (pc + 1) lv st) : Wx X S pc lv (.int x :: .int (nI i) :: .ref (aD (xw X) 32) :: st) := by
  refine as_32 h (vin hi) dg ?_
  rw [ncl (by omega)]
  exact k
theorem alN_33 {i : Nat} (h : Ok X cc own d) (hi : i < 40) (dg : decode cc pc = .ok (.iaload, 1)) (k : Wx X S (pc + 1) lv (.int (S.1 31 i) :: st)) : Wx X S pc lv (.int (nI i) :: .ref (aD (xw X) 33) :: st) := by
  refine al_33 h (vin hi) dg ?_
  rw [ncl (by omega)]
  exact k
theorem asN_33 {i : Nat} {x : Int32} (h : Ok X cc own d) (hi : i < 40) (dg : decode cc pc = .ok (.iastore, 1)) (k : Wx X (sI S 31 i x) (pc + 1) lv st) : Wx X S pc lv (.int x :: .int (nI i) :: .ref (aD (xw X) 33) :: st) := by
  refine as_33 h (vin hi) dg ?_
  rw [ncl (by omega)]
  exact k
theorem alN_34 {i : Nat} (h : Ok X cc own d) (hi : i < 80) (dg : decode cc pc = .ok (.iaload, 1)) (k : Wx X S (pc + 1) lv (.int (S.1 32 i) :: st)) : Wx X S pc lv (.int (nI i) :: .ref (aD (xw X) 34) :: st) := by
  refine al_34 h (vin hi) dg ?_
  rw [ncl (by omega)]
  exact k
theorem asN_34 {i : Nat} {x : Int32} (h : Ok X cc own d) (hi : i < 80) (dg : decode cc pc = .ok (.iastore, 1)) (k : Wx X (sI S 32 i x) (pc + 1) lv st) : Wx X S pc lv (.int x :: .int (nI i) :: .ref (aD (xw X) 34) :: st) := by
  refine as_34 h (vin hi) dg ?_
  rw [ncl (by omega)]
  exact k
theorem alN_35 {i : Nat} (h : Ok X cc own d) (hi : i < 80) (dg : decode cc pc = .ok (.iaload, 1)) (k : Wx X S (pc + 1) lv (.int (S.1 33 i) :: st)) : Wx X S pc lv (.int (nI i) :: .ref (aD (xw X) 35) :: st) := by
  refine al_35 h (vin hi) dg ?_
  rw [ncl (by omega)]
  exact k
theorem asN_35 {i : Nat} {x : Int32} (h : Ok X cc own d) (hi : i < 80) (dg : decode cc pc = .ok (.iastore, 1)) (k : Wx X (sI S 33 i x) (pc + 1) lv st) : Wx X S pc lv (.int x :: .int (nI i) :: .ref (aD (xw X) 35) :: st) := by
  refine as_35 h (vin hi) dg ?_
  rw [ncl (by omega)]
  exact k
theorem alN_36 {i : Nat} (h : Ok X cc own d) (hi : i < 80) (dg : decode cc pc = .ok (.iaload, 1)) (k : Wx X S (pc + 1) lv (.int (S.1 34 i) :: st)) : Wx X S pc lv (.int (nI i) :: .ref (aD (xw X) 36) :: st) := by
  refine al_36 h (vin hi) dg ?_
  rw [ncl (by omega)]
  exact k
theorem asN_36 {i : Nat} {x : Int32} (h : Ok X cc own d) (hi : i < 80) (dg : decode cc pc = .ok (.iastore, 1)) (k : Wx X (sI S 34 i x) (pc + 1) lv st) : Wx X S pc lv (.int x :: .int (nI i) :: .ref (aD (xw X) 36) :: st) := by
  refine as_36 h (vin hi) dg ?_
  rw [ncl (by omega)]
  exact k
theorem alN_37 {i : Nat} (h : Ok X cc own d) (hi : i < 40) (dg : decode cc pc = .ok (.iaload, 1)) (k : Wx X S (pc + 1) lv (.int (S.1 36 i) :: st)) : Wx X S pc lv (.int (nI i) :: .ref (aD (xw X) 37) :: st) := by
  refine al_37 h (vin hi) dg ?_
  rw [ncl (by omega)]
  exact k
theorem asN_37 {i : Nat} {x : Int32} (h : Ok X cc own d) (hi : i < 40) (dg : decode cc pc = .ok (.iastore, 1)) (k : Wx X (sI S 36 i x) (pc + 1) lv st) : Wx X S pc lv (.int x :: .int (nI i) :: .ref (aD (xw X) 37) :: st) := by
  refine as_37 h (vin hi) dg ?_
  rw [ncl (by omega)]
  exact k
theorem alN_38 {i : Nat} (h : Ok X cc own d) (hi : i < 40) (dg : decode cc pc = .ok (.iaload, 1)) (k : Wx X S (pc + 1) lv (.int (S.1 37 i) :: st)) : Wx X S pc lv (.int (nI i) :: .ref (aD (xw X) 38) :: st) := by
  refine al_38 h (vin hi) dg ?_
  rw [ncl (by omega)]
  exact k
theorem asN_38 {i : Nat} {x : Int32} (h : Ok X cc own d) (hi : i < 40) (dg : decode cc pc = .ok (.iastore, 1)) (k : Wx X (sI S 37 i x) (pc + 1) lv st) : Wx X S pc lv (.int x :: .int (nI i) :: .ref (aD (xw X) 38) :: st) := by
  refine as_38 h (vin hi) dg ?_
  rw [ncl (by omega)]
  exact k
end
