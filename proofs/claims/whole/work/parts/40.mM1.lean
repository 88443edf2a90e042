def inL (v lo hi : Int64) : Int32 := if v < lo then 0 else if hi < v then 0 else 1
theorem i64_lt {a b : Int32} : a.toInt64 < b.toInt64 ↔ a < b := by
  rw [Int64.lt_iff_toInt_lt, Int32.lt_iff_toInt_lt, Int32.toInt_toInt64, Int32.toInt_toInt64]
theorem in_0 {x a b : Int32} : inL x.toInt64 a.toInt64 b.toInt64 = 0 ↔ x < a ∨ b < x := by
  unfold inL
  by_cases h1 : x < a
  · rw [if_pos (i64_lt.mpr h1)]; exact ⟨fun _ => Or.inl h1, fun _ => rfl⟩
  · rw [if_neg (fun z => h1 (i64_lt.mp z))]
    by_cases h2 : b < x
    · rw [if_pos (i64_lt.mpr h2)]; exact ⟨fun _ => Or.inr h2, fun _ => rfl⟩
    · rw [if_neg (fun z => h2 (i64_lt.mp z))]
      exact ⟨fun z => absurd z (by decide), fun z => z.elim (fun q => absurd q h1) (fun q => absurd q h2)⟩
theorem in_n {x a b : Int32} (h : ¬ inL x.toInt64 a.toInt64 b.toInt64 = 0) : ¬ x < a ∧ ¬ b < x := ⟨fun z => h (in_0.mpr (Or.inl z)), fun z => h (in_0.mpr (Or.inr z))⟩
theorem in_ix {p : Int32} (h : ¬ inL p.toInt64 0 39 = 0) : vp_in p 40 := by
  obtain ⟨h1, h2⟩ := in_n (a := 0) (b := 39) h
  obtain ⟨j, hj, rfl⟩ := nI_of2 (M := 39) (n := 39) (by decide) h1 (Int32.not_lt.mp h2)
  exact vin (by omega)
def mplI (x y : Int32) : Int32 := if inL x.toInt64 0 63 = 0 then 0 else if inL y.toInt64 0 63 = 0 then 0 else 1
def mptI (hr : Nat → Int32) (p : Int32) : Int32 := if inL p.toInt64 0 39 = 0 then 0 else if hr p.toNatClampNeg = 0 then 0 else 1
theorem mpt_in {hr : Nat → Int32} {p : Int32} (h : ¬ mptI hr p = 0) : vp_in p 40 := by
  unfold mptI at h
  by_cases h1 : inL p.toInt64 0 39 = 0
  · rw [if_pos h1] at h; exact absurd rfl h
  · exact in_ix h1
def mnI (hr : Nat → Int32) : Nat → Int32
  | 0 => 0
  | i + 1 => mnI hr i + (if hr i = 0 then 0 else 1)
def ffN (hr : Nat → Int32) : Nat → Nat → Nat
  | 0, i => i
  | n + 1, i => if hr i = 0 then i else ffN hr n (i + 1)
theorem ffN_s {hr : Nat → Int32} {n i : Nat} : ffN hr (n + 1) i = if hr i = 0 then i else ffN hr n (i + 1) := rfl
theorem ffN_le {hr : Nat → Int32} : ∀ n i : Nat, i + n = 40 → ffN hr n i ≤ 40
  | 0, i, h => by show i ≤ 40; omega
  | n + 1, i, h => by
    rw [ffN_s]
    split
    · omega
    · exact ffN_le n (i + 1) (by omega)
def mpoS (S : St) (p : Nat) (x y v : Int32) : St := sI (sI (sI (sI (sI (sI S 20 p 1) 21 p x) 22 p y) 23 p v) 24 p 0) 25 p 0
def mpoR (S : St) (x y v : Int32) : Int32 := if mplI x y = 0 then -2 else if inL v.toInt64 (-1000) 1000 = 0 then -2 else if nI (ffN (S.1 20) 40 0) = 40 then -4 else nI (ffN (S.1 20) 40 0)
def mpoT (S : St) (x y v : Int32) : St := if mplI x y = 0 then S else if inL v.toInt64 (-1000) 1000 = 0 then S else if nI (ffN (S.1 20) 40 0) = 40 then S else mpoS S (ffN (S.1 20) 40 0) x y v
def mtkT (S : St) (p : Int32) : St := if mptI (S.1 20) p = 0 then S else sI S 20 p.toNatClampNeg 0
def mtkR (S : St) (p : Int32) : Int32 := if mptI (S.1 20) p = 0 then -2 else mnI ((mtkT S p).1 20) 40
def mmvR (S : St) (p x y : Int32) : Int32 := if mptI (S.1 20) p = 0 then -2 else if mplI x y = 0 then -2 else 1
def mmvT (S : St) (p x y : Int32) : St := if mptI (S.1 20) p = 0 then S else if mplI x y = 0 then S else sI (sI S 21 p.toNatClampNeg x) 22 p.toNatClampNeg y
def mwgR (S : St) (p v : Int32) : Int32 := if mptI (S.1 20) p = 0 then -2000 else if inL v.toInt64 (-1000) 1000 = 0 then -2000 else S.1 23 p.toNatClampNeg
def mwgT (S : St) (p v : Int32) : St := if mptI (S.1 20) p = 0 then S else if inL v.toInt64 (-1000) 1000 = 0 then S else sI S 23 p.toNatClampNeg v
def mpcR (S : St) (p x y : Int32) : Int32 := if mptI (S.1 20) p = 0 then -2 else if inL x.toInt64 (-32) 31 = 0 then -2 else if inL y.toInt64 (-32) 31 = 0 then -2 else 1
def mpcT (S : St) (p x y : Int32) : St := if mptI (S.1 20) p = 0 then S else if inL x.toInt64 (-32) 31 = 0 then S else if inL y.toInt64 (-32) 31 = 0 then S else sI (sI S 24 p.toNatClampNeg x) 25 p.toNatClampNeg y
def matR (S : St) (p q : Int32) : Int32 := if mptI (S.1 20) p = 0 then -2000 else if q = 0 then S.1 21 p.toNatClampNeg else if q = 1 then S.1 22 p.toNatClampNeg else if q = 2 then S.1 23 p.toNatClampNeg else if q = 3 then S.1 24 p.toNatClampNeg else if q = 4 then S.1 25 p.toNatClampNeg else -2000
def mprI (a b : Int32) : Int32 := if a < 0 then 0 else if b < 0 then 0 else if 4 < a then 0 else if 4 < b then 0 else if 4 < a + b then 0 else 1
theorem mpr_at {a b : Int32} (h : ¬ mprI a b = 0) : ∃ i j : Nat, i + j ≤ 4 ∧ a = nI i ∧ b = nI j := by
  unfold mprI at h
  by_cases h1 : a < 0
  · rw [if_pos h1] at h; exact absurd rfl h
  by_cases h2 : b < 0
  · rw [if_neg h1, if_pos h2] at h; exact absurd rfl h
  by_cases h3 : (4 : Int32) < a
  · rw [if_neg h1, if_neg h2, if_pos h3] at h; exact absurd rfl h
  by_cases h4 : (4 : Int32) < b
  · rw [if_neg h1, if_neg h2, if_neg h3, if_pos h4] at h; exact absurd rfl h
  obtain ⟨i, hi, rfl⟩ := nI_of2 (M := 4) (n := 4) (by decide) h1 (Int32.not_lt.mp h3)
  obtain ⟨j, hj, rfl⟩ := nI_of2 (M := 4) (n := 4) (by decide) h2 (Int32.not_lt.mp h4)
  refine ⟨i, j, ?_, rfl, rfl⟩
  rcases Nat.lt_or_ge 4 (i + j) with q | q
  · rw [if_neg h1, if_neg h2, if_neg h3, if_neg h4, if_pos (by rw [nI_add]; exact gtT (a := 4) q (by omega))] at h
    exact absurd rfl h
  · exact q
theorem ix5 (a b : Nat) : (5 : Int32) * nI a + nI b = nI (5 * a + b) := by rw [show (5 : Int32) = nI 5 from rfl, pk_mul, nI_add]
def mknR (S : St) (a b c : Int32) : Int32 := if mprI a b = 0 then -2000 else if inL c.toInt64 (-9) 9 = 0 then -2000 else S.1 26 (5 * a.toNatClampNeg + b.toNatClampNeg)
def mknT (S : St) (a b c : Int32) : St := if mprI a b = 0 then S else if inL c.toInt64 (-9) 9 = 0 then S else sI S 26 (5 * a.toNatClampNeg + b.toNatClampNeg) c
def mcpR (S : St) (m : Int32) : Int32 := if inL m.toInt64 1 8 = 0 then -2 else S.1 27 0
def mcpT (S : St) (m : Int32) : St := if inL m.toInt64 1 8 = 0 then S else sI S 27 0 m
def puB (K : Nat → Int32) (F G : Int64) (a : Nat) (s : Int64) : Nat → Int64
  | 0 => s
  | b + 1 => puB K F G a s b + (K (5 * a + b)).toInt64 * pw 1 F a * pw 1 G b
def puA (K : Nat → Int32) (F G : Int64) : Nat → Int64
  | 0 => 0
  | a + 1 => puB K F G a (puA K F G a) (5 - a)
/-- the reference's pull -/
def mpuL (K px py wt : Nat → Int32) (p : Nat) (x y : Int32) : Int64 := 16 * (wt p).toInt64 * puA K (x - px p).toInt64 (y - py p).toInt64 5
def saV (hr K px py wt : Nat → Int32) (x y : Int32) : Nat → Int64
  | 0 => 0
  | i + 1 => saV hr K px py wt x y i + (if hr i = 0 then 0 else mpuL K px py wt i x y)
def msuR (S : St) (x y : Int32) : Int64 := if mplI x y = 0 then -9000000000000000000 else saV (S.1 20) (S.1 26) (S.1 21) (S.1 22) (S.1 23) x y 40
set_option maxRecDepth 100000 in
set_option maxHeartbeats 4000000 in
theorem mX7_in (l : Launch) (w : Fx) (S : St) (q lo hi : Int64) : Ct l yX7_in cX7_in 6 (some .boolean) 0 w [.long q, .long lo, .long hi] S (fun v S' => v = some (.int (inL q lo hi)) ∧ S' = S) := by
  refine Ct.of (by decide) (Nat.le_of_ble_eq_true rfl) (fun X h hr hl hw => ?_)
  subst hl hw
  have h : Ok X cX7_in RX7 0 := h
  show Wx X S 0 [.long q, .null, .long lo, .null, .long hi, .null] []
  refine r_lload_n 0 h dX7_in_0 rfl rfl ?_
  refine r_lload_n 2 h dX7_in_1 rfl rfl ?_
  refine r_lc_lt 17 h dX7_in_2 dX7_in_3 (by decide) (fun c2 => ?_) (fun c2 => ?_)
  · refine r_iconst 0 h dX7_in_17 (by decide) ?_
    exact r_zret h hr dX7_in_18 rfl ⟨by simp only [inL, c2, ite_true, ite_false, if_true, if_false, not_true, not_false_iff], rfl⟩
  · refine r_lload_n 0 h dX7_in_6 rfl rfl ?_
    refine r_lload h dX7_in_7 rfl ?_
    refine r_lc_gt 17 h dX7_in_9 dX7_in_10 (by decide) (fun c9 => ?_) (fun c9 => ?_)
    · refine r_iconst 0 h dX7_in_17 (by decide) ?_
      exact r_zret h hr dX7_in_18 rfl ⟨by simp only [inL, c2, c9, ite_true, ite_false, if_true, if_false, not_true, not_false_iff], rfl⟩
    · refine r_iconst 1 h dX7_in_13 (by decide) ?_
      refine r_goto 18 h dX7_in_14 (by decide) ?_
      exact r_zret h hr dX7_in_18 rfl ⟨by simp only [inL, c2, c9, ite_true, ite_false, if_true, if_false, not_true, not_false_iff], rfl⟩
set_option maxRecDepth 100000 in
set_option maxHeartbeats 4000000 in
theorem mX7_isPlace (l : Launch) (w : Fx) (S : St) (x y : Int32) : Ct l yX7_isPlace cX7_isPlace 2 (some .boolean) 1 w [.int x, .int y] S (fun v S' => v = some (.int (mplI x y)) ∧ S' = S) := by
  refine Ct.of (by decide) (Nat.le_of_ble_eq_true rfl) (fun X h hr hl hw => ?_)
  subst hl hw
  have h : Ok X cX7_isPlace RX7 1 := h
  show Wx X S 0 [.int x, .int y] []
  refine r_iload_n 0 h dX7_isPlace_0 rfl rfl ?_
  refine r_i2l h dX7_isPlace_1 ?_
  refine r_lconst 0 h dX7_isPlace_2 (by decide) ?_
  refine r_ldc2 h lc_X7_60 dX7_isPlace_3 ?_
  refine cS3 h (mX7_in _ _ _ _ _ _) kX7_in lm_X7_62 (by decide) (Nat.le_of_ble_eq_true rfl) dX7_isPlace_6 ?_
  show Wx _ _ 9 _ _
  refine r_if_eq 28 h dX7_isPlace_9 (by decide) (fun c9 => ?_) (fun c9 => ?_)
  · refine r_iconst 0 h dX7_isPlace_28 (by decide) ?_
    exact r_zret h hr dX7_isPlace_29 rfl ⟨by simp only [mplI, c9, ite_true, ite_false, if_true, if_false, not_true, not_false_iff], rfl⟩
  · refine r_iload_n 1 h dX7_isPlace_12 rfl rfl ?_
    refine r_i2l h dX7_isPlace_13 ?_
    refine r_lconst 0 h dX7_isPlace_14 (by decide) ?_
    refine r_ldc2 h lc_X7_60 dX7_isPlace_15 ?_
    refine cS3 h (mX7_in _ _ _ _ _ _) kX7_in lm_X7_62 (by decide) (Nat.le_of_ble_eq_true rfl) dX7_isPlace_18 ?_
    show Wx _ _ 21 _ _
    refine r_if_eq 28 h dX7_isPlace_21 (by decide) (fun c21 => ?_) (fun c21 => ?_)
    · refine r_iconst 0 h dX7_isPlace_28 (by decide) ?_
      exact r_zret h hr dX7_isPlace_29 rfl ⟨by simp only [mplI, c9, c21, ite_true, ite_false, if_true, if_false, not_true, not_false_iff], rfl⟩
    · refine r_iconst 1 h dX7_isPlace_24 (by decide) ?_
      refine r_goto 29 h dX7_isPlace_25 (by decide) ?_
      exact r_zret h hr dX7_isPlace_29 rfl ⟨by simp only [mplI, c9, c21, ite_true, ite_false, if_true, if_false, not_true, not_false_iff], rfl⟩
set_option maxRecDepth 100000 in
set_option maxHeartbeats 4000000 in
theorem mX7_isPoint (l : Launch) (w : Fx) (S : St) (p : Int32) : Ct l yX7_isPoint cX7_isPoint 2 (some .boolean) 1 w [.ref (aD w 23), .int p] S (fun v S' => v = some (.int (mptI (S.1 20) p)) ∧ S' = S) := by
  refine Ct.of (by decide) (Nat.le_of_ble_eq_true rfl) (fun X h hr hl hw => ?_)
  subst hl hw
  have h : Ok X cX7_isPoint RX7 1 := h
  show Wx X S 0 [.ref (aD (xw X) 23), .int p] []
  refine r_iload_n 1 h dX7_isPoint_0 rfl rfl ?_
  refine r_i2l h dX7_isPoint_1 ?_
  refine r_lconst 0 h dX7_isPoint_2 (by decide) ?_
  refine r_ldc2 h lc_X7_66 dX7_isPoint_3 ?_
  refine cS3 h (mX7_in _ _ _ _ _ _) kX7_in lm_X7_62 (by decide) (Nat.le_of_ble_eq_true rfl) dX7_isPoint_6 ?_
  show Wx _ _ 9 _ _
  refine r_if_eq 25 h dX7_isPoint_9 (by decide) (fun c9 => ?_) (fun c9 => ?_)
  · refine r_iconst 0 h dX7_isPoint_25 (by decide) ?_
    exact r_zret h hr dX7_isPoint_26 rfl ⟨by simp only [mptI, c9, ite_true, ite_false, if_true, if_false, not_true, not_false_iff], rfl⟩
  · refine r_aload_n 0 h dX7_isPoint_12 rfl rfl ?_
    refine g23_0 h lf_X7_7 dX7_isPoint_13 ?_
    refine r_iload_n 1 h dX7_isPoint_16 rfl rfl ?_
    refine al_24 h (in_ix c9) dX7_isPoint_17 ?_
    refine r_if_eq 25 h dX7_isPoint_18 (by decide) (fun c18 => ?_) (fun c18 => ?_)
    · refine r_iconst 0 h dX7_isPoint_25 (by decide) ?_
      exact r_zret h hr dX7_isPoint_26 rfl ⟨by simp only [mptI, c9, c18, ite_true, ite_false, if_true, if_false, not_true, not_false_iff], rfl⟩
    · refine r_iconst 1 h dX7_isPoint_21 (by decide) ?_
      refine r_goto 26 h dX7_isPoint_22 (by decide) ?_
      exact r_zret h hr dX7_isPoint_26 rfl ⟨by simp only [mptI, c9, c18, ite_true, ite_false, if_true, if_false, not_true, not_false_iff], rfl⟩
set_option maxRecDepth 100000 in
set_option maxHeartbeats 4000000 in
theorem mX7_many (l : Launch) (w : Fx) (S : St) : Ct l yX7_many cX7_many 3 (some .int) 0 w [.ref (aD w 23)] S (fun v S' => v = some (.int (mnI (S.1 20) 40)) ∧ S' = S) := by
  refine Ct.of (by decide) (Nat.le_of_ble_eq_true rfl) (fun X h hr hl hw => ?_)
  subst hl hw
  have h : Ok X cX7_many RX7 0 := h
  show Wx X S 0 [.ref (aD (xw X) 23), .null, .null] []
  have loop : ∀ n i : Nat, i + n = 40 → Wx X (S) 4 [.ref (aD (xw X) 23), .int (mnI (S.1 20) i), .int (nI i)] [] := by
    intro n
    induction n with
    | zero =>
      intro i hi
      have hi : i = 40 := by omega
      subst hi
      refine r_iload_n 2 h dX7_many_4 rfl rfl ?_
      refine r_bipush 40 h dX7_many_5 (by decide) ?_
      refine r_icmp_ge_t 33 h dX7_many_7 (by decide) (bigT (a := 40) (by omega) (by omega)) ?_
      refine r_iload_n 1 h dX7_many_33 rfl rfl ?_
      exact r_iret h hr dX7_many_34 ⟨rfl, rfl⟩
    | succ n ih =>
      intro i hi
      have hq := ih (i + 1) (by omega)
      unfold mnI at hq
      refine r_iload_n 2 h dX7_many_4 rfl rfl ?_
      refine r_bipush 40 h dX7_many_5 (by decide) ?_
      refine r_icmp_ge_f 33 h dX7_many_7 (by decide) (bigF (a := 40) (by omega) (by omega)) ?_
      refine r_iload_n 1 h dX7_many_10 rfl rfl ?_
      refine r_aload_n 0 h dX7_many_11 rfl rfl ?_
      show Wx _ _ 12 _ _
      refine g23_0 h lf_X7_7 dX7_many_12 ?_
      refine r_iload_n 2 h dX7_many_15 rfl rfl ?_
      refine alN_24 h (by omega) dX7_many_16 ?_
      refine r_if_eq 24 h dX7_many_17 (by decide) (fun c17 => ?_) (fun c17 => ?_)
      · refine r_iconst 0 h dX7_many_24 (by decide) ?_
        refine r_iadd h dX7_many_25 ?_
        refine r_istore_n 1 h dX7_many_26 rfl (Nat.le_of_ble_eq_true rfl) ?_
        show Wx _ _ _ [_, _, _] _
        refine r_iincN h dX7_many_27 rfl ?_
        show Wx _ _ _ [_, _, _] _
        refine r_goto 4 h dX7_many_30 (by decide) ?_
        first | (rw [if_pos c17] at hq; exact hq) | (rw [if_neg c17] at hq; exact hq)
      · refine r_iconst 1 h dX7_many_20 (by decide) ?_
        refine r_goto 25 h dX7_many_21 (by decide) ?_
        refine r_iadd h dX7_many_25 ?_
        refine r_istore_n 1 h dX7_many_26 rfl (Nat.le_of_ble_eq_true rfl) ?_
        show Wx _ _ _ [_, _, _] _
        refine r_iincN h dX7_many_27 rfl ?_
        show Wx _ _ _ [_, _, _] _
        show Wx _ _ 30 _ _
        refine r_goto 4 h dX7_many_30 (by decide) ?_
        first | (rw [if_pos c17] at hq; exact hq) | (rw [if_neg c17] at hq; exact hq)
  refine r_iconst 0 h dX7_many_0 (by decide) ?_
  refine r_istore_n 1 h dX7_many_1 rfl (Nat.le_of_ble_eq_true rfl) ?_
  show Wx _ _ _ [_, _, _] _
  refine r_iconst 0 h dX7_many_2 (by decide) ?_
  refine r_istore_n 2 h dX7_many_3 rfl (Nat.le_of_ble_eq_true rfl) ?_
  show Wx _ _ _ [_, _, _] _
  exact loop 40 0 rfl
set_option maxRecDepth 100000 in
set_option maxHeartbeats 4000000 in
theorem mX7_point (l : Launch) (w : Fx) (S : St) (x y q : Int32) : Ct l yX7_point cX7_point 5 (some .int) 2 w [.ref (aD w 23), .int x, .int y, .int q] S (fun v S' => v = some (.int (mpoR S x y q)) ∧ S' = mpoT S x y q) := by
  refine Ct.of (by decide) (Nat.le_of_ble_eq_true rfl) (fun X h hr hl hw => ?_)
  subst hl hw
  have h : Ok X cX7_point RX7 2 := h
  show Wx X S 0 [.ref (aD (xw X) 23), .int x, .int y, .int q, .null] []
  have fin : ¬ mplI x y = 0 → ¬ inL q.toInt64 (-1000) 1000 = 0 → ∀ p : Nat, p ≤ 40 → ffN (S.1 20) 40 0 = p → Wx X S 51 [.ref (aD (xw X) 23), .int x, .int y, .int q, .int (nI p)] [] := by
    intro h1 h2 p hp hf
    refine r_iload h dX7_point_51 rfl ?_
    refine r_bipush 40 h dX7_point_53 (by decide) ?_
    refine r_icmp_ne 61 h dX7_point_55 (by decide) (fun c55 => ?_) (fun c55 => ?_)
    · have hp4 : p < 40 := by
        rcases Nat.lt_or_ge p 40 with z | z
        · exact z
        · exact absurd (show nI p = 40 by rw [show p = 40 by omega]; rfl) c55
      refine r_aload_n 0 h dX7_point_61 rfl rfl ?_
      refine g23_0 h lf_X7_7 dX7_point_62 ?_
      refine r_iload h dX7_point_65 rfl ?_
      refine r_iconst 1 h dX7_point_67 (by decide) ?_
      refine as1_24 h (vin hp4) dX7_point_68 ?_
      rw [ncl (by omega)]
      show Wx _ _ 69 _ _
      refine r_aload_n 0 h dX7_point_69 rfl rfl ?_
      refine g23_1 h lf_X7_13 dX7_point_70 ?_
      refine r_iload h dX7_point_73 rfl ?_
      refine r_iload_n 1 h dX7_point_75 rfl rfl ?_
      refine asN_25 h (by omega) dX7_point_76 ?_
      refine r_aload_n 0 h dX7_point_77 rfl rfl ?_
      show Wx _ _ 78 _ _
      refine g23_2 h lf_X7_17 dX7_point_78 ?_
      refine r_iload h dX7_point_81 rfl ?_
      refine r_iload_n 2 h dX7_point_83 rfl rfl ?_
      refine asN_26 h (by omega) dX7_point_84 ?_
      refine r_aload_n 0 h dX7_point_85 rfl rfl ?_
      refine g23_3 h lf_X7_20 dX7_point_86 ?_
      show Wx _ _ 89 _ _
      refine r_iload h dX7_point_89 rfl ?_
      refine r_iload_n 3 h dX7_point_91 rfl rfl ?_
      refine asN_27 h (by omega) dX7_point_92 ?_
      refine r_aload_n 0 h dX7_point_93 rfl rfl ?_
      refine g23_4 h lf_X7_23 dX7_point_94 ?_
      refine r_iload h dX7_point_97 rfl ?_
      show Wx _ _ 99 _ _
      refine r_iconst 0 h dX7_point_99 (by decide) ?_
      refine asN_28 h (by omega) dX7_point_100 ?_
      refine r_aload_n 0 h dX7_point_101 rfl rfl ?_
      refine g23_5 h lf_X7_26 dX7_point_102 ?_
      refine r_iload h dX7_point_105 rfl ?_
      refine r_iconst 0 h dX7_point_107 (by decide) ?_
      show Wx _ _ 108 _ _
      refine asN_29 h (by omega) dX7_point_108 ?_
      refine r_iload h dX7_point_109 rfl ?_
      exact r_iret h hr dX7_point_111 ⟨by rw [mpoR, if_neg h1, if_neg h2, hf, if_neg c55], by rw [mpoT, if_neg h1, if_neg h2, hf, if_neg c55]; rfl⟩
    · refine r_bipush (-4) h dX7_point_58 (by decide) ?_
      exact r_iret h hr dX7_point_60 ⟨by rw [mpoR, if_neg h1, if_neg h2, hf, if_pos c55], by rw [mpoT, if_neg h1, if_neg h2, hf, if_pos c55]⟩
  have loop : ¬ mplI x y = 0 → ¬ inL q.toInt64 (-1000) 1000 = 0 → ∀ n i : Nat, i + n = 40 → ffN (S.1 20) n i = ffN (S.1 20) 40 0 → Wx X S 28 [.ref (aD (xw X) 23), .int x, .int y, .int q, .int (nI i)] [] := by
    intro h1 h2 n
    induction n with
    | zero =>
      intro i hi he
      refine r_iload h dX7_point_28 rfl ?_
      refine r_bipush 40 h dX7_point_30 (by decide) ?_
      refine r_icmp_ge_t 51 h dX7_point_32 (by decide) (bigT (a := 40) (by omega) (by omega)) ?_
      exact fin h1 h2 i (by omega) he.symm
    | succ n ih =>
      intro i hi he
      rw [ffN_s (n := n) (i := i)] at he
      refine r_iload h dX7_point_28 rfl ?_
      refine r_bipush 40 h dX7_point_30 (by decide) ?_
      refine r_icmp_ge_f 51 h dX7_point_32 (by decide) (bigF (a := 40) (by omega) (by omega)) ?_
      refine r_aload_n 0 h dX7_point_35 rfl rfl ?_
      refine g23_0 h lf_X7_7 dX7_point_36 ?_
      show Wx _ _ 39 _ _
      refine r_iload h dX7_point_39 rfl ?_
      refine alN_24 h (by omega) dX7_point_41 ?_
      refine r_if_eq 51 h dX7_point_42 (by decide) (fun c42 => ?_) (fun c42 => ?_)
      · exact fin h1 h2 i (by omega) (by rw [← he, if_pos c42])
      · refine r_iincN h dX7_point_45 rfl ?_
        show Wx _ _ _ [_, _, _, _, _] _
        refine r_goto 28 h dX7_point_48 (by decide) ?_
        exact ih (i + 1) (by omega) (by rw [← he, if_neg c42])
  refine r_iload_n 1 h dX7_point_0 rfl rfl ?_
  refine r_iload_n 2 h dX7_point_1 rfl rfl ?_
  refine cS2 h (mX7_isPlace _ _ _ x y) kX7_isPlace lm_X7_68 (by decide) (Nat.le_of_ble_eq_true rfl) dX7_point_2 ?_
  refine r_if_eq 22 h dX7_point_5 (by decide) (fun c5 => ?_) (fun c5 => ?_)
  · refine r_bipush (-2) h dX7_point_22 (by decide) ?_
    exact r_iret h hr dX7_point_24 ⟨by simp only [mpoR, c5, ite_true, ite_false, if_true, if_false, not_true, not_false_iff], by simp only [mpoT, c5, ite_true, ite_false, if_true, if_false, not_true, not_false_iff]⟩
  · refine r_iload_n 3 h dX7_point_8 rfl rfl ?_
    refine r_i2l h dX7_point_9 ?_
    refine r_ldc2 h lc_X7_72 dX7_point_10 ?_
    refine r_ldc2 h lc_X7_74 dX7_point_13 ?_
    refine cS3 h (mX7_in _ _ _ _ _ _) kX7_in lm_X7_62 (by decide) (Nat.le_of_ble_eq_true rfl) dX7_point_16 ?_
    show Wx _ _ 19 _ _
    refine r_if_ne 25 h dX7_point_19 (by decide) (fun c19 => ?_) (fun c19 => ?_)
    · refine r_iconst 0 h dX7_point_25 (by decide) ?_
      refine r_istore h dX7_point_26 (Nat.le_of_ble_eq_true rfl) ?_
      show Wx _ _ _ [_, _, _, _, _] _
      exact loop c5 c19 40 0 rfl rfl
    · refine r_bipush (-2) h dX7_point_22 (by decide) ?_
      exact r_iret h hr dX7_point_24 ⟨by simp only [mpoR, c5, c19, ite_true, ite_false, if_true, if_false, not_true, not_false_iff], by simp only [mpoT, c5, c19, ite_true, ite_false, if_true, if_false, not_true, not_false_iff]⟩
set_option maxRecDepth 100000 in
set_option maxHeartbeats 4000000 in
theorem mX7_take (l : Launch) (w : Fx) (S : St) (p : Int32) : Ct l yX7_take cX7_take 2 (some .int) 2 w [.ref (aD w 23), .int p] S (fun v S' => v = some (.int (mtkR S p)) ∧ S' = mtkT S p) := by
  refine Ct.of (by decide) (Nat.le_of_ble_eq_true rfl) (fun X h hr hl hw => ?_)
  subst hl hw
  have h : Ok X cX7_take RX7 2 := h
  show Wx X S 0 [.ref (aD (xw X) 23), .int p] []
  refine r_aload_n 0 h dX7_take_0 rfl rfl ?_
  refine r_iload_n 1 h dX7_take_1 rfl rfl ?_
  refine cV1 h (mX7_isPoint _ _ _ p) kX7_isPoint lm_X7_76 (by decide) 23 (pl_23 _ _) rfl (Nat.le_of_ble_eq_true rfl) dX7_take_2 ?_
  refine r_if_ne 11 h dX7_take_5 (by decide) (fun c5 => ?_) (fun c5 => ?_)
  · refine r_aload_n 0 h dX7_take_11 rfl rfl ?_
    refine g23_0 h lf_X7_7 dX7_take_12 ?_
    refine r_iload_n 1 h dX7_take_15 rfl rfl ?_
    refine r_iconst 0 h dX7_take_16 (by decide) ?_
    refine as0_24 h (mpt_in c5) dX7_take_17 ?_
    show Wx _ _ 18 _ _
    refine r_aload_n 0 h dX7_take_18 rfl rfl ?_
    refine cV0 h (mX7_many _ _ _) kX7_many lm_X7_80 (by decide) 23 (pl_23 _ _) rfl (Nat.le_of_ble_eq_true rfl) dX7_take_19 ?_
    exact r_iret h hr dX7_take_22 ⟨by rw [mtkR, if_neg c5, mtkT, if_neg c5], by rw [mtkT, if_neg c5]⟩
  · refine r_bipush (-2) h dX7_take_8 (by decide) ?_
    exact r_iret h hr dX7_take_10 ⟨by simp only [mtkR, c5, ite_true, ite_false, if_true, if_false, not_true, not_false_iff], by simp only [mtkT, c5, ite_true, ite_false, if_true, if_false, not_true, not_false_iff]⟩
set_option maxRecDepth 100000 in
set_option maxHeartbeats 4000000 in
theorem mX7_move (l : Launch) (w : Fx) (S : St) (p x y : Int32) : Ct l yX7_move cX7_move 4 (some .int) 2 w [.ref (aD w 23), .int p, .int x, .int y] S (fun v S' => v = some (.int (mmvR S p x y)) ∧ S' = mmvT S p x y) := by
  refine Ct.of (by decide) (Nat.le_of_ble_eq_true rfl) (fun X h hr hl hw => ?_)
  subst hl hw
  have h : Ok X cX7_move RX7 2 := h
  show Wx X S 0 [.ref (aD (xw X) 23), .int p, .int x, .int y] []
  refine r_aload_n 0 h dX7_move_0 rfl rfl ?_
  refine r_iload_n 1 h dX7_move_1 rfl rfl ?_
  refine cV1 h (mX7_isPoint _ _ _ p) kX7_isPoint lm_X7_76 (by decide) 23 (pl_23 _ _) rfl (Nat.le_of_ble_eq_true rfl) dX7_move_2 ?_
  refine r_if_eq 16 h dX7_move_5 (by decide) (fun c5 => ?_) (fun c5 => ?_)
  · refine r_bipush (-2) h dX7_move_16 (by decide) ?_
    exact r_iret h hr dX7_move_18 ⟨by simp only [mmvR, c5, ite_true, ite_false, if_true, if_false, not_true, not_false_iff], by simp only [mmvT, c5, ite_true, ite_false, if_true, if_false, not_true, not_false_iff]⟩
  · refine r_iload_n 2 h dX7_move_8 rfl rfl ?_
    refine r_iload_n 3 h dX7_move_9 rfl rfl ?_
    refine cS2 h (mX7_isPlace _ _ _ x y) kX7_isPlace lm_X7_68 (by decide) (Nat.le_of_ble_eq_true rfl) dX7_move_10 ?_
    refine r_if_ne 19 h dX7_move_13 (by decide) (fun c13 => ?_) (fun c13 => ?_)
    · refine r_aload_n 0 h dX7_move_19 rfl rfl ?_
      refine g23_1 h lf_X7_13 dX7_move_20 ?_
      refine r_iload_n 1 h dX7_move_23 rfl rfl ?_
      refine r_iload_n 2 h dX7_move_24 rfl rfl ?_
      refine as_25 h (mpt_in c5) dX7_move_25 ?_
      show Wx _ _ 26 _ _
      refine r_aload_n 0 h dX7_move_26 rfl rfl ?_
      refine g23_2 h lf_X7_17 dX7_move_27 ?_
      refine r_iload_n 1 h dX7_move_30 rfl rfl ?_
      refine r_iload_n 3 h dX7_move_31 rfl rfl ?_
      refine as_26 h (mpt_in c5) dX7_move_32 ?_
      refine r_iconst 1 h dX7_move_33 (by decide) ?_
      show Wx _ _ 34 _ _
      exact r_iret h hr dX7_move_34 ⟨by simp only [mmvR, c5, c13, ite_true, ite_false, if_true, if_false, not_true, not_false_iff], by simp only [mmvT, c5, c13, ite_true, ite_false, if_true, if_false, not_true, not_false_iff]⟩
    · refine r_bipush (-2) h dX7_move_16 (by decide) ?_
      exact r_iret h hr dX7_move_18 ⟨by simp only [mmvR, c5, c13, ite_true, ite_false, if_true, if_false, not_true, not_false_iff], by simp only [mmvT, c5, c13, ite_true, ite_false, if_true, if_false, not_true, not_false_iff]⟩
set_option maxRecDepth 100000 in
set_option maxHeartbeats 4000000 in
theorem mX7_weigh (l : Launch) (w : Fx) (S : St) (p q : Int32) : Ct l yX7_weigh cX7_weigh 4 (some .int) 2 w [.ref (aD w 23), .int p, .int q] S (fun v S' => v = some (.int (mwgR S p q)) ∧ S' = mwgT S p q) := by
  refine Ct.of (by decide) (Nat.le_of_ble_eq_true rfl) (fun X h hr hl hw => ?_)
  subst hl hw
  have h : Ok X cX7_weigh RX7 2 := h
  show Wx X S 0 [.ref (aD (xw X) 23), .int p, .int q, .null] []
  refine r_aload_n 0 h dX7_weigh_0 rfl rfl ?_
  refine r_iload_n 1 h dX7_weigh_1 rfl rfl ?_
  refine cV1 h (mX7_isPoint _ _ _ p) kX7_isPoint lm_X7_76 (by decide) 23 (pl_23 _ _) rfl (Nat.le_of_ble_eq_true rfl) dX7_weigh_2 ?_
  refine r_if_eq 22 h dX7_weigh_5 (by decide) (fun c5 => ?_) (fun c5 => ?_)
  · refine r_sipush (-2000) h dX7_weigh_22 (by decide) ?_
    exact r_iret h hr dX7_weigh_25 ⟨by simp only [mwgR, c5, ite_true, ite_false, if_true, if_false, not_true, not_false_iff], by simp only [mwgT, c5, ite_true, ite_false, if_true, if_false, not_true, not_false_iff]⟩
  · refine r_iload_n 2 h dX7_weigh_8 rfl rfl ?_
    refine r_i2l h dX7_weigh_9 ?_
    refine r_ldc2 h lc_X7_72 dX7_weigh_10 ?_
    refine r_ldc2 h lc_X7_74 dX7_weigh_13 ?_
    refine cS3 h (mX7_in _ _ _ _ _ _) kX7_in lm_X7_62 (by decide) (Nat.le_of_ble_eq_true rfl) dX7_weigh_16 ?_
    show Wx _ _ 19 _ _
    refine r_if_ne 26 h dX7_weigh_19 (by decide) (fun c19 => ?_) (fun c19 => ?_)
    · refine r_aload_n 0 h dX7_weigh_26 rfl rfl ?_
      refine g23_3 h lf_X7_20 dX7_weigh_27 ?_
      refine r_iload_n 1 h dX7_weigh_30 rfl rfl ?_
      refine al_27 h (mpt_in c5) dX7_weigh_31 ?_
      refine r_istore_n 3 h dX7_weigh_32 rfl (Nat.le_of_ble_eq_true rfl) ?_
      show Wx _ _ _ [_, _, _, _] _
      show Wx _ _ 33 _ _
      refine r_aload_n 0 h dX7_weigh_33 rfl rfl ?_
      refine g23_3 h lf_X7_20 dX7_weigh_34 ?_
      refine r_iload_n 1 h dX7_weigh_37 rfl rfl ?_
      refine r_iload_n 2 h dX7_weigh_38 rfl rfl ?_
      refine as_27 h (mpt_in c5) dX7_weigh_39 ?_
      refine r_iload_n 3 h dX7_weigh_40 rfl rfl ?_
      show Wx _ _ 41 _ _
      exact r_iret h hr dX7_weigh_41 ⟨by simp only [mwgR, c5, c19, ite_true, ite_false, if_true, if_false, not_true, not_false_iff], by simp only [mwgT, c5, c19, ite_true, ite_false, if_true, if_false, not_true, not_false_iff]⟩
    · refine r_sipush (-2000) h dX7_weigh_22 (by decide) ?_
      exact r_iret h hr dX7_weigh_25 ⟨by simp only [mwgR, c5, c19, ite_true, ite_false, if_true, if_false, not_true, not_false_iff], by simp only [mwgT, c5, c19, ite_true, ite_false, if_true, if_false, not_true, not_false_iff]⟩
set_option maxRecDepth 100000 in
set_option maxHeartbeats 4000000 in
theorem mX7_pace (l : Launch) (w : Fx) (S : St) (p x y : Int32) : Ct l yX7_pace cX7_pace 4 (some .int) 2 w [.ref (aD w 23), .int p, .int x, .int y] S (fun v S' => v = some (.int (mpcR S p x y)) ∧ S' = mpcT S p x y) := by
  refine Ct.of (by decide) (Nat.le_of_ble_eq_true rfl) (fun X h hr hl hw => ?_)
  subst hl hw
  have h : Ok X cX7_pace RX7 2 := h
  show Wx X S 0 [.ref (aD (xw X) 23), .int p, .int x, .int y] []
  refine r_aload_n 0 h dX7_pace_0 rfl rfl ?_
  refine r_iload_n 1 h dX7_pace_1 rfl rfl ?_
  refine cV1 h (mX7_isPoint _ _ _ p) kX7_isPoint lm_X7_76 (by decide) 23 (pl_23 _ _) rfl (Nat.le_of_ble_eq_true rfl) dX7_pace_2 ?_
  refine r_if_eq 36 h dX7_pace_5 (by decide) (fun c5 => ?_) (fun c5 => ?_)
  · refine r_bipush (-2) h dX7_pace_36 (by decide) ?_
    exact r_iret h hr dX7_pace_38 ⟨by simp only [mpcR, c5, ite_true, ite_false, if_true, if_false, not_true, not_false_iff], by simp only [mpcT, c5, ite_true, ite_false, if_true, if_false, not_true, not_false_iff]⟩
  · refine r_iload_n 2 h dX7_pace_8 rfl rfl ?_
    refine r_i2l h dX7_pace_9 ?_
    refine r_ldc2 h lc_X7_84 dX7_pace_10 ?_
    refine r_ldc2 h lc_X7_86 dX7_pace_13 ?_
    refine cS3 h (mX7_in _ _ _ _ _ _) kX7_in lm_X7_62 (by decide) (Nat.le_of_ble_eq_true rfl) dX7_pace_16 ?_
    show Wx _ _ 19 _ _
    refine r_if_eq 36 h dX7_pace_19 (by decide) (fun c19 => ?_) (fun c19 => ?_)
    · refine r_bipush (-2) h dX7_pace_36 (by decide) ?_
      exact r_iret h hr dX7_pace_38 ⟨by simp only [mpcR, c5, c19, ite_true, ite_false, if_true, if_false, not_true, not_false_iff], by simp only [mpcT, c5, c19, ite_true, ite_false, if_true, if_false, not_true, not_false_iff]⟩
    · refine r_iload_n 3 h dX7_pace_22 rfl rfl ?_
      refine r_i2l h dX7_pace_23 ?_
      refine r_ldc2 h lc_X7_84 dX7_pace_24 ?_
      refine r_ldc2 h lc_X7_86 dX7_pace_27 ?_
      refine cS3 h (mX7_in _ _ _ _ _ _) kX7_in lm_X7_62 (by decide) (Nat.le_of_ble_eq_true rfl) dX7_pace_30 ?_
      show Wx _ _ 33 _ _
      refine r_if_ne 39 h dX7_pace_33 (by decide) (fun c33 => ?_) (fun c33 => ?_)
      · refine r_aload_n 0 h dX7_pace_39 rfl rfl ?_
        refine g23_4 h lf_X7_23 dX7_pace_40 ?_
        refine r_iload_n 1 h dX7_pace_43 rfl rfl ?_
        refine r_iload_n 2 h dX7_pace_44 rfl rfl ?_
        refine as_28 h (mpt_in c5) dX7_pace_45 ?_
        show Wx _ _ 46 _ _
        refine r_aload_n 0 h dX7_pace_46 rfl rfl ?_
        refine g23_5 h lf_X7_26 dX7_pace_47 ?_
        refine r_iload_n 1 h dX7_pace_50 rfl rfl ?_
        refine r_iload_n 3 h dX7_pace_51 rfl rfl ?_
        refine as_29 h (mpt_in c5) dX7_pace_52 ?_
        refine r_iconst 1 h dX7_pace_53 (by decide) ?_
        show Wx _ _ 54 _ _
        exact r_iret h hr dX7_pace_54 ⟨by simp only [mpcR, c5, c19, c33, ite_true, ite_false, if_true, if_false, not_true, not_false_iff], by simp only [mpcT, c5, c19, c33, ite_true, ite_false, if_true, if_false, not_true, not_false_iff]⟩
      · refine r_bipush (-2) h dX7_pace_36 (by decide) ?_
        exact r_iret h hr dX7_pace_38 ⟨by simp only [mpcR, c5, c19, c33, ite_true, ite_false, if_true, if_false, not_true, not_false_iff], by simp only [mpcT, c5, c19, c33, ite_true, ite_false, if_true, if_false, not_true, not_false_iff]⟩
set_option maxRecDepth 100000 in
set_option maxHeartbeats 4000000 in
theorem mX7_at (l : Launch) (w : Fx) (S : St) (p q : Int32) : Ct l yX7_at cX7_at 3 (some .int) 2 w [.ref (aD w 23), .int p, .int q] S (fun v S' => v = some (.int (matR S p q)) ∧ S' = S) := by
  refine Ct.of (by decide) (Nat.le_of_ble_eq_true rfl) (fun X h hr hl hw => ?_)
  subst hl hw
  have h : Ok X cX7_at RX7 2 := h
  show Wx X S 0 [.ref (aD (xw X) 23), .int p, .int q] []
  refine r_aload_n 0 h dX7_at_0 rfl rfl ?_
  refine r_iload_n 1 h dX7_at_1 rfl rfl ?_
  refine cV1 h (mX7_isPoint _ _ _ p) kX7_isPoint lm_X7_76 (by decide) 23 (pl_23 _ _) rfl (Nat.le_of_ble_eq_true rfl) dX7_at_2 ?_
  refine r_if_ne 12 h dX7_at_5 (by decide) (fun c5 => ?_) (fun c5 => ?_)
  · refine r_iload_n 2 h dX7_at_12 rfl rfl ?_
    refine r_sw5 83 48 55 62 69 76 h dX7_at_13 (by decide) (by decide) (by decide) (by decide) (by decide) (by decide)  (fun c13 => ?_) (fun c13 => ?_) (fun c13 => ?_) (fun c13 => ?_) (fun c13 => ?_) (fun c13 => ?_) 
    · refine r_sipush (-2000) h dX7_at_83 (by decide) ?_
      exact r_iret h hr dX7_at_86 ⟨by rw [matR, if_neg c5, if_neg, if_neg, if_neg, if_neg, if_neg] <;> (intro z; subst z; revert c13; decide), rfl⟩
    · refine r_aload_n 0 h dX7_at_48 rfl rfl ?_
      refine g23_1 h lf_X7_13 dX7_at_49 ?_
      refine r_iload_n 1 h dX7_at_52 rfl rfl ?_
      refine al_25 h (mpt_in c5) dX7_at_53 ?_
      exact r_iret h hr dX7_at_54 ⟨by rw [matR, if_neg c5]; subst c13; rfl, rfl⟩
    · refine r_aload_n 0 h dX7_at_55 rfl rfl ?_
      refine g23_2 h lf_X7_17 dX7_at_56 ?_
      refine r_iload_n 1 h dX7_at_59 rfl rfl ?_
      refine al_26 h (mpt_in c5) dX7_at_60 ?_
      exact r_iret h hr dX7_at_61 ⟨by rw [matR, if_neg c5]; subst c13; rfl, rfl⟩
    · refine r_aload_n 0 h dX7_at_62 rfl rfl ?_
      refine g23_3 h lf_X7_20 dX7_at_63 ?_
      refine r_iload_n 1 h dX7_at_66 rfl rfl ?_
      refine al_27 h (mpt_in c5) dX7_at_67 ?_
      exact r_iret h hr dX7_at_68 ⟨by rw [matR, if_neg c5]; subst c13; rfl, rfl⟩
    · refine r_aload_n 0 h dX7_at_69 rfl rfl ?_
      refine g23_4 h lf_X7_23 dX7_at_70 ?_
      refine r_iload_n 1 h dX7_at_73 rfl rfl ?_
      refine al_28 h (mpt_in c5) dX7_at_74 ?_
      exact r_iret h hr dX7_at_75 ⟨by rw [matR, if_neg c5]; subst c13; rfl, rfl⟩
    · refine r_aload_n 0 h dX7_at_76 rfl rfl ?_
      refine g23_5 h lf_X7_26 dX7_at_77 ?_
      refine r_iload_n 1 h dX7_at_80 rfl rfl ?_
      refine al_29 h (mpt_in c5) dX7_at_81 ?_
      exact r_iret h hr dX7_at_82 ⟨by rw [matR, if_neg c5]; subst c13; rfl, rfl⟩
  · refine r_sipush (-2000) h dX7_at_8 (by decide) ?_
    exact r_iret h hr dX7_at_11 ⟨by simp only [matR, c5, ite_true, ite_false, if_true, if_false, not_true, not_false_iff], rfl⟩
set_option maxRecDepth 100000 in
set_option maxHeartbeats 4000000 in
theorem mX7_isPair (l : Launch) (w : Fx) (S : St) (a b : Int32) : Ct l yX7_isPair cX7_isPair 2 (some .boolean) 0 w [.int a, .int b] S (fun v S' => v = some (.int (mprI a b)) ∧ S' = S) := by
  refine Ct.of (by decide) (Nat.le_of_ble_eq_true rfl) (fun X h hr hl hw => ?_)
  subst hl hw
  have h : Ok X cX7_isPair RX7 0 := h
  show Wx X S 0 [.int a, .int b] []
  refine r_iload_n 0 h dX7_isPair_0 rfl rfl ?_
  refine r_if_lt 29 h dX7_isPair_1 (by decide) (fun c1 => ?_) (fun c1 => ?_)
  · refine r_iconst 0 h dX7_isPair_29 (by decide) ?_
    exact r_zret h hr dX7_isPair_30 rfl ⟨by simp only [mprI, c1, ite_true, ite_false, if_true, if_false, not_true, not_false_iff], rfl⟩
  · refine r_iload_n 1 h dX7_isPair_4 rfl rfl ?_
    refine r_if_lt 29 h dX7_isPair_5 (by decide) (fun c5 => ?_) (fun c5 => ?_)
    · refine r_iconst 0 h dX7_isPair_29 (by decide) ?_
      exact r_zret h hr dX7_isPair_30 rfl ⟨by simp only [mprI, c1, c5, ite_true, ite_false, if_true, if_false, not_true, not_false_iff], rfl⟩
    · refine r_iload_n 0 h dX7_isPair_8 rfl rfl ?_
      refine r_iconst 4 h dX7_isPair_9 (by decide) ?_
      refine r_icmp_gt 29 h dX7_isPair_10 (by decide) (fun c10 => ?_) (fun c10 => ?_)
      · refine r_iconst 0 h dX7_isPair_29 (by decide) ?_
        exact r_zret h hr dX7_isPair_30 rfl ⟨by simp only [mprI, c1, c5, c10, ite_true, ite_false, if_true, if_false, not_true, not_false_iff], rfl⟩
      · refine r_iload_n 1 h dX7_isPair_13 rfl rfl ?_
        refine r_iconst 4 h dX7_isPair_14 (by decide) ?_
        refine r_icmp_gt 29 h dX7_isPair_15 (by decide) (fun c15 => ?_) (fun c15 => ?_)
        · refine r_iconst 0 h dX7_isPair_29 (by decide) ?_
          exact r_zret h hr dX7_isPair_30 rfl ⟨by simp only [mprI, c1, c5, c10, c15, ite_true, ite_false, if_true, if_false, not_true, not_false_iff], rfl⟩
        · refine r_iload_n 0 h dX7_isPair_18 rfl rfl ?_
          refine r_iload_n 1 h dX7_isPair_19 rfl rfl ?_
          refine r_iadd h dX7_isPair_20 ?_
          refine r_iconst 4 h dX7_isPair_21 (by decide) ?_
          refine r_icmp_gt 29 h dX7_isPair_22 (by decide) (fun c22 => ?_) (fun c22 => ?_)
          · refine r_iconst 0 h dX7_isPair_29 (by decide) ?_
            exact r_zret h hr dX7_isPair_30 rfl ⟨by simp only [mprI, c1, c5, c10, c15, c22, ite_true, ite_false, if_true, if_false, not_true, not_false_iff], rfl⟩
          · refine r_iconst 1 h dX7_isPair_25 (by decide) ?_
            refine r_goto 30 h dX7_isPair_26 (by decide) ?_
            exact r_zret h hr dX7_isPair_30 rfl ⟨by simp only [mprI, c1, c5, c10, c15, c22, ite_true, ite_false, if_true, if_false, not_true, not_false_iff], rfl⟩
set_option maxRecDepth 100000 in
set_option maxHeartbeats 4000000 in
theorem mX7_kernel (l : Launch) (w : Fx) (S : St) (a b c : Int32) : Ct l yX7_kernel cX7_kernel 5 (some .int) 1 w [.ref (aD w 23), .int a, .int b, .int c] S (fun v S' => v = some (.int (mknR S a b c)) ∧ S' = mknT S a b c) := by
  refine Ct.of (by decide) (Nat.le_of_ble_eq_true rfl) (fun X h hr hl hw => ?_)
  subst hl hw
  have h : Ok X cX7_kernel RX7 1 := h
  show Wx X S 0 [.ref (aD (xw X) 23), .int a, .int b, .int c, .null] []
  refine r_iload_n 1 h dX7_kernel_0 rfl rfl ?_
  refine r_iload_n 2 h dX7_kernel_1 rfl rfl ?_
  refine cS2 h (mX7_isPair _ _ _ a b) kX7_isPair lm_X7_88 (by decide) (Nat.le_of_ble_eq_true rfl) dX7_kernel_2 ?_
  refine r_if_eq 22 h dX7_kernel_5 (by decide) (fun c5 => ?_) (fun c5 => ?_)
  · refine r_sipush (-2000) h dX7_kernel_22 (by decide) ?_
    exact r_iret h hr dX7_kernel_25 ⟨by simp only [mknR, c5, ite_true, ite_false, if_true, if_false, not_true, not_false_iff], by simp only [mknT, c5, ite_true, ite_false, if_true, if_false, not_true, not_false_iff]⟩
  · refine r_iload_n 3 h dX7_kernel_8 rfl rfl ?_
    refine r_i2l h dX7_kernel_9 ?_
    refine r_ldc2 h lc_X7_91 dX7_kernel_10 ?_
    refine r_ldc2 h lc_X7_93 dX7_kernel_13 ?_
    refine cS3 h (mX7_in _ _ _ _ _ _) kX7_in lm_X7_62 (by decide) (Nat.le_of_ble_eq_true rfl) dX7_kernel_16 ?_
    show Wx _ _ 19 _ _
    refine r_if_ne 26 h dX7_kernel_19 (by decide) (fun c19 => ?_) (fun c19 => ?_)
    · obtain ⟨i, j, hij, rfl, rfl⟩ := mpr_at c5
      refine r_aload_n 0 h dX7_kernel_26 rfl rfl ?_
      refine g23_6 h lf_X7_29 dX7_kernel_27 ?_
      refine r_iconst 5 h dX7_kernel_30 (by decide) ?_
      refine r_iload_n 1 h dX7_kernel_31 rfl rfl ?_
      refine r_imul h dX7_kernel_32 ?_
      show Wx _ _ 33 _ _
      refine r_iload_n 2 h dX7_kernel_33 rfl rfl ?_
      refine r_iadd h dX7_kernel_34 ?_
      rw [ix5]
      refine alN_30 h (by omega) dX7_kernel_35 ?_
      refine r_istore h dX7_kernel_36 (Nat.le_of_ble_eq_true rfl) ?_
      show Wx _ _ _ [_, _, _, _, _] _
      refine r_aload_n 0 h dX7_kernel_38 rfl rfl ?_
      refine g23_6 h lf_X7_29 dX7_kernel_39 ?_
      show Wx _ _ 42 _ _
      refine r_iconst 5 h dX7_kernel_42 (by decide) ?_
      refine r_iload_n 1 h dX7_kernel_43 rfl rfl ?_
      refine r_imul h dX7_kernel_44 ?_
      refine r_iload_n 2 h dX7_kernel_45 rfl rfl ?_
      refine r_iadd h dX7_kernel_46 ?_
      refine r_iload_n 3 h dX7_kernel_47 rfl rfl ?_
      show Wx _ _ 48 _ _
      rw [ix5]
      refine asN_30 h (by omega) dX7_kernel_48 ?_
      refine r_iload h dX7_kernel_49 rfl ?_
      exact r_iret h hr dX7_kernel_51 ⟨by rw [mknR, if_neg c5, if_neg c19, ncl (by omega), ncl (by omega)], by rw [mknT, if_neg c5, if_neg c19, ncl (by omega), ncl (by omega)]⟩
    · refine r_sipush (-2000) h dX7_kernel_22 (by decide) ?_
      exact r_iret h hr dX7_kernel_25 ⟨by simp only [mknR, c5, c19, ite_true, ite_false, if_true, if_false, not_true, not_false_iff], by simp only [mknT, c5, c19, ite_true, ite_false, if_true, if_false, not_true, not_false_iff]⟩
set_option maxRecDepth 100000 in
set_option maxHeartbeats 4000000 in
theorem mX7_capacity (l : Launch) (w : Fx) (S : St) (m : Int32) : Ct l yX7_capacity cX7_capacity 3 (some .int) 1 w [.ref (aD w 23), .int m] S (fun v S' => v = some (.int (mcpR S m)) ∧ S' = mcpT S m) := by
  refine Ct.of (by decide) (Nat.le_of_ble_eq_true rfl) (fun X h hr hl hw => ?_)
  subst hl hw
  have h : Ok X cX7_capacity RX7 1 := h
  show Wx X S 0 [.ref (aD (xw X) 23), .int m, .null] []
  refine r_iload_n 1 h dX7_capacity_0 rfl rfl ?_
  refine r_i2l h dX7_capacity_1 ?_
  refine r_lconst 1 h dX7_capacity_2 (by decide) ?_
  refine r_ldc2 h lc_X7_95 dX7_capacity_3 ?_
  refine cS3 h (mX7_in _ _ _ _ _ _) kX7_in lm_X7_62 (by decide) (Nat.le_of_ble_eq_true rfl) dX7_capacity_6 ?_
  show Wx _ _ 9 _ _
  refine r_if_ne 15 h dX7_capacity_9 (by decide) (fun c9 => ?_) (fun c9 => ?_)
  · refine r_aload_n 0 h dX7_capacity_15 rfl rfl ?_
    refine g23_7 h lf_X7_32 dX7_capacity_16 ?_
    refine r_istore_n 2 h dX7_capacity_19 rfl (Nat.le_of_ble_eq_true rfl) ?_
    show Wx _ _ _ [_, _, _] _
    refine r_aload_n 0 h dX7_capacity_20 rfl rfl ?_
    refine r_iload_n 1 h dX7_capacity_21 rfl rfl ?_
    show Wx _ _ 22 _ _
    refine p23_7 h lf_X7_32 dX7_capacity_22 ?_
    refine r_iload_n 2 h dX7_capacity_25 rfl rfl ?_
    exact r_iret h hr dX7_capacity_26 ⟨by simp only [mcpR, c9, ite_true, ite_false, if_true, if_false, not_true, not_false_iff], by simp only [mcpT, c9, ite_true, ite_false, if_true, if_false, not_true, not_false_iff]⟩
  · refine r_bipush (-2) h dX7_capacity_12 (by decide) ?_
    exact r_iret h hr dX7_capacity_14 ⟨by simp only [mcpR, c9, ite_true, ite_false, if_true, if_false, not_true, not_false_iff], by simp only [mcpT, c9, ite_true, ite_false, if_true, if_false, not_true, not_false_iff]⟩
set_option maxRecDepth 100000 in
set_option maxHeartbeats 4000000 in
theorem mX7_power (l : Launch) (w : Fx) (S : St) (x : Int64) (k : Nat) (hk : k < 2 ^ 31) : Ct l yX7_power cX7_power 6 (some .long) 0 w [.long x, .int (nI k)] S (fun v S' => v = some (.long (pw 1 x k)) ∧ S' = S) := by
  refine Ct.of (by decide) (Nat.le_of_ble_eq_true rfl) (fun X h hr hl hw => ?_)
  subst hl hw
  have h : Ok X cX7_power RX7 0 := h
  show Wx X S 0 [.long x, .null, .int (nI k), .null, .null, .null] []
  have loop : ∀ n i : Nat, i + n = k → Wx X (S) 5 [.long x, .null, .int (nI k), .long (pw 1 x i), .null, .int (nI i)] [] := by
    intro n
    induction n with
    | zero =>
      intro i hi
      have hi : i = k := by omega
      subst hi
      refine r_iload h dX7_power_5 rfl ?_
      refine r_iload_n 2 h dX7_power_7 rfl rfl ?_
      refine r_icmp_ge_t 21 h dX7_power_8 (by decide) (bigT (by omega) (by omega)) ?_
      refine r_lload_n 3 h dX7_power_21 rfl rfl ?_
      exact r_lret h hr dX7_power_22 ⟨rfl, rfl⟩
    | succ n ih =>
      intro i hi
      have hq := ih (i + 1) (by omega)
      refine r_iload h dX7_power_5 rfl ?_
      refine r_iload_n 2 h dX7_power_7 rfl rfl ?_
      refine r_icmp_ge_f 21 h dX7_power_8 (by decide) (bigF (by omega) (by omega)) ?_
      refine r_lload_n 3 h dX7_power_11 rfl rfl ?_
      refine r_lload_n 0 h dX7_power_12 rfl rfl ?_
      show Wx _ _ 13 _ _
      refine r_lmul h dX7_power_13 ?_
      refine r_lstore_n 3 h dX7_power_14 rfl (Nat.le_of_ble_eq_true rfl) ?_
      show Wx _ _ _ [_, _, _, _, _, _] _
      refine r_iincN h dX7_power_15 rfl ?_
      show Wx _ _ _ [_, _, _, _, _, _] _
      refine r_goto 5 h dX7_power_18 (by decide) ?_
      exact hq
  refine r_lconst 1 h dX7_power_0 (by decide) ?_
  refine r_lstore_n 3 h dX7_power_1 rfl (Nat.le_of_ble_eq_true rfl) ?_
  show Wx _ _ _ [_, _, _, _, _, _] _
  refine r_iconst 0 h dX7_power_2 (by decide) ?_
  refine r_istore h dX7_power_3 (Nat.le_of_ble_eq_true rfl) ?_
  show Wx _ _ _ [_, _, _, _, _, _] _
  exact loop k 0 (by omega)
set_option maxRecDepth 100000 in
set_option maxHeartbeats 4000000 in
theorem mX7_pull (l : Launch) (w : Fx) (S : St) (p : Nat) (x y : Int32) (hp : p < 40) : Ct l yX7_pull cX7_pull 8 (some .long) 1 w [.ref (aD w 23), .int (nI p), .int x, .int y] S (fun v S' => v = some (.long (mpuL (S.1 26) (S.1 21) (S.1 22) (S.1 23) p x y)) ∧ S' = S) := by
  refine Ct.of (by decide) (Nat.le_of_ble_eq_true rfl) (fun X h hr hl hw => ?_)
  subst hl hw
  have h : Ok X cX7_pull RX7 1 := h
  show Wx X S 0 [.ref (aD (xw X) 23), .int (nI p), .int x, .int y, .null, .null, .null, .null] []
  have loop : ∀ n a : Nat, a + n = 5 → Wx X S 6 [.ref (aD (xw X) 23), .int (nI p), .int x, .int y, .long (puA (S.1 26) (x - S.1 21 p).toInt64 (y - S.1 22 p).toInt64 a), .null, .int (nI a), .null] [] := by
    intro n
    induction n with
    | zero =>
      intro a ha
      have ha : a = 5 := by omega
      subst ha
      refine r_iload h dX7_pull_6 rfl ?_
      refine r_iconst 5 h dX7_pull_8 (by decide) ?_
      refine r_icmp_ge_t 84 h dX7_pull_9 (by decide) (bigT (a := 5) (by omega) (by omega)) ?_
      refine r_ldc2 h lc_X7_101 dX7_pull_84 ?_
      refine r_aload_n 0 h dX7_pull_87 rfl rfl ?_
      show Wx _ _ 88 _ _
      refine g23_3 h lf_X7_20 dX7_pull_88 ?_
      refine r_iload_n 1 h dX7_pull_91 rfl rfl ?_
      refine alN_27 h (by omega) dX7_pull_92 ?_
      refine r_i2l h dX7_pull_93 ?_
      refine r_lmul h dX7_pull_94 ?_
      refine r_lload h dX7_pull_95 rfl ?_
      show Wx _ _ 97 _ _
      refine r_lmul h dX7_pull_97 ?_
      exact r_lret h hr dX7_pull_98 ⟨rfl, rfl⟩
    | succ n ih =>
      intro a ha
      have hq := ih (a + 1) (by omega)
      have inner : ∀ n b : Nat, b + n = 5 - a → Wx X S 15 [.ref (aD (xw X) 23), .int (nI p), .int x, .int y, .long (puB (S.1 26) (x - S.1 21 p).toInt64 (y - S.1 22 p).toInt64 a (puA (S.1 26) (x - S.1 21 p).toInt64 (y - S.1 22 p).toInt64 a) b), .null, .int (nI a), .int (nI b)] [] := by
        intro n
        induction n with
        | zero =>
          intro b hb
          have hb : b = 5 - a := by omega
          subst hb
          refine r_iload h dX7_pull_15 rfl ?_
          refine r_iload h dX7_pull_17 rfl ?_
          refine r_iadd h dX7_pull_19 ?_
          refine r_iconst 5 h dX7_pull_20 (by decide) ?_
          refine r_icmp_ge_t 78 h dX7_pull_21 (by decide) (by rw [nI_add]; exact bigT (a := 5) (by omega) (by omega)) ?_
          show Wx _ _ 78 _ _
          refine r_iincN h dX7_pull_78 rfl ?_
          show Wx _ _ _ [_, _, _, _, _, _, _, _] _
          refine r_goto 6 h dX7_pull_81 (by decide) ?_
          exact Wx.weak (lv' := [.ref (aD (xw X) 23), .int (nI p), .int x, .int y, .long (puA (S.1 26) (x - S.1 21 p).toInt64 (y - S.1 22 p).toInt64 (a + 1)), .null, .int (nI (a + 1)), .null]) (And.intro rfl (And.intro rfl (And.intro rfl (And.intro rfl (And.intro rfl (And.intro rfl trivial)))))) (hq)
        | succ n ihb =>
          intro b hb
          have hp2 := ihb (b + 1) (by omega)
          refine r_iload h dX7_pull_15 rfl ?_
          refine r_iload h dX7_pull_17 rfl ?_
          refine r_iadd h dX7_pull_19 ?_
          refine r_iconst 5 h dX7_pull_20 (by decide) ?_
          refine r_icmp_ge_f 78 h dX7_pull_21 (by decide) (by rw [nI_add]; exact bigF (a := 5) (by omega) (by omega)) ?_
          show Wx _ _ 24 _ _
          refine r_lload h dX7_pull_24 rfl ?_
          refine r_aload_n 0 h dX7_pull_26 rfl rfl ?_
          refine g23_6 h lf_X7_29 dX7_pull_27 ?_
          refine r_iconst 5 h dX7_pull_30 (by decide) ?_
          refine r_iload h dX7_pull_31 rfl ?_
          refine r_imul h dX7_pull_33 ?_
          show Wx _ _ 34 _ _
          refine r_iload h dX7_pull_34 rfl ?_
          refine r_iadd h dX7_pull_36 ?_
          rw [ix5]
          refine alN_30 h (by omega) dX7_pull_37 ?_
          refine r_i2l h dX7_pull_38 ?_
          refine r_iload_n 2 h dX7_pull_39 rfl rfl ?_
          refine r_aload_n 0 h dX7_pull_40 rfl rfl ?_
          show Wx _ _ 41 _ _
          refine g23_1 h lf_X7_13 dX7_pull_41 ?_
          refine r_iload_n 1 h dX7_pull_44 rfl rfl ?_
          refine alN_25 h (by omega) dX7_pull_45 ?_
          refine r_isub h dX7_pull_46 ?_
          refine r_i2l h dX7_pull_47 ?_
          refine r_iload h dX7_pull_48 rfl ?_
          show Wx _ _ 50 _ _
          refine cS2 h (mX7_power _ _ _ _ a (by omega)) kX7_power lm_X7_97 (by decide) (Nat.le_of_ble_eq_true rfl) dX7_pull_50 ?_
          refine r_lmul h dX7_pull_53 ?_
          refine r_iload_n 3 h dX7_pull_54 rfl rfl ?_
          refine r_aload_n 0 h dX7_pull_55 rfl rfl ?_
          refine g23_2 h lf_X7_17 dX7_pull_56 ?_
          refine r_iload_n 1 h dX7_pull_59 rfl rfl ?_
          show Wx _ _ 60 _ _
          refine alN_26 h (by omega) dX7_pull_60 ?_
          refine r_isub h dX7_pull_61 ?_
          refine r_i2l h dX7_pull_62 ?_
          refine r_iload h dX7_pull_63 rfl ?_
          refine cS2 h (mX7_power _ _ _ _ b (by omega)) kX7_power lm_X7_97 (by decide) (Nat.le_of_ble_eq_true rfl) dX7_pull_65 ?_
          refine r_lmul h dX7_pull_68 ?_
          show Wx _ _ 69 _ _
          refine r_ladd h dX7_pull_69 ?_
          refine r_lstore h dX7_pull_70 (Nat.le_of_ble_eq_true rfl) ?_
          show Wx _ _ _ [_, _, _, _, _, _, _, _] _
          refine r_iincN h dX7_pull_72 rfl ?_
          show Wx _ _ _ [_, _, _, _, _, _, _, _] _
          refine r_goto 15 h dX7_pull_75 (by decide) ?_
          exact hp2
      refine r_iload h dX7_pull_6 rfl ?_
      refine r_iconst 5 h dX7_pull_8 (by decide) ?_
      refine r_icmp_ge_f 84 h dX7_pull_9 (by decide) (bigF (a := 5) (by omega) (by omega)) ?_
      refine r_iconst 0 h dX7_pull_12 (by decide) ?_
      refine r_istore h dX7_pull_13 (Nat.le_of_ble_eq_true rfl) ?_
      show Wx _ _ _ [_, _, _, _, _, _, _, _] _
      exact inner (5 - a) 0 (by omega)
  refine r_lconst 0 h dX7_pull_0 (by decide) ?_
  refine r_lstore h dX7_pull_1 (Nat.le_of_ble_eq_true rfl) ?_
  show Wx _ _ _ [_, _, _, _, _, _, _, _] _
  refine r_iconst 0 h dX7_pull_3 (by decide) ?_
  refine r_istore h dX7_pull_4 (Nat.le_of_ble_eq_true rfl) ?_
  show Wx _ _ _ [_, _, _, _, _, _, _, _] _
  exact loop 5 0 rfl
set_option maxRecDepth 100000 in
set_option maxHeartbeats 4000000 in
theorem mX7_sumAt (l : Launch) (w : Fx) (S : St) (x y : Int32) : Ct l yX7_sumAt cX7_sumAt 6 (some .long) 2 w [.ref (aD w 23), .int x, .int y] S (fun v S' => v = some (.long (saV (S.1 20) (S.1 26) (S.1 21) (S.1 22) (S.1 23) x y 40)) ∧ S' = S) := by
  refine Ct.of (by decide) (Nat.le_of_ble_eq_true rfl) (fun X h hr hl hw => ?_)
  subst hl hw
  have h : Ok X cX7_sumAt RX7 2 := h
  show Wx X S 0 [.ref (aD (xw X) 23), .int x, .int y, .null, .null, .null] []
  have loop : ∀ n i : Nat, i + n = 40 → Wx X (S) 5 [.ref (aD (xw X) 23), .int x, .int y, .long (saV (S.1 20) (S.1 26) (S.1 21) (S.1 22) (S.1 23) x y i), .null, .int (nI i)] [] := by
    intro n
    induction n with
    | zero =>
      intro i hi
      have hi : i = 40 := by omega
      subst hi
      refine r_iload h dX7_sumAt_5 rfl ?_
      refine r_bipush 40 h dX7_sumAt_7 (by decide) ?_
      refine r_icmp_ge_t 43 h dX7_sumAt_9 (by decide) (bigT (a := 40) (by omega) (by omega)) ?_
      refine r_lload_n 3 h dX7_sumAt_43 rfl rfl ?_
      exact r_lret h hr dX7_sumAt_44 ⟨rfl, rfl⟩
    | succ n ih =>
      intro i hi
      have hq := ih (i + 1) (by omega)
      unfold saV at hq
      refine r_iload h dX7_sumAt_5 rfl ?_
      refine r_bipush 40 h dX7_sumAt_7 (by decide) ?_
      refine r_icmp_ge_f 43 h dX7_sumAt_9 (by decide) (bigF (a := 40) (by omega) (by omega)) ?_
      refine r_lload_n 3 h dX7_sumAt_12 rfl rfl ?_
      refine r_aload_n 0 h dX7_sumAt_13 rfl rfl ?_
      show Wx _ _ 14 _ _
      refine g23_0 h lf_X7_7 dX7_sumAt_14 ?_
      refine r_iload h dX7_sumAt_17 rfl ?_
      refine alN_24 h (by omega) dX7_sumAt_19 ?_
      refine r_if_eq 34 h dX7_sumAt_20 (by decide) (fun c20 => ?_) (fun c20 => ?_)
      · refine r_lconst 0 h dX7_sumAt_34 (by decide) ?_
        refine r_ladd h dX7_sumAt_35 ?_
        refine r_lstore_n 3 h dX7_sumAt_36 rfl (Nat.le_of_ble_eq_true rfl) ?_
        show Wx _ _ _ [_, _, _, _, _, _] _
        refine r_iincN h dX7_sumAt_37 rfl ?_
        show Wx _ _ _ [_, _, _, _, _, _] _
        refine r_goto 5 h dX7_sumAt_40 (by decide) ?_
        first | (rw [if_pos c20] at hq; exact hq) | (rw [if_neg c20] at hq; exact hq)
      · refine r_aload_n 0 h dX7_sumAt_23 rfl rfl ?_
        refine r_iload h dX7_sumAt_24 rfl ?_
        refine r_iload_n 1 h dX7_sumAt_26 rfl rfl ?_
        refine r_iload_n 2 h dX7_sumAt_27 rfl rfl ?_
        refine cV3 h (mX7_pull _ _ _ i x y (by omega)) kX7_pull lm_X7_103 (by decide) 23 (pl_23 _ _) rfl (Nat.le_of_ble_eq_true rfl) dX7_sumAt_28 ?_
        show Wx _ _ 31 _ _
        refine r_goto 35 h dX7_sumAt_31 (by decide) ?_
        refine r_ladd h dX7_sumAt_35 ?_
        refine r_lstore_n 3 h dX7_sumAt_36 rfl (Nat.le_of_ble_eq_true rfl) ?_
        show Wx _ _ _ [_, _, _, _, _, _] _
        refine r_iincN h dX7_sumAt_37 rfl ?_
        show Wx _ _ _ [_, _, _, _, _, _] _
        refine r_goto 5 h dX7_sumAt_40 (by decide) ?_
        first | (rw [if_pos c20] at hq; exact hq) | (rw [if_neg c20] at hq; exact hq)
  refine r_lconst 0 h dX7_sumAt_0 (by decide) ?_
  refine r_lstore_n 3 h dX7_sumAt_1 rfl (Nat.le_of_ble_eq_true rfl) ?_
  show Wx _ _ _ [_, _, _, _, _, _] _
  refine r_iconst 0 h dX7_sumAt_2 (by decide) ?_
  refine r_istore h dX7_sumAt_3 (Nat.le_of_ble_eq_true rfl) ?_
  show Wx _ _ _ [_, _, _, _, _, _] _
  exact loop 40 0 rfl
set_option maxRecDepth 100000 in
set_option maxHeartbeats 4000000 in
theorem mX7_sum (l : Launch) (w : Fx) (S : St) (x y : Int32) : Ct l yX7_sum cX7_sum 3 (some .long) 3 w [.ref (aD w 23), .int x, .int y] S (fun v S' => v = some (.long (msuR S x y)) ∧ S' = S) := by
  refine Ct.of (by decide) (Nat.le_of_ble_eq_true rfl) (fun X h hr hl hw => ?_)
  subst hl hw
  have h : Ok X cX7_sum RX7 3 := h
  show Wx X S 0 [.ref (aD (xw X) 23), .int x, .int y] []
  refine r_iload_n 1 h dX7_sum_0 rfl rfl ?_
  refine r_iload_n 2 h dX7_sum_1 rfl rfl ?_
  refine cS2 h (mX7_isPlace _ _ _ x y) kX7_isPlace lm_X7_68 (by decide) (Nat.le_of_ble_eq_true rfl) dX7_sum_2 ?_
  refine r_if_eq 17 h dX7_sum_5 (by decide) (fun c5 => ?_) (fun c5 => ?_)
  · refine r_ldc2 h lc_X7_111 dX7_sum_17 ?_
    exact r_lret h hr dX7_sum_20 ⟨by simp only [msuR, c5, ite_true, ite_false, if_true, if_false, not_true, not_false_iff], rfl⟩
  · refine r_aload_n 0 h dX7_sum_8 rfl rfl ?_
    refine r_iload_n 1 h dX7_sum_9 rfl rfl ?_
    refine r_iload_n 2 h dX7_sum_10 rfl rfl ?_
    refine cV2 h (mX7_sumAt _ _ _ x y) kX7_sumAt lm_X7_107 (by decide) 23 (pl_23 _ _) rfl (Nat.le_of_ble_eq_true rfl) dX7_sum_11 ?_
    refine r_goto 20 h dX7_sum_14 (by decide) ?_
    show Wx _ _ 20 _ _
    exact r_lret h hr dX7_sum_20 ⟨by simp only [msuR, c5, ite_true, ite_false, if_true, if_false, not_true, not_false_iff], rfl⟩
