def faI (px py : Nat → Int32) (p : Nat) (x y : Int32) : Int32 := (px p - x) * (px p - x) + (py p - y) * (py p - y)
def ahI (hr px py : Nat → Int32) (p : Nat) (x y : Int32) : Nat → Int32
  | 0 => 0
  | q + 1 => ahI hr px py p x y q + (if hr q = 0 then 0 else if faI px py q x y < faI px py p x y then 1 else if faI px py q x y = faI px py p x y then (if nI p ≤ nI q then 0 else 1) else 0)
theorem ahI_s {hr px py : Nat → Int32} {p : Nat} {x y : Int32} {q : Nat} : ahI hr px py p x y (q + 1) = ahI hr px py p x y q + (if hr q = 0 then 0 else if faI px py q x y < faI px py p x y then 1 else if faI px py q x y = faI px py p x y then (if nI p ≤ nI q then 0 else 1) else 0) := rfl
def mneV (hr px py : Nat → Int32) (x y k : Int32) : Nat → Nat → Int32
  | 0, _ => -1
  | n + 1, p => if hr p = 0 then mneV hr px py x y k n (p + 1) else if ahI hr px py p x y 40 = k then nI p else mneV hr px py x y k n (p + 1)
theorem mneV_s {hr px py : Nat → Int32} {x y k : Int32} {n p : Nat} : mneV hr px py x y k (n + 1) p = if hr p = 0 then mneV hr px py x y k n (p + 1) else if ahI hr px py p x y 40 = k then nI p else mneV hr px py x y k n (p + 1) := rfl
def mneR (S : St) (x y k : Int32) : Int32 := if mplI x y = 0 then -2 else if 0 ≤ k then mneV (S.1 20) (S.1 21) (S.1 22) x y k 40 0 else -2
def psL (a b : Int64) : Int32 := (((a - b) >>> ((12 : Int32).toInt64 &&& 63) + 32) &&& 63).toInt32 - 32
def brI (v : Int32) : Int32 := ((v + 32) &&& 63) - 32
def saS (T : St) (x y : Int32) : Int64 := saV (T.1 20) (T.1 26) (T.1 21) (T.1 22) (T.1 23) x y 40
def mfX (T : St) (p : Nat) : St := sI T 36 p (psL (saS T (T.1 21 p + 1) (T.1 22 p)) (saS T (T.1 21 p - 1) (T.1 22 p)))
def mfP (T : St) (p : Nat) : St := sI (mfX T p) 37 p (psL (saS (mfX T p) ((mfX T p).1 21 p) ((mfX T p).1 22 p + 1)) (saS (mfX T p) ((mfX T p).1 21 p) ((mfX T p).1 22 p - 1)))
def mfT (S : St) : Nat → St
  | 0 => S
  | p + 1 => if (mfT S p).1 20 p = 0 then mfT S p else mfP (mfT S p) p
theorem mfT_s {S : St} {p : Nat} : mfT S (p + 1) = if (mfT S p).1 20 p = 0 then mfT S p else mfP (mfT S p) p := rfl
def goA (T : St) (p : Nat) : St := sI T 24 p (brI (T.1 24 p + T.1 36 p))
def goB (T : St) (p : Nat) : St := sI (goA T p) 25 p (brI ((goA T p).1 25 p + (goA T p).1 37 p))
def goC (T : St) (p : Nat) : St := sI (goB T p) 21 p (((goB T p).1 21 p + (goB T p).1 24 p) &&& 63)
def goD (T : St) (p : Nat) : St := sI (goC T p) 22 p (((goC T p).1 22 p + (goC T p).1 25 p) &&& 63)
def goT (S : St) : Nat → St
  | 0 => S
  | p + 1 => if (goT S p).1 20 p = 0 then goT S p else goD (goT S p) p
theorem goT_s {S : St} {p : Nat} : goT S (p + 1) = if (goT S p).1 20 p = 0 then goT S p else goD (goT S p) p := rfl
def gonS (S : St) : St := goT (mfT S 40) 40
def gbA (T : St) (p : Nat) : St := sI T 21 p ((T.1 21 p - T.1 24 p) &&& 63)
def gbB (T : St) (p : Nat) : St := sI (gbA T p) 22 p (((gbA T p).1 22 p - (gbA T p).1 25 p) &&& 63)
def gbT (S : St) : Nat → St
  | 0 => S
  | p + 1 => if (gbT S p).1 20 p = 0 then gbT S p else gbB (gbT S p) p
theorem gbT_s {S : St} {p : Nat} : gbT S (p + 1) = if (gbT S p).1 20 p = 0 then gbT S p else gbB (gbT S p) p := rfl
def gcA (T : St) (p : Nat) : St := sI T 24 p (brI (T.1 24 p - T.1 36 p))
def gcB (T : St) (p : Nat) : St := sI (gcA T p) 25 p (brI ((gcA T p).1 25 p - (gcA T p).1 37 p))
def gcT (S : St) : Nat → St
  | 0 => S
  | p + 1 => if (gcT S p).1 20 p = 0 then gcT S p else gcB (gcT S p) p
theorem gcT_s {S : St} {p : Nat} : gcT S (p + 1) = if (gcT S p).1 20 p = 0 then gcT S p else gcB (gcT S p) p := rfl
def gbkS (S : St) : St := gcT (mfT (gbT S 40) 40) 40
theorem itr_s {f : St → St} {k : Nat} {S : St} : itr f (k + 1) S = f (itr f k S) := rfl
def mspU (S : St) (n : Int32) : St := if n < 0 then itr gbkS (-n).toNatClampNeg S else itr gonS n.toNatClampNeg S
def mstT (S : St) (n : Int32) : St := if inL n.toInt64 (-8) 8 = 0 then S else if n = 0 then S else sI (mspU S n) 28 0 ((mspU S n).1 28 0 + n)
def mstR (S : St) (n : Int32) : Int32 := if inL n.toInt64 (-8) 8 = 0 then -2 else if n = 0 then -2 else (mstT S n).1 28 0
/-- what count goes through: BOXES, the greatest LEVEL, SPLIT ones -/
def ckI (l k : Nat) : Int32 := nI k &&& ((1 : Int32) <<< (nI l &&& 31) - 1)
def ckJ (l k : Nat) : Int32 := nI k >>> (nI l &&& 31)
def ckK (hr px py : Nat → Int32) (mo : Int32) (l : Nat) (c : Int32 × Int32 × Int32) : Nat → Int32 × Int32 × Int32
  | 0 => c
  | k + 1 => if mbxI hr px py mo (nI l) (ckI l k) (ckJ l k) = 0 then ckK hr px py mo l c k else ((ckK hr px py mo l c k).1 + 1, nI l, (ckK hr px py mo l c k).2.2 + (if mspI hr px py mo (nI l) (ckI l k) (ckJ l k) = 0 then 0 else 1))
theorem ckK_s {hr px py : Nat → Int32} {mo : Int32} {l : Nat} {c : Int32 × Int32 × Int32} {k : Nat} : ckK hr px py mo l c (k + 1) = if mbxI hr px py mo (nI l) (ckI l k) (ckJ l k) = 0 then ckK hr px py mo l c k else ((ckK hr px py mo l c k).1 + 1, nI l, (ckK hr px py mo l c k).2.2 + (if mspI hr px py mo (nI l) (ckI l k) (ckJ l k) = 0 then 0 else 1)) := rfl
def ckL (hr px py : Nat → Int32) (mo : Int32) : Nat → Int32 × Int32 × Int32
  | 0 => (0, 0, 0)
  | l + 1 => ckK hr px py mo l (ckL hr px py mo l) (4 ^ l)
theorem ckL_s {hr px py : Nat → Int32} {mo : Int32} {l : Nat} : ckL hr px py mo (l + 1) = ckK hr px py mo l (ckL hr px py mo l) (4 ^ l) := rfl
theorem p4_N {l : Nat} (h : l < 6) : (1 : Int32) <<< ((2 * nI l) &&& 31) = nI (4 ^ l) := by
  have key : ∀ l : Fin 6, (1 : Int32) <<< ((2 * nI l.val) &&& 31) = nI (4 ^ l.val) := by decide +kernel
  exact key ⟨l, h⟩
theorem p4_lt {l : Nat} (h : l < 6) : 4 ^ l ≤ 1024 := by
  have : 4 ^ l ≤ 4 ^ 5 := Nat.pow_le_pow_right (by decide) (by omega)
  simpa using this
def mcnR (S : St) (q : Int32) : Int32 := if q = 0 then mnI (S.1 20) 40 else if q = 1 then (ckL (S.1 20) (S.1 21) (S.1 22) (S.1 27 0) 6).1 else if q = 2 then (ckL (S.1 20) (S.1 21) (S.1 22) (S.1 27 0) 6).2.2 else if q = 3 then (ckL (S.1 20) (S.1 21) (S.1 22) (S.1 27 0) 6).2.1 else if q = 4 then S.1 28 0 else if q = 5 then (bkL (S.1 20) (S.1 21) (S.1 22) (S.1 23) 0 0 0 40).toInt32 else -2
theorem mcn_out {S : St} {q : Int32} (h : q < 0 ∨ 5 < q) : mcnR S q = -2 := by
  unfold mcnR
  rw [if_neg, if_neg, if_neg, if_neg, if_neg, if_neg] <;> (intro z; subst z; revert h; decide)
def mdcV (S : St) : Nat → Int64
  | 0 => 151
  | i + 1 => 31 * mdcV S i + (mcnR S (nI i)).toInt64
def mdqV (S : St) (p : Nat) (v : Int64) : Nat → Int64
  | 0 => v
  | q + 1 => 31 * mdqV S p v q + (matR S (nI p) (nI q)).toInt64
def mdpV (S : St) (v : Int64) : Nat → Int64
  | 0 => v
  | p + 1 => if S.1 20 p = 0 then mdpV S v p else mdqV S p (31 * mdpV S v p + (nI p).toInt64) 5
theorem mdpV_s {S : St} {v : Int64} {p : Nat} : mdpV S v (p + 1) = if S.1 20 p = 0 then mdpV S v p else mdqV S p (31 * mdpV S v p + (nI p).toInt64) 5 := rfl
def mdfB (S : St) (a : Nat) (v : Int64) : Nat → Int64
  | 0 => v
  | b + 1 => 31 * mdfB S a v b + (S.1 26 (5 * a + b)).toInt64
def mdfA (S : St) (v : Int64) : Nat → Int64
  | 0 => v
  | a + 1 => mdfB S a (mdfA S v a) (5 - a)
def mdmV (S : St) (v : Int64) (q i j : Int32) : Int64 := 31 * (31 * (31 * v + mmV (S.1 20) (S.1 21) (S.1 22) (S.1 23) q i j 0 0 40) + mmV (S.1 20) (S.1 21) (S.1 22) (S.1 23) q i j 1 0 40) + mmV (S.1 20) (S.1 21) (S.1 22) (S.1 23) q i j 0 1 40
def mdkV (S : St) (l : Nat) (v : Int64) : Nat → Int64
  | 0 => v
  | k + 1 => if mbxI (S.1 20) (S.1 21) (S.1 22) (S.1 27 0) (nI l) (ckI l k) (ckJ l k) = 0 then mdkV S l v k else mdmV S (mdkV S l v k) (nI l) (ckI l k) (ckJ l k)
theorem mdkV_s {S : St} {l : Nat} {v : Int64} {k : Nat} : mdkV S l v (k + 1) = if mbxI (S.1 20) (S.1 21) (S.1 22) (S.1 27 0) (nI l) (ckI l k) (ckJ l k) = 0 then mdkV S l v k else mdmV S (mdkV S l v k) (nI l) (ckI l k) (ckJ l k) := rfl
def mdlV (S : St) (v : Int64) : Nat → Int64
  | 0 => v
  | l + 1 => mdkV S l (mdlV S v l) (4 ^ l)
def mdgR (S : St) : Int64 := mdlV S (31 * mdfA S (mdpV S (mdcV S 6) 40) 5 + (S.1 27 0).toInt64) 6
set_option maxRecDepth 100000 in
set_option maxHeartbeats 4000000 in
theorem mX7_farOf (l : Launch) (w : Fx) (S : St) (p : Nat) (x y : Int32) (hp : p < 40) : Ct l yX7_farOf cX7_farOf 4 (some .int) 0 w [.ref (aD w 23), .int (nI p), .int x, .int y] S (fun v S' => v = some (.int (faI (S.1 21) (S.1 22) p x y)) ∧ S' = S) := by
  refine Ct.of (by decide) (Nat.le_of_ble_eq_true rfl) (fun X h hr hl hw => ?_)
  subst hl hw
  have h : Ok X cX7_farOf RX7 0 := h
  show Wx X S 0 [.ref (aD (xw X) 23), .int (nI p), .int x, .int y] []
  refine r_aload_n 0 h dX7_farOf_0 rfl rfl ?_
  refine g23_1 h lf_X7_13 dX7_farOf_1 ?_
  refine r_iload_n 1 h dX7_farOf_4 rfl rfl ?_
  refine alN_25 h (by omega) dX7_farOf_5 ?_
  refine r_iload_n 2 h dX7_farOf_6 rfl rfl ?_
  show Wx _ _ 7 _ _
  refine r_isub h dX7_farOf_7 ?_
  refine r_aload_n 0 h dX7_farOf_8 rfl rfl ?_
  refine g23_1 h lf_X7_13 dX7_farOf_9 ?_
  refine r_iload_n 1 h dX7_farOf_12 rfl rfl ?_
  refine alN_25 h (by omega) dX7_farOf_13 ?_
  refine r_iload_n 2 h dX7_farOf_14 rfl rfl ?_
  show Wx _ _ 15 _ _
  refine r_isub h dX7_farOf_15 ?_
  refine r_imul h dX7_farOf_16 ?_
  refine r_aload_n 0 h dX7_farOf_17 rfl rfl ?_
  refine g23_2 h lf_X7_17 dX7_farOf_18 ?_
  refine r_iload_n 1 h dX7_farOf_21 rfl rfl ?_
  refine alN_26 h (by omega) dX7_farOf_22 ?_
  show Wx _ _ 23 _ _
  refine r_iload_n 3 h dX7_farOf_23 rfl rfl ?_
  refine r_isub h dX7_farOf_24 ?_
  refine r_aload_n 0 h dX7_farOf_25 rfl rfl ?_
  refine g23_2 h lf_X7_17 dX7_farOf_26 ?_
  refine r_iload_n 1 h dX7_farOf_29 rfl rfl ?_
  refine alN_26 h (by omega) dX7_farOf_30 ?_
  show Wx _ _ 31 _ _
  refine r_iload_n 3 h dX7_farOf_31 rfl rfl ?_
  refine r_isub h dX7_farOf_32 ?_
  refine r_imul h dX7_farOf_33 ?_
  refine r_iadd h dX7_farOf_34 ?_
  exact r_iret h hr dX7_farOf_35 ⟨rfl, rfl⟩
set_option maxRecDepth 100000 in
set_option maxHeartbeats 4000000 in
theorem mX7_nearest (l : Launch) (w : Fx) (S : St) (x y k : Int32) : Ct l yX7_nearest cX7_nearest 7 (some .int) 2 w [.ref (aD w 23), .int x, .int y, .int k] S (fun v S' => v = some (.int (mneR S x y k)) ∧ S' = S) := by
  refine Ct.of (by decide) (Nat.le_of_ble_eq_true rfl) (fun X h hr hl hw => ?_)
  subst hl hw
  have h : Ok X cX7_nearest RX7 2 := h
  show Wx X S 0 [.ref (aD (xw X) 23), .int x, .int y, .int k, .null, .null, .null] []
  have loop : ¬ mplI x y = 0 → 0 ≤ k → ∀ n p : Nat, p + n = 40 → mneV (S.1 20) (S.1 21) (S.1 22) x y k n p = mneV (S.1 20) (S.1 21) (S.1 22) x y k 40 0 → Wx X S 18 [.ref (aD (xw X) 23), .int x, .int y, .int k, .int (nI p), .null, .null] [] := by
    intro h1 h2 n
    induction n with
    | zero =>
      intro p hp he
      refine r_iload h dX7_nearest_18 rfl ?_
      refine r_bipush 40 h dX7_nearest_20 (by decide) ?_
      refine r_icmp_ge_t 134 h dX7_nearest_22 (by decide) (bigT (a := 40) (by omega) (by omega)) ?_
      refine r_iconst (-1) h dX7_nearest_134 (by decide) ?_
      exact r_iret h hr dX7_nearest_135 ⟨by rw [mneR, if_neg h1, if_pos h2, ← he]; rfl, rfl⟩
    | succ n ih =>
      intro p hp he
      rw [mneV_s (n := n) (p := p)] at he
      have inner : ¬ S.1 20 p = 0 → ∀ n q : Nat, q + n = 40 → Wx X S 41 [.ref (aD (xw X) 23), .int x, .int y, .int k, .int (nI p), .int (ahI (S.1 20) (S.1 21) (S.1 22) p x y q), .int (nI q)] [] := by
        intro hz n
        rw [if_neg hz] at he
        induction n with
        | zero =>
          intro q hq4
          have hq4 : q = 40 := by omega
          subst hq4
          refine r_iload h dX7_nearest_41 rfl ?_
          refine r_bipush 40 h dX7_nearest_43 (by decide) ?_
          refine r_icmp_ge_t 119 h dX7_nearest_45 (by decide) (bigT (a := 40) (by omega) (by omega)) ?_
          refine r_iload h dX7_nearest_119 rfl ?_
          refine r_iload_n 3 h dX7_nearest_121 rfl rfl ?_
          show Wx _ _ 122 _ _
          refine r_icmp_ne 128 h dX7_nearest_122 (by decide) (fun c122 => ?_) (fun c122 => ?_)
          · refine r_iincN h dX7_nearest_128 rfl ?_
            show Wx _ _ _ [_, _, _, _, _, _, _] _
            refine r_goto 18 h dX7_nearest_131 (by decide) ?_
            exact Wx.weak (lv' := [.ref (aD (xw X) 23), .int x, .int y, .int k, .int (nI (p + 1)), .null, .null]) (And.intro rfl (And.intro rfl (And.intro rfl (And.intro rfl (And.intro rfl trivial))))) (ih (p + 1) (by omega) (by rw [← he, if_neg c122]))
          · refine r_iload h dX7_nearest_125 rfl ?_
            exact r_iret h hr dX7_nearest_127 ⟨by rw [mneR, if_neg h1, if_pos h2, ← he, if_pos c122], rfl⟩
        | succ n ihq =>
          intro q hq4
          have hs := ihq (q + 1) (by omega)
          rw [ahI_s] at hs
          refine r_iload h dX7_nearest_41 rfl ?_
          refine r_bipush 40 h dX7_nearest_43 (by decide) ?_
          refine r_icmp_ge_f 119 h dX7_nearest_45 (by decide) (bigF (a := 40) (by omega) (by omega)) ?_
          refine r_iload h dX7_nearest_48 rfl ?_
          refine r_aload_n 0 h dX7_nearest_50 rfl rfl ?_
          show Wx _ _ 51 _ _
          refine g23_0 h lf_X7_7 dX7_nearest_51 ?_
          refine r_iload h dX7_nearest_54 rfl ?_
          refine alN_24 h (by omega) dX7_nearest_56 ?_
          refine r_if_eq 109 h dX7_nearest_57 (by decide) (fun c57 => ?_) (fun c57 => ?_)
          · refine r_iconst 0 h dX7_nearest_109 (by decide) ?_
            refine r_iadd h dX7_nearest_110 ?_
            refine r_istore h dX7_nearest_111 (Nat.le_of_ble_eq_true rfl) ?_
            show Wx _ _ _ [_, _, _, _, _, _, _] _
            refine r_iincN h dX7_nearest_113 rfl ?_
            show Wx _ _ _ [_, _, _, _, _, _, _] _
            refine r_goto 41 h dX7_nearest_116 (by decide) ?_
            first | (rw [if_pos c57] at hs; exact hs) | (rw [if_neg c57, if_pos c76] at hs; exact hs) | (rw [if_neg c57, if_neg c76, if_neg c95] at hs; exact hs) | (rw [if_neg c57, if_neg c76, if_pos c95, if_pos c102] at hs; exact hs) | (rw [if_neg c57, if_neg c76, if_pos c95, if_neg c102] at hs; exact hs)
          · refine r_aload_n 0 h dX7_nearest_60 rfl rfl ?_
            refine r_iload h dX7_nearest_61 rfl ?_
            refine r_iload_n 1 h dX7_nearest_63 rfl rfl ?_
            refine r_iload_n 2 h dX7_nearest_64 rfl rfl ?_
            refine cV3 h (mX7_farOf _ _ _ q x y (by omega)) kX7_farOf lm_X7_177 (by decide) 23 (pl_23 _ _) rfl (Nat.le_of_ble_eq_true rfl) dX7_nearest_65 ?_
            show Wx _ _ 68 _ _
            refine r_aload_n 0 h dX7_nearest_68 rfl rfl ?_
            refine r_iload h dX7_nearest_69 rfl ?_
            refine r_iload_n 1 h dX7_nearest_71 rfl rfl ?_
            refine r_iload_n 2 h dX7_nearest_72 rfl rfl ?_
            refine cV3 h (mX7_farOf _ _ _ p x y (by omega)) kX7_farOf lm_X7_177 (by decide) 23 (pl_23 _ _) rfl (Nat.le_of_ble_eq_true rfl) dX7_nearest_73 ?_
            refine r_icmp_lt 105 h dX7_nearest_76 (by decide) (fun c76 => ?_) (fun c76 => ?_)
            · refine r_iconst 1 h dX7_nearest_105 (by decide) ?_
              refine r_goto 110 h dX7_nearest_106 (by decide) ?_
              refine r_iadd h dX7_nearest_110 ?_
              refine r_istore h dX7_nearest_111 (Nat.le_of_ble_eq_true rfl) ?_
              show Wx _ _ _ [_, _, _, _, _, _, _] _
              refine r_iincN h dX7_nearest_113 rfl ?_
              show Wx _ _ _ [_, _, _, _, _, _, _] _
              show Wx _ _ 116 _ _
              refine r_goto 41 h dX7_nearest_116 (by decide) ?_
              first | (rw [if_pos c57] at hs; exact hs) | (rw [if_neg c57, if_pos c76] at hs; exact hs) | (rw [if_neg c57, if_neg c76, if_neg c95] at hs; exact hs) | (rw [if_neg c57, if_neg c76, if_pos c95, if_pos c102] at hs; exact hs) | (rw [if_neg c57, if_neg c76, if_pos c95, if_neg c102] at hs; exact hs)
            · refine r_aload_n 0 h dX7_nearest_79 rfl rfl ?_
              refine r_iload h dX7_nearest_80 rfl ?_
              refine r_iload_n 1 h dX7_nearest_82 rfl rfl ?_
              refine r_iload_n 2 h dX7_nearest_83 rfl rfl ?_
              refine cV3 h (mX7_farOf _ _ _ q x y (by omega)) kX7_farOf lm_X7_177 (by decide) 23 (pl_23 _ _) rfl (Nat.le_of_ble_eq_true rfl) dX7_nearest_84 ?_
              show Wx _ _ 87 _ _
              refine r_aload_n 0 h dX7_nearest_87 rfl rfl ?_
              refine r_iload h dX7_nearest_88 rfl ?_
              refine r_iload_n 1 h dX7_nearest_90 rfl rfl ?_
              refine r_iload_n 2 h dX7_nearest_91 rfl rfl ?_
              refine cV3 h (mX7_farOf _ _ _ p x y (by omega)) kX7_farOf lm_X7_177 (by decide) 23 (pl_23 _ _) rfl (Nat.le_of_ble_eq_true rfl) dX7_nearest_92 ?_
              refine r_icmp_ne 109 h dX7_nearest_95 (by decide) (fun c95 => ?_) (fun c95 => ?_)
              · refine r_iconst 0 h dX7_nearest_109 (by decide) ?_
                refine r_iadd h dX7_nearest_110 ?_
                refine r_istore h dX7_nearest_111 (Nat.le_of_ble_eq_true rfl) ?_
                show Wx _ _ _ [_, _, _, _, _, _, _] _
                refine r_iincN h dX7_nearest_113 rfl ?_
                show Wx _ _ _ [_, _, _, _, _, _, _] _
                refine r_goto 41 h dX7_nearest_116 (by decide) ?_
                first | (rw [if_pos c57] at hs; exact hs) | (rw [if_neg c57, if_pos c76] at hs; exact hs) | (rw [if_neg c57, if_neg c76, if_neg c95] at hs; exact hs) | (rw [if_neg c57, if_neg c76, if_pos c95, if_pos c102] at hs; exact hs) | (rw [if_neg c57, if_neg c76, if_pos c95, if_neg c102] at hs; exact hs)
              · refine r_iload h dX7_nearest_98 rfl ?_
                refine r_iload h dX7_nearest_100 rfl ?_
                refine r_icmp_ge 109 h dX7_nearest_102 (by decide) (fun c102 => ?_) (fun c102 => ?_)
                · refine r_iconst 0 h dX7_nearest_109 (by decide) ?_
                  refine r_iadd h dX7_nearest_110 ?_
                  refine r_istore h dX7_nearest_111 (Nat.le_of_ble_eq_true rfl) ?_
                  show Wx _ _ _ [_, _, _, _, _, _, _] _
                  refine r_iincN h dX7_nearest_113 rfl ?_
                  show Wx _ _ _ [_, _, _, _, _, _, _] _
                  refine r_goto 41 h dX7_nearest_116 (by decide) ?_
                  first | (rw [if_pos c57] at hs; exact hs) | (rw [if_neg c57, if_pos c76] at hs; exact hs) | (rw [if_neg c57, if_neg c76, if_neg c95] at hs; exact hs) | (rw [if_neg c57, if_neg c76, if_pos c95, if_pos c102] at hs; exact hs) | (rw [if_neg c57, if_neg c76, if_pos c95, if_neg c102] at hs; exact hs)
                · refine r_iconst 1 h dX7_nearest_105 (by decide) ?_
                  refine r_goto 110 h dX7_nearest_106 (by decide) ?_
                  refine r_iadd h dX7_nearest_110 ?_
                  refine r_istore h dX7_nearest_111 (Nat.le_of_ble_eq_true rfl) ?_
                  show Wx _ _ _ [_, _, _, _, _, _, _] _
                  refine r_iincN h dX7_nearest_113 rfl ?_
                  show Wx _ _ _ [_, _, _, _, _, _, _] _
                  show Wx _ _ 116 _ _
                  refine r_goto 41 h dX7_nearest_116 (by decide) ?_
                  first | (rw [if_pos c57] at hs; exact hs) | (rw [if_neg c57, if_pos c76] at hs; exact hs) | (rw [if_neg c57, if_neg c76, if_neg c95] at hs; exact hs) | (rw [if_neg c57, if_neg c76, if_pos c95, if_pos c102] at hs; exact hs) | (rw [if_neg c57, if_neg c76, if_pos c95, if_neg c102] at hs; exact hs)
      refine r_iload h dX7_nearest_18 rfl ?_
      refine r_bipush 40 h dX7_nearest_20 (by decide) ?_
      refine r_icmp_ge_f 134 h dX7_nearest_22 (by decide) (bigF (a := 40) (by omega) (by omega)) ?_
      refine r_aload_n 0 h dX7_nearest_25 rfl rfl ?_
      refine g23_0 h lf_X7_7 dX7_nearest_26 ?_
      show Wx _ _ 29 _ _
      refine r_iload h dX7_nearest_29 rfl ?_
      refine alN_24 h (by omega) dX7_nearest_31 ?_
      refine r_if_eq 128 h dX7_nearest_32 (by decide) (fun c32 => ?_) (fun c32 => ?_)
      · refine r_iincN h dX7_nearest_128 rfl ?_
        show Wx _ _ _ [_, _, _, _, _, _, _] _
        refine r_goto 18 h dX7_nearest_131 (by decide) ?_
        exact ih (p + 1) (by omega) (by rw [← he, if_pos c32])
      · refine r_iconst 0 h dX7_nearest_35 (by decide) ?_
        refine r_istore h dX7_nearest_36 (Nat.le_of_ble_eq_true rfl) ?_
        show Wx _ _ _ [_, _, _, _, _, _, _] _
        refine r_iconst 0 h dX7_nearest_38 (by decide) ?_
        refine r_istore h dX7_nearest_39 (Nat.le_of_ble_eq_true rfl) ?_
        show Wx _ _ _ [_, _, _, _, _, _, _] _
        exact inner c32 40 0 rfl
  refine r_iload_n 1 h dX7_nearest_0 rfl rfl ?_
  refine r_iload_n 2 h dX7_nearest_1 rfl rfl ?_
  refine cS2 h (mX7_isPlace _ _ _ x y) kX7_isPlace lm_X7_68 (by decide) (Nat.le_of_ble_eq_true rfl) dX7_nearest_2 ?_
  refine r_if_eq 12 h dX7_nearest_5 (by decide) (fun c5 => ?_) (fun c5 => ?_)
  · refine r_bipush (-2) h dX7_nearest_12 (by decide) ?_
    exact r_iret h hr dX7_nearest_14 ⟨by simp only [mneR, c5, ite_true, ite_false, if_true, if_false, not_true, not_false_iff], rfl⟩
  · refine r_iload_n 3 h dX7_nearest_8 rfl rfl ?_
    refine r_if_ge 15 h dX7_nearest_9 (by decide) (fun c9 => ?_) (fun c9 => ?_)
    · refine r_iconst 0 h dX7_nearest_15 (by decide) ?_
      refine r_istore h dX7_nearest_16 (Nat.le_of_ble_eq_true rfl) ?_
      show Wx _ _ _ [_, _, _, _, _, _, _] _
      exact loop c5 c9 40 0 rfl rfl
    · refine r_bipush (-2) h dX7_nearest_12 (by decide) ?_
      exact r_iret h hr dX7_nearest_14 ⟨by simp only [mneR, c5, c9, ite_true, ite_false, if_true, if_false, not_true, not_false_iff], rfl⟩
set_option maxRecDepth 100000 in
set_option maxHeartbeats 4000000 in
theorem mX7_push (l : Launch) (w : Fx) (S : St) (a b : Int64) : Ct l yX7_push cX7_push 4 (some .int) 0 w [.long a, .long b] S (fun v S' => v = some (.int (psL a b)) ∧ S' = S) := by
  refine Ct.of (by decide) (Nat.le_of_ble_eq_true rfl) (fun X h hr hl hw => ?_)
  subst hl hw
  have h : Ok X cX7_push RX7 0 := h
  show Wx X S 0 [.long a, .null, .long b, .null] []
  refine r_lload_n 0 h dX7_push_0 rfl rfl ?_
  refine r_lload_n 2 h dX7_push_1 rfl rfl ?_
  refine r_lsub h dX7_push_2 ?_
  refine r_bipush 12 h dX7_push_3 (by decide) ?_
  refine r_lshr h dX7_push_5 ?_
  show Wx _ _ 6 _ _
  refine r_ldc2 h lc_X7_180 dX7_push_6 ?_
  refine r_ladd h dX7_push_9 ?_
  refine r_ldc2 h lc_X7_60 dX7_push_10 ?_
  refine r_land h dX7_push_13 ?_
  refine r_l2i h dX7_push_14 ?_
  refine r_bipush 32 h dX7_push_15 (by decide) ?_
  show Wx _ _ 17 _ _
  refine r_isub h dX7_push_17 ?_
  exact r_iret h hr dX7_push_18 ⟨rfl, rfl⟩
set_option maxRecDepth 100000 in
set_option maxHeartbeats 4000000 in
theorem mX7_brought (l : Launch) (w : Fx) (S : St) (q : Int32) : Ct l yX7_brought cX7_brought 1 (some .int) 0 w [.int q] S (fun v S' => v = some (.int (brI q)) ∧ S' = S) := by
  refine Ct.of (by decide) (Nat.le_of_ble_eq_true rfl) (fun X h hr hl hw => ?_)
  subst hl hw
  have h : Ok X cX7_brought RX7 0 := h
  show Wx X S 0 [.int q] []
  refine r_iload_n 0 h dX7_brought_0 rfl rfl ?_
  refine r_bipush 32 h dX7_brought_1 (by decide) ?_
  refine r_iadd h dX7_brought_3 ?_
  refine r_bipush 63 h dX7_brought_4 (by decide) ?_
  refine r_iand h dX7_brought_6 ?_
  show Wx _ _ 7 _ _
  refine r_bipush 32 h dX7_brought_7 (by decide) ?_
  refine r_isub h dX7_brought_9 ?_
  exact r_iret h hr dX7_brought_10 ⟨rfl, rfl⟩
set_option maxRecDepth 100000 in
set_option maxHeartbeats 4000000 in
theorem mX7_findPushes (l : Launch) (w : Fx) (S : St) : Ct l yX7_findPushes cX7_findPushes 2 none 3 w [.ref (aD w 23)] S (fun v S' => v = none ∧ S' = mfT S 40) := by
  refine Ct.of (by decide) (Nat.le_of_ble_eq_true rfl) (fun X h hr hl hw => ?_)
  subst hl hw
  have h : Ok X cX7_findPushes RX7 3 := h
  show Wx X S 0 [.ref (aD (xw X) 23), .null] []
  have loop : ∀ n p : Nat, p + n = 40 → Wx X (mfT S p) 2 [.ref (aD (xw X) 23), .int (nI p)] [] := by
    intro n
    induction n with
    | zero =>
      intro p hi
      have hi : p = 40 := by omega
      subst hi
      refine r_iload_n 1 h dX7_findPushes_2 rfl rfl ?_
      refine r_bipush 40 h dX7_findPushes_3 (by decide) ?_
      refine r_icmp_ge_t 113 h dX7_findPushes_5 (by decide) (bigT (a := 40) (by omega) (by omega)) ?_
      exact r_vret h hr dX7_findPushes_113 ⟨rfl, rfl⟩
    | succ n ih =>
      intro p hi
      have hq := ih (p + 1) (by omega)
      rw [mfT_s] at hq
      refine r_iload_n 1 h dX7_findPushes_2 rfl rfl ?_
      refine r_bipush 40 h dX7_findPushes_3 (by decide) ?_
      refine r_icmp_ge_f 113 h dX7_findPushes_5 (by decide) (bigF (a := 40) (by omega) (by omega)) ?_
      refine r_aload_n 0 h dX7_findPushes_8 rfl rfl ?_
      refine g23_0 h lf_X7_7 dX7_findPushes_9 ?_
      show Wx _ _ 12 _ _
      refine r_iload_n 1 h dX7_findPushes_12 rfl rfl ?_
      refine alN_24 h (by omega) dX7_findPushes_13 ?_
      refine r_if_eq 107 h dX7_findPushes_14 (by decide) (fun c14 => ?_) (fun c14 => ?_)
      · refine r_iincN h dX7_findPushes_107 rfl ?_
        show Wx _ _ _ [_, _] _
        refine r_goto 2 h dX7_findPushes_110 (by decide) ?_
        first | (rw [if_pos c14] at hq; exact hq) | (rw [if_neg c14] at hq; exact hq)
      · refine r_aload_n 0 h dX7_findPushes_17 rfl rfl ?_
        refine g23_18 h lf_X7_54 dX7_findPushes_18 ?_
        refine r_iload_n 1 h dX7_findPushes_21 rfl rfl ?_
        refine r_aload_n 0 h dX7_findPushes_22 rfl rfl ?_
        refine r_aload_n 0 h dX7_findPushes_23 rfl rfl ?_
        show Wx _ _ 24 _ _
        refine g23_1 h lf_X7_13 dX7_findPushes_24 ?_
        refine r_iload_n 1 h dX7_findPushes_27 rfl rfl ?_
        refine alN_25 h (by omega) dX7_findPushes_28 ?_
        refine r_iconst 1 h dX7_findPushes_29 (by decide) ?_
        refine r_iadd h dX7_findPushes_30 ?_
        refine r_aload_n 0 h dX7_findPushes_31 rfl rfl ?_
        show Wx _ _ 32 _ _
        refine g23_2 h lf_X7_17 dX7_findPushes_32 ?_
        refine r_iload_n 1 h dX7_findPushes_35 rfl rfl ?_
        refine alN_26 h (by omega) dX7_findPushes_36 ?_
        refine cV2 h (mX7_sumAt _ _ _ _ _) kX7_sumAt lm_X7_107 (by decide) 23 (pl_23 _ _) rfl (Nat.le_of_ble_eq_true rfl) dX7_findPushes_37 ?_
        refine r_aload_n 0 h dX7_findPushes_40 rfl rfl ?_
        refine r_aload_n 0 h dX7_findPushes_41 rfl rfl ?_
        show Wx _ _ 42 _ _
        refine g23_1 h lf_X7_13 dX7_findPushes_42 ?_
        refine r_iload_n 1 h dX7_findPushes_45 rfl rfl ?_
        refine alN_25 h (by omega) dX7_findPushes_46 ?_
        refine r_iconst 1 h dX7_findPushes_47 (by decide) ?_
        refine r_isub h dX7_findPushes_48 ?_
        refine r_aload_n 0 h dX7_findPushes_49 rfl rfl ?_
        show Wx _ _ 50 _ _
        refine g23_2 h lf_X7_17 dX7_findPushes_50 ?_
        refine r_iload_n 1 h dX7_findPushes_53 rfl rfl ?_
        refine alN_26 h (by omega) dX7_findPushes_54 ?_
        refine cV2 h (mX7_sumAt _ _ _ _ _) kX7_sumAt lm_X7_107 (by decide) 23 (pl_23 _ _) rfl (Nat.le_of_ble_eq_true rfl) dX7_findPushes_55 ?_
        refine cS2 h (mX7_push _ _ _ _ _) kX7_push lm_X7_182 (by decide) (Nat.le_of_ble_eq_true rfl) dX7_findPushes_58 ?_
        refine asN_37 h (by omega) dX7_findPushes_61 ?_
        show Wx _ _ 62 _ _
        show Wx _ (mfX (mfT S p) p) _ _ _
        refine r_aload_n 0 h dX7_findPushes_62 rfl rfl ?_
        refine g23_19 h lf_X7_57 dX7_findPushes_63 ?_
        refine r_iload_n 1 h dX7_findPushes_66 rfl rfl ?_
        refine r_aload_n 0 h dX7_findPushes_67 rfl rfl ?_
        refine r_aload_n 0 h dX7_findPushes_68 rfl rfl ?_
        refine g23_1 h lf_X7_13 dX7_findPushes_69 ?_
        show Wx _ _ 72 _ _
        refine r_iload_n 1 h dX7_findPushes_72 rfl rfl ?_
        refine alN_25 h (by omega) dX7_findPushes_73 ?_
        refine r_aload_n 0 h dX7_findPushes_74 rfl rfl ?_
        refine g23_2 h lf_X7_17 dX7_findPushes_75 ?_
        refine r_iload_n 1 h dX7_findPushes_78 rfl rfl ?_
        refine alN_26 h (by omega) dX7_findPushes_79 ?_
        show Wx _ _ 80 _ _
        refine r_iconst 1 h dX7_findPushes_80 (by decide) ?_
        refine r_iadd h dX7_findPushes_81 ?_
        refine cV2 h (mX7_sumAt _ _ _ _ _) kX7_sumAt lm_X7_107 (by decide) 23 (pl_23 _ _) rfl (Nat.le_of_ble_eq_true rfl) dX7_findPushes_82 ?_
        refine r_aload_n 0 h dX7_findPushes_85 rfl rfl ?_
        refine r_aload_n 0 h dX7_findPushes_86 rfl rfl ?_
        refine g23_1 h lf_X7_13 dX7_findPushes_87 ?_
        show Wx _ _ 90 _ _
        refine r_iload_n 1 h dX7_findPushes_90 rfl rfl ?_
        refine alN_25 h (by omega) dX7_findPushes_91 ?_
        refine r_aload_n 0 h dX7_findPushes_92 rfl rfl ?_
        refine g23_2 h lf_X7_17 dX7_findPushes_93 ?_
        refine r_iload_n 1 h dX7_findPushes_96 rfl rfl ?_
        refine alN_26 h (by omega) dX7_findPushes_97 ?_
        show Wx _ _ 98 _ _
        refine r_iconst 1 h dX7_findPushes_98 (by decide) ?_
        refine r_isub h dX7_findPushes_99 ?_
        refine cV2 h (mX7_sumAt _ _ _ _ _) kX7_sumAt lm_X7_107 (by decide) 23 (pl_23 _ _) rfl (Nat.le_of_ble_eq_true rfl) dX7_findPushes_100 ?_
        refine cS2 h (mX7_push _ _ _ _ _) kX7_push lm_X7_182 (by decide) (Nat.le_of_ble_eq_true rfl) dX7_findPushes_103 ?_
        refine asN_38 h (by omega) dX7_findPushes_106 ?_
        refine r_iincN h dX7_findPushes_107 rfl ?_
        show Wx _ _ _ [_, _] _
        show Wx _ _ 110 _ _
        refine r_goto 2 h dX7_findPushes_110 (by decide) ?_
        first | (rw [if_pos c14] at hq; exact hq) | (rw [if_neg c14] at hq; exact hq)
  refine r_iconst 0 h dX7_findPushes_0 (by decide) ?_
  refine r_istore_n 1 h dX7_findPushes_1 rfl (Nat.le_of_ble_eq_true rfl) ?_
  show Wx _ _ _ [_, _] _
  exact loop 40 0 rfl
set_option maxRecDepth 100000 in
set_option maxHeartbeats 4000000 in
theorem mX7_goOn (l : Launch) (w : Fx) (S : St) : Ct l yX7_goOn cX7_goOn 2 none 4 w [.ref (aD w 23)] S (fun v S' => v = none ∧ S' = gonS S) := by
  refine Ct.of (by decide) (Nat.le_of_ble_eq_true rfl) (fun X h hr hl hw => ?_)
  subst hl hw
  have h : Ok X cX7_goOn RX7 4 := h
  show Wx X S 0 [.ref (aD (xw X) 23), .null] []
  have loop : ∀ n p : Nat, p + n = 40 → Wx X (goT (mfT S 40) p) 6 [.ref (aD (xw X) 23), .int (nI p)] [] := by
    intro n
    induction n with
    | zero =>
      intro p hi
      have hi : p = 40 := by omega
      subst hi
      refine r_iload_n 1 h dX7_goOn_6 rfl rfl ?_
      refine r_bipush 40 h dX7_goOn_7 (by decide) ?_
      refine r_icmp_ge_t 115 h dX7_goOn_9 (by decide) (bigT (a := 40) (by omega) (by omega)) ?_
      exact r_vret h hr dX7_goOn_115 ⟨rfl, rfl⟩
    | succ n ih =>
      intro p hi
      have hq := ih (p + 1) (by omega)
      rw [goT_s] at hq
      generalize goT (mfT S 40) p = T at hq ⊢
      refine r_iload_n 1 h dX7_goOn_6 rfl rfl ?_
      refine r_bipush 40 h dX7_goOn_7 (by decide) ?_
      refine r_icmp_ge_f 115 h dX7_goOn_9 (by decide) (bigF (a := 40) (by omega) (by omega)) ?_
      refine r_aload_n 0 h dX7_goOn_12 rfl rfl ?_
      refine g23_0 h lf_X7_7 dX7_goOn_13 ?_
      show Wx _ _ 16 _ _
      refine r_iload_n 1 h dX7_goOn_16 rfl rfl ?_
      refine alN_24 h (by omega) dX7_goOn_17 ?_
      refine r_if_eq 109 h dX7_goOn_18 (by decide) (fun c18 => ?_) (fun c18 => ?_)
      · refine r_iincN h dX7_goOn_109 rfl ?_
        show Wx _ _ _ [_, _] _
        refine r_goto 6 h dX7_goOn_112 (by decide) ?_
        first | (rw [if_pos c18] at hq; exact hq) | (rw [if_neg c18] at hq; exact hq)
      · refine r_aload_n 0 h dX7_goOn_21 rfl rfl ?_
        refine g23_4 h lf_X7_23 dX7_goOn_22 ?_
        refine r_iload_n 1 h dX7_goOn_25 rfl rfl ?_
        refine r_aload_n 0 h dX7_goOn_26 rfl rfl ?_
        refine g23_4 h lf_X7_23 dX7_goOn_27 ?_
        show Wx _ _ 30 _ _
        refine r_iload_n 1 h dX7_goOn_30 rfl rfl ?_
        refine alN_28 h (by omega) dX7_goOn_31 ?_
        refine r_aload_n 0 h dX7_goOn_32 rfl rfl ?_
        refine g23_18 h lf_X7_54 dX7_goOn_33 ?_
        refine r_iload_n 1 h dX7_goOn_36 rfl rfl ?_
        refine alN_37 h (by omega) dX7_goOn_37 ?_
        show Wx _ _ 38 _ _
        refine r_iadd h dX7_goOn_38 ?_
        refine cS1 h (mX7_brought _ _ _ _) kX7_brought lm_X7_189 (by decide) (Nat.le_of_ble_eq_true rfl) dX7_goOn_39 ?_
        refine asN_28 h (by omega) dX7_goOn_42 ?_
        show Wx _ (goA T p) _ _ _
        refine r_aload_n 0 h dX7_goOn_43 rfl rfl ?_
        refine g23_5 h lf_X7_26 dX7_goOn_44 ?_
        refine r_iload_n 1 h dX7_goOn_47 rfl rfl ?_
        show Wx _ _ 48 _ _
        refine r_aload_n 0 h dX7_goOn_48 rfl rfl ?_
        refine g23_5 h lf_X7_26 dX7_goOn_49 ?_
        refine r_iload_n 1 h dX7_goOn_52 rfl rfl ?_
        refine alN_29 h (by omega) dX7_goOn_53 ?_
        refine r_aload_n 0 h dX7_goOn_54 rfl rfl ?_
        refine g23_19 h lf_X7_57 dX7_goOn_55 ?_
        show Wx _ _ 58 _ _
        refine r_iload_n 1 h dX7_goOn_58 rfl rfl ?_
        refine alN_38 h (by omega) dX7_goOn_59 ?_
        refine r_iadd h dX7_goOn_60 ?_
        refine cS1 h (mX7_brought _ _ _ _) kX7_brought lm_X7_189 (by decide) (Nat.le_of_ble_eq_true rfl) dX7_goOn_61 ?_
        refine asN_29 h (by omega) dX7_goOn_64 ?_
        show Wx _ (goB T p) _ _ _
        refine r_aload_n 0 h dX7_goOn_65 rfl rfl ?_
        show Wx _ _ 66 _ _
        refine g23_1 h lf_X7_13 dX7_goOn_66 ?_
        refine r_iload_n 1 h dX7_goOn_69 rfl rfl ?_
        refine r_aload_n 0 h dX7_goOn_70 rfl rfl ?_
        refine g23_1 h lf_X7_13 dX7_goOn_71 ?_
        refine r_iload_n 1 h dX7_goOn_74 rfl rfl ?_
        refine alN_25 h (by omega) dX7_goOn_75 ?_
        show Wx _ _ 76 _ _
        refine r_aload_n 0 h dX7_goOn_76 rfl rfl ?_
        refine g23_4 h lf_X7_23 dX7_goOn_77 ?_
        refine r_iload_n 1 h dX7_goOn_80 rfl rfl ?_
        refine alN_28 h (by omega) dX7_goOn_81 ?_
        refine r_iadd h dX7_goOn_82 ?_
        refine r_bipush 63 h dX7_goOn_83 (by decide) ?_
        show Wx _ _ 85 _ _
        refine r_iand h dX7_goOn_85 ?_
        refine asN_25 h (by omega) dX7_goOn_86 ?_
        show Wx _ (goC T p) _ _ _
        refine r_aload_n 0 h dX7_goOn_87 rfl rfl ?_
        refine g23_2 h lf_X7_17 dX7_goOn_88 ?_
        refine r_iload_n 1 h dX7_goOn_91 rfl rfl ?_
        refine r_aload_n 0 h dX7_goOn_92 rfl rfl ?_
        show Wx _ _ 93 _ _
        refine g23_2 h lf_X7_17 dX7_goOn_93 ?_
        refine r_iload_n 1 h dX7_goOn_96 rfl rfl ?_
        refine alN_26 h (by omega) dX7_goOn_97 ?_
        refine r_aload_n 0 h dX7_goOn_98 rfl rfl ?_
        refine g23_5 h lf_X7_26 dX7_goOn_99 ?_
        refine r_iload_n 1 h dX7_goOn_102 rfl rfl ?_
        show Wx _ _ 103 _ _
        refine alN_29 h (by omega) dX7_goOn_103 ?_
        refine r_iadd h dX7_goOn_104 ?_
        refine r_bipush 63 h dX7_goOn_105 (by decide) ?_
        refine r_iand h dX7_goOn_107 ?_
        refine asN_26 h (by omega) dX7_goOn_108 ?_
        refine r_iincN h dX7_goOn_109 rfl ?_
        show Wx _ _ _ [_, _] _
        show Wx _ _ 112 _ _
        refine r_goto 6 h dX7_goOn_112 (by decide) ?_
        first | (rw [if_pos c18] at hq; exact hq) | (rw [if_neg c18] at hq; exact hq)
  refine r_aload_n 0 h dX7_goOn_0 rfl rfl ?_
  refine cV0v h (mX7_findPushes _ _ _) kX7_findPushes lm_X7_186 (by decide) 23 (pl_23 _ _) rfl (Nat.le_of_ble_eq_true rfl) dX7_goOn_1 ?_
  refine r_iconst 0 h dX7_goOn_4 (by decide) ?_
  refine r_istore_n 1 h dX7_goOn_5 rfl (Nat.le_of_ble_eq_true rfl) ?_
  show Wx _ _ _ [_, _] _
  exact loop 40 0 rfl
set_option maxRecDepth 100000 in
set_option maxHeartbeats 4000000 in
theorem mX7_goBack (l : Launch) (w : Fx) (S : St) : Ct l yX7_goBack cX7_goBack 2 none 4 w [.ref (aD w 23)] S (fun v S' => v = none ∧ S' = gbkS S) := by
  refine Ct.of (by decide) (Nat.le_of_ble_eq_true rfl) (fun X h hr hl hw => ?_)
  subst hl hw
  have h : Ok X cX7_goBack RX7 4 := h
  show Wx X S 0 [.ref (aD (xw X) 23), .null] []
  have loop2 : ∀ n p : Nat, p + n = 40 → Wx X (gcT (mfT (gbT S 40) 40) p) 73 [.ref (aD (xw X) 23), .int (nI p)] [] := by
    intro n
    induction n with
    | zero =>
      intro p hi
      have hi : p = 40 := by omega
      subst hi
      refine r_iload_n 1 h dX7_goBack_73 rfl rfl ?_
      refine r_bipush 40 h dX7_goBack_74 (by decide) ?_
      refine r_icmp_ge_t 138 h dX7_goBack_76 (by decide) (bigT (a := 40) (by omega) (by omega)) ?_
      exact r_vret h hr dX7_goBack_138 ⟨rfl, rfl⟩
    | succ n ih =>
      intro p hi
      have hq := ih (p + 1) (by omega)
      rw [gcT_s] at hq
      generalize gcT (mfT (gbT S 40) 40) p = T at hq ⊢
      refine r_iload_n 1 h dX7_goBack_73 rfl rfl ?_
      refine r_bipush 40 h dX7_goBack_74 (by decide) ?_
      refine r_icmp_ge_f 138 h dX7_goBack_76 (by decide) (bigF (a := 40) (by omega) (by omega)) ?_
      refine r_aload_n 0 h dX7_goBack_79 rfl rfl ?_
      refine g23_0 h lf_X7_7 dX7_goBack_80 ?_
      show Wx _ _ 83 _ _
      refine r_iload_n 1 h dX7_goBack_83 rfl rfl ?_
      refine alN_24 h (by omega) dX7_goBack_84 ?_
      refine r_if_eq 132 h dX7_goBack_85 (by decide) (fun c85 => ?_) (fun c85 => ?_)
      · refine r_iincN h dX7_goBack_132 rfl ?_
        show Wx _ _ _ [_, _] _
        refine r_goto 73 h dX7_goBack_135 (by decide) ?_
        first | (rw [if_pos c85] at hq; exact hq) | (rw [if_neg c85] at hq; exact hq)
      · refine r_aload_n 0 h dX7_goBack_88 rfl rfl ?_
        refine g23_4 h lf_X7_23 dX7_goBack_89 ?_
        refine r_iload_n 1 h dX7_goBack_92 rfl rfl ?_
        refine r_aload_n 0 h dX7_goBack_93 rfl rfl ?_
        refine g23_4 h lf_X7_23 dX7_goBack_94 ?_
        show Wx _ _ 97 _ _
        refine r_iload_n 1 h dX7_goBack_97 rfl rfl ?_
        refine alN_28 h (by omega) dX7_goBack_98 ?_
        refine r_aload_n 0 h dX7_goBack_99 rfl rfl ?_
        refine g23_18 h lf_X7_54 dX7_goBack_100 ?_
        refine r_iload_n 1 h dX7_goBack_103 rfl rfl ?_
        refine alN_37 h (by omega) dX7_goBack_104 ?_
        show Wx _ _ 105 _ _
        refine r_isub h dX7_goBack_105 ?_
        refine cS1 h (mX7_brought _ _ _ _) kX7_brought lm_X7_189 (by decide) (Nat.le_of_ble_eq_true rfl) dX7_goBack_106 ?_
        refine asN_28 h (by omega) dX7_goBack_109 ?_
        show Wx _ (gcA T p) _ _ _
        refine r_aload_n 0 h dX7_goBack_110 rfl rfl ?_
        refine g23_5 h lf_X7_26 dX7_goBack_111 ?_
        refine r_iload_n 1 h dX7_goBack_114 rfl rfl ?_
        show Wx _ _ 115 _ _
        refine r_aload_n 0 h dX7_goBack_115 rfl rfl ?_
        refine g23_5 h lf_X7_26 dX7_goBack_116 ?_
        refine r_iload_n 1 h dX7_goBack_119 rfl rfl ?_
        refine alN_29 h (by omega) dX7_goBack_120 ?_
        refine r_aload_n 0 h dX7_goBack_121 rfl rfl ?_
        refine g23_19 h lf_X7_57 dX7_goBack_122 ?_
        show Wx _ _ 125 _ _
        refine r_iload_n 1 h dX7_goBack_125 rfl rfl ?_
        refine alN_38 h (by omega) dX7_goBack_126 ?_
        refine r_isub h dX7_goBack_127 ?_
        refine cS1 h (mX7_brought _ _ _ _) kX7_brought lm_X7_189 (by decide) (Nat.le_of_ble_eq_true rfl) dX7_goBack_128 ?_
        refine asN_29 h (by omega) dX7_goBack_131 ?_
        refine r_iincN h dX7_goBack_132 rfl ?_
        show Wx _ _ _ [_, _] _
        show Wx _ _ 135 _ _
        refine r_goto 73 h dX7_goBack_135 (by decide) ?_
        first | (rw [if_pos c85] at hq; exact hq) | (rw [if_neg c85] at hq; exact hq)
  have loop1 : ∀ n p : Nat, p + n = 40 → Wx X (gbT S p) 2 [.ref (aD (xw X) 23), .int (nI p)] [] := by
    intro n
    induction n with
    | zero =>
      intro p hi
      have hi : p = 40 := by omega
      subst hi
      refine r_iload_n 1 h dX7_goBack_2 rfl rfl ?_
      refine r_bipush 40 h dX7_goBack_3 (by decide) ?_
      refine r_icmp_ge_t 67 h dX7_goBack_5 (by decide) (bigT (a := 40) (by omega) (by omega)) ?_
      refine r_aload_n 0 h dX7_goBack_67 rfl rfl ?_
      refine cV0v h (mX7_findPushes _ _ _) kX7_findPushes lm_X7_186 (by decide) 23 (pl_23 _ _) rfl (Nat.le_of_ble_eq_true rfl) dX7_goBack_68 ?_
      show Wx _ _ 71 _ _
      refine r_iconst 0 h dX7_goBack_71 (by decide) ?_
      refine r_istore_n 1 h dX7_goBack_72 rfl (Nat.le_of_ble_eq_true rfl) ?_
      show Wx _ _ _ [_, _] _
      exact loop2 40 0 rfl
    | succ n ih =>
      intro p hi
      have hq := ih (p + 1) (by omega)
      rw [gbT_s] at hq
      generalize gbT S p = T at hq ⊢
      refine r_iload_n 1 h dX7_goBack_2 rfl rfl ?_
      refine r_bipush 40 h dX7_goBack_3 (by decide) ?_
      refine r_icmp_ge_f 67 h dX7_goBack_5 (by decide) (bigF (a := 40) (by omega) (by omega)) ?_
      refine r_aload_n 0 h dX7_goBack_8 rfl rfl ?_
      refine g23_0 h lf_X7_7 dX7_goBack_9 ?_
      show Wx _ _ 12 _ _
      refine r_iload_n 1 h dX7_goBack_12 rfl rfl ?_
      refine alN_24 h (by omega) dX7_goBack_13 ?_
      refine r_if_eq 61 h dX7_goBack_14 (by decide) (fun c14 => ?_) (fun c14 => ?_)
      · refine r_iincN h dX7_goBack_61 rfl ?_
        show Wx _ _ _ [_, _] _
        refine r_goto 2 h dX7_goBack_64 (by decide) ?_
        first | (rw [if_pos c14] at hq; exact hq) | (rw [if_neg c14] at hq; exact hq)
      · refine r_aload_n 0 h dX7_goBack_17 rfl rfl ?_
        refine g23_1 h lf_X7_13 dX7_goBack_18 ?_
        refine r_iload_n 1 h dX7_goBack_21 rfl rfl ?_
        refine r_aload_n 0 h dX7_goBack_22 rfl rfl ?_
        refine g23_1 h lf_X7_13 dX7_goBack_23 ?_
        show Wx _ _ 26 _ _
        refine r_iload_n 1 h dX7_goBack_26 rfl rfl ?_
        refine alN_25 h (by omega) dX7_goBack_27 ?_
        refine r_aload_n 0 h dX7_goBack_28 rfl rfl ?_
        refine g23_4 h lf_X7_23 dX7_goBack_29 ?_
        refine r_iload_n 1 h dX7_goBack_32 rfl rfl ?_
        refine alN_28 h (by omega) dX7_goBack_33 ?_
        show Wx _ _ 34 _ _
        refine r_isub h dX7_goBack_34 ?_
        refine r_bipush 63 h dX7_goBack_35 (by decide) ?_
        refine r_iand h dX7_goBack_37 ?_
        refine asN_25 h (by omega) dX7_goBack_38 ?_
        show Wx _ (gbA T p) _ _ _
        refine r_aload_n 0 h dX7_goBack_39 rfl rfl ?_
        refine g23_2 h lf_X7_17 dX7_goBack_40 ?_
        show Wx _ _ 43 _ _
        refine r_iload_n 1 h dX7_goBack_43 rfl rfl ?_
        refine r_aload_n 0 h dX7_goBack_44 rfl rfl ?_
        refine g23_2 h lf_X7_17 dX7_goBack_45 ?_
        refine r_iload_n 1 h dX7_goBack_48 rfl rfl ?_
        refine alN_26 h (by omega) dX7_goBack_49 ?_
        refine r_aload_n 0 h dX7_goBack_50 rfl rfl ?_
        show Wx _ _ 51 _ _
        refine g23_5 h lf_X7_26 dX7_goBack_51 ?_
        refine r_iload_n 1 h dX7_goBack_54 rfl rfl ?_
        refine alN_29 h (by omega) dX7_goBack_55 ?_
        refine r_isub h dX7_goBack_56 ?_
        refine r_bipush 63 h dX7_goBack_57 (by decide) ?_
        refine r_iand h dX7_goBack_59 ?_
        show Wx _ _ 60 _ _
        refine asN_26 h (by omega) dX7_goBack_60 ?_
        refine r_iincN h dX7_goBack_61 rfl ?_
        show Wx _ _ _ [_, _] _
        refine r_goto 2 h dX7_goBack_64 (by decide) ?_
        first | (rw [if_pos c14] at hq; exact hq) | (rw [if_neg c14] at hq; exact hq)
  refine r_iconst 0 h dX7_goBack_0 (by decide) ?_
  refine r_istore_n 1 h dX7_goBack_1 rfl (Nat.le_of_ble_eq_true rfl) ?_
  show Wx _ _ _ [_, _] _
  exact loop1 40 0 rfl
set_option maxRecDepth 100000 in
set_option maxHeartbeats 4000000 in
theorem mX7_step (l : Launch) (w : Fx) (S : St) (n : Int32) : Ct l yX7_step cX7_step 3 (some .int) 5 w [.ref (aD w 23), .int n] S (fun v S' => v = some (.int (mstR S n)) ∧ S' = mstT S n) := by
  refine Ct.of (by decide) (Nat.le_of_ble_eq_true rfl) (fun X h hr hl hw => ?_)
  subst hl hw
  have h : Ok X cX7_step RX7 5 := h
  show Wx X S 0 [.ref (aD (xw X) 23), .int n, .null] []
  have fin : ¬ inL n.toInt64 (-8) 8 = 0 → ¬ n = 0 → ∀ v : Value, Wx X (mspU S n) 55 [.ref (aD (xw X) 23), .int n, v] [] := by
    intro h1 h2 v
    refine r_aload_n 0 h dX7_step_55 rfl rfl ?_
    refine r_dup h dX7_step_56 rfl ?_
    refine g23_8 h lf_X7_201 dX7_step_57 ?_
    refine r_iload_n 1 h dX7_step_60 rfl rfl ?_
    refine r_iadd h dX7_step_61 ?_
    show Wx _ _ 62 _ _
    refine p23_8 h lf_X7_201 dX7_step_62 ?_
    refine r_aload_n 0 h dX7_step_65 rfl rfl ?_
    refine g23_8 h lf_X7_201 dX7_step_66 ?_
    exact r_iret h hr dX7_step_69 ⟨by rw [mstR, if_neg h1, if_neg h2, mstT, if_neg h1, if_neg h2], by rw [mstT, if_neg h1, if_neg h2]⟩
  have up : ¬ inL n.toInt64 (-8) 8 = 0 → ¬ n = 0 → ∀ k : Nat, 1 ≤ k → k ≤ 8 → n = nI k → Wx X S 21 [.ref (aD (xw X) 23), .int n, .null] [] := by
    intro h1 h2 k hk1 hk8 en
    have hf := fin h1 h2
    subst en
    rw [mspU, if_neg (nI_pos (by omega)), ncl (by omega)] at hf
    have loop : ∀ n i : Nat, i + n = k → Wx X (itr gonS i S) 23 [.ref (aD (xw X) 23), .int (nI k), .int (nI i)] [] := by
      intro n
      induction n with
      | zero =>
        intro i hi
        have hi : i = k := by omega
        subst hi
        refine r_iload_n 2 h dX7_step_23 rfl rfl ?_
        refine r_iload_n 1 h dX7_step_24 rfl rfl ?_
        refine r_icmp_ge_t 38 h dX7_step_25 (by decide) (bigT (by omega) (by omega)) ?_
        refine r_iconst 0 h dX7_step_38 (by decide) ?_
        refine r_istore_n 2 h dX7_step_39 rfl (Nat.le_of_ble_eq_true rfl) ?_
        show Wx _ _ _ [_, _, _] _
        show Wx _ _ 40 _ _
        refine r_iload_n 2 h dX7_step_40 rfl rfl ?_
        refine r_iload_n 1 h dX7_step_41 rfl rfl ?_
        refine r_icmp_le_t 55 h dX7_step_42 (by decide) (nI_le (a := 0) (by omega) (by omega)) ?_
        exact hf _
      | succ n ih =>
        intro i hi
        have hq := ih (i + 1) (by omega)
        rw [itr_s] at hq
        refine r_iload_n 2 h dX7_step_23 rfl rfl ?_
        refine r_iload_n 1 h dX7_step_24 rfl rfl ?_
        refine r_icmp_ge_f 38 h dX7_step_25 (by decide) (bigF (by omega) (by omega)) ?_
        refine r_aload_n 0 h dX7_step_28 rfl rfl ?_
        refine cV0v h (mX7_goOn _ _ _) kX7_goOn lm_X7_195 (by decide) 23 (pl_23 _ _) rfl (Nat.le_of_ble_eq_true rfl) dX7_step_29 ?_
        show Wx _ _ 32 _ _
        refine r_iincN h dX7_step_32 rfl ?_
        show Wx _ _ _ [_, _, _] _
        refine r_goto 23 h dX7_step_35 (by decide) ?_
        exact hq
    refine r_iconst 0 h dX7_step_21 (by decide) ?_
    refine r_istore_n 2 h dX7_step_22 rfl (Nat.le_of_ble_eq_true rfl) ?_
    show Wx _ _ _ [_, _, _] _
    exact loop k 0 (by omega)
  have down : ¬ inL n.toInt64 (-8) 8 = 0 → ¬ n = 0 → ∀ k : Nat, 1 ≤ k → k ≤ 8 → n = -nI k → Wx X S 21 [.ref (aD (xw X) 23), .int n, .null] [] := by
    intro h1 h2 k hk1 hk8 en
    have hf := fin h1 h2
    subst en
    have q4 : -nI k < 0 := (sb_nlt (a := k) (b := 0) (by omega) (by omega)).mpr (by omega)
    rw [mspU, if_pos q4, Int32.neg_neg, ncl (by omega)] at hf
    have loop : ∀ n i : Nat, i + n = k → Wx X (itr gbkS i S) 40 [.ref (aD (xw X) 23), .int (-nI k), .int (-nI i)] [] := by
      intro n
      induction n with
      | zero =>
        intro i hi
        have hi : i = k := by omega
        subst hi
        refine r_iload_n 2 h dX7_step_40 rfl rfl ?_
        refine r_iload_n 1 h dX7_step_41 rfl rfl ?_
        refine r_icmp_le_t 55 h dX7_step_42 (by decide) (nle_T (by omega) (by omega) (by omega)) ?_
        exact hf _
      | succ n ih =>
        intro i hi
        have hq := ih (i + 1) (by omega)
        rw [itr_s] at hq
        refine r_iload_n 2 h dX7_step_40 rfl rfl ?_
        refine r_iload_n 1 h dX7_step_41 rfl rfl ?_
        refine r_icmp_le_f 55 h dX7_step_42 (by decide) (nle_F (by omega) (by omega) (by omega)) ?_
        refine r_aload_n 0 h dX7_step_45 rfl rfl ?_
        refine cV0v h (mX7_goBack _ _ _) kX7_goBack lm_X7_198 (by decide) 23 (pl_23 _ _) rfl (Nat.le_of_ble_eq_true rfl) dX7_step_46 ?_
        show Wx _ _ 49 _ _
        refine r_iinc (-1) h dX7_step_49 (by decide) rfl ?_
        show Wx _ _ _ [_, _, .int (-nI i + (-1))] _
        rw [neg_1]
        refine r_goto 40 h dX7_step_52 (by decide) ?_
        exact hq
    refine r_iconst 0 h dX7_step_21 (by decide) ?_
    refine r_istore_n 2 h dX7_step_22 rfl (Nat.le_of_ble_eq_true rfl) ?_
    show Wx _ _ _ [_, _, _] _
    refine r_iload_n 2 h dX7_step_23 rfl rfl ?_
    refine r_iload_n 1 h dX7_step_24 rfl rfl ?_
    refine r_icmp_ge_t 38 h dX7_step_25 (by decide) (Int32.le_of_lt q4) ?_
    show Wx _ _ 38 _ _
    refine r_iconst 0 h dX7_step_38 (by decide) ?_
    refine r_istore_n 2 h dX7_step_39 rfl (Nat.le_of_ble_eq_true rfl) ?_
    show Wx _ _ _ [_, _, _] _
    exact loop k 0 (by omega)
  refine r_iload_n 1 h dX7_step_0 rfl rfl ?_
  refine r_i2l h dX7_step_1 ?_
  refine r_ldc2 h lc_X7_193 dX7_step_2 ?_
  refine r_ldc2 h lc_X7_95 dX7_step_5 ?_
  refine cS3 h (mX7_in _ _ _ _ _ _) kX7_in lm_X7_62 (by decide) (Nat.le_of_ble_eq_true rfl) dX7_step_8 ?_
  show Wx _ _ 11 _ _
  refine r_if_eq 18 h dX7_step_11 (by decide) (fun c11 => ?_) (fun c11 => ?_)
  · refine r_bipush (-2) h dX7_step_18 (by decide) ?_
    exact r_iret h hr dX7_step_20 ⟨by rw [mstR]; first | (rw [if_pos c11]; done) | (rw [if_neg c11, if_pos c15]; done), by rw [mstT]; first | (rw [if_pos c11]; done) | (rw [if_neg c11, if_pos c15]; done)⟩
  · refine r_iload_n 1 h dX7_step_14 rfl rfl ?_
    refine r_if_ne 21 h dX7_step_15 (by decide) (fun c15 => ?_) (fun c15 => ?_)
    · obtain ⟨g1, g2⟩ := in_n (a := -8) (b := 8) c11
      by_cases c0 : n < 0
      · obtain ⟨k, k1, k8, en⟩ := neg_at g1 c0
        exact down c11 c15 k k1 k8 en
      · obtain ⟨k, k8, en⟩ := nI_of2 (M := 8) (n := 8) (by decide) c0 (Int32.not_lt.mp g2)
        refine up c11 c15 k ?_ k8 en
        rcases Nat.eq_zero_or_pos k with z | z
        · subst z; exact absurd en c15
        · exact z
    · refine r_bipush (-2) h dX7_step_18 (by decide) ?_
      exact r_iret h hr dX7_step_20 ⟨by rw [mstR]; first | (rw [if_pos c11]; done) | (rw [if_neg c11, if_pos c15]; done), by rw [mstT]; first | (rw [if_pos c11]; done) | (rw [if_neg c11, if_pos c15]; done)⟩
