/-- whether POINT p is in the BOX -/
def inI (hr px py : Nat → Int32) (l i j : Int32) (p : Nat) : Int32 := if hr p = 0 then 0 else if numI l (px p) = i then (if numI l (py p) = j then 1 else 0) else 0
def pnI (hr px py : Nat → Int32) (l i j : Int32) : Nat → Int32
  | 0 => 0
  | p + 1 => pnI hr px py l i j p + (if inI hr px py l i j p = 0 then 0 else 1)
def bkL (hr px py wt : Nat → Int32) (l i j : Int32) : Nat → Int64
  | 0 => 0
  | p + 1 => if inI hr px py l i j p = 0 then bkL hr px py wt l i j p else bkL hr px py wt l i j p + (if 0 ≤ wt p then (wt p).toInt64 else (-(wt p)).toInt64)
theorem bkL_s {hr px py wt : Nat → Int32} {l i j : Int32} {p : Nat} : bkL hr px py wt l i j (p + 1) = if inI hr px py l i j p = 0 then bkL hr px py wt l i j p else bkL hr px py wt l i j p + (if 0 ≤ wt p then (wt p).toInt64 else (-(wt p)).toInt64) := rfl
def mspI (hr px py : Nat → Int32) (mo : Int32) (l i j : Int32) : Int32 := if 5 ≤ l then 0 else if pnI hr px py l i j 40 ≤ mo then 0 else 1
def mblI (hr px py : Nat → Int32) (mo q i j : Int32) : Nat → Int32
  | 0 => 1
  | l + 1 => if mblI hr px py mo q i j l = 0 then 0 else if mspI hr px py mo (nI l) (i >>> ((q - nI l) &&& 31)) (j >>> ((q - nI l) &&& 31)) = 0 then 0 else 1
theorem mblI_s {hr px py : Nat → Int32} {mo q i j : Int32} {l : Nat} : mblI hr px py mo q i j (l + 1) = if mblI hr px py mo q i j l = 0 then 0 else if mspI hr px py mo (nI l) (i >>> ((q - nI l) &&& 31)) (j >>> ((q - nI l) &&& 31)) = 0 then 0 else 1 := rfl
theorem mbl_01 {hr px py : Nat → Int32} {mo q i j : Int32} : ∀ l, mblI hr px py mo q i j l = 0 ∨ mblI hr px py mo q i j l = 1
  | 0 => Or.inr rfl
  | l + 1 => by
    rw [mblI_s]
    split
    · exact Or.inl rfl
    · split
      · exact Or.inl rfl
      · exact Or.inr rfl
def mbxI (hr px py : Nat → Int32) (mo q i j : Int32) : Int32 := if inL q.toInt64 0 5 = 0 then 0 else if inL i.toInt64 0 (1 <<< (q &&& 31) - 1).toInt64 = 0 then 0 else if inL j.toInt64 0 (1 <<< (q &&& 31) - 1).toInt64 = 0 then 0 else mblI hr px py mo q i j q.toNatClampNeg
theorem in5 {q : Int32} (h : ¬ inL q.toInt64 0 5 = 0) : ∃ k : Nat, k ≤ 5 ∧ q = nI k := by
  obtain ⟨h1, h2⟩ := in_n (a := 0) (b := 5) h
  exact nI_of2 (M := 5) (n := 5) (by decide) h1 (Int32.not_lt.mp h2)
theorem in2 {q : Int32} (h : ¬ inL q.toInt64 0 2 = 0) : q = 0 ∨ q = 1 ∨ q = 2 := by
  obtain ⟨h1, h2⟩ := in_n (a := 0) (b := 2) h
  obtain ⟨k, hk, rfl⟩ := nI_of2 (M := 2) (n := 2) (by decide) h1 (Int32.not_lt.mp h2)
  match k, hk with
  | 0, _ => exact Or.inl rfl
  | 1, _ => exact Or.inr (Or.inl rfl)
  | 2, _ => exact Or.inr (Or.inr rfl)
  | k + 3, hk => exact absurd hk (by omega)
def mdI (q i : Int32) : Int32 := 2 * i * sideI q + sideI q - 1
def mmV (hr px py wt : Nat → Int32) (q i j : Int32) (a b : Nat) : Nat → Int64
  | 0 => 0
  | p + 1 => if inI hr px py q i j p = 0 then mmV hr px py wt q i j a b p else mmV hr px py wt q i j a b p + (wt p).toInt64 * pw 1 (2 * px p - mdI q i).toInt64 a * pw 1 (2 * py p - mdI q j).toInt64 b
theorem mmV_s {hr px py wt : Nat → Int32} {q i j : Int32} {a b p : Nat} : mmV hr px py wt q i j a b (p + 1) = if inI hr px py q i j p = 0 then mmV hr px py wt q i j a b p else mmV hr px py wt q i j a b p + (wt p).toInt64 * pw 1 (2 * px p - mdI q i).toInt64 a * pw 1 (2 * py p - mdI q j).toInt64 b := rfl
def mboR (S : St) (q i j z : Int32) : Int32 := if mbxI (S.1 20) (S.1 21) (S.1 22) (S.1 27 0) q i j = 0 then -2 else if inL z.toInt64 0 2 = 0 then -2 else if z = 0 then pnI (S.1 20) (S.1 21) (S.1 22) q i j 40 else if z = 1 then (bkL (S.1 20) (S.1 21) (S.1 22) (S.1 23) q i j 40).toInt32 else mspI (S.1 20) (S.1 21) (S.1 22) (S.1 27 0) q i j
def mmoR (S : St) (q i j a b : Int32) : Int64 := if mbxI (S.1 20) (S.1 21) (S.1 22) (S.1 27 0) q i j = 0 then -9000000000000000000 else if mprI a b = 0 then -9000000000000000000 else mmV (S.1 20) (S.1 21) (S.1 22) (S.1 23) q i j a.toNatClampNeg b.toNatClampNeg 40
theorem msp_01 {hr px py : Nat → Int32} {mo l i j : Int32} : mspI hr px py mo l i j = 0 ∨ mspI hr px py mo l i j = 1 := by
  unfold mspI
  split
  · exact Or.inl rfl
  · split
    · exact Or.inl rfl
    · exact Or.inr rfl
theorem msp_5 {hr px py : Nat → Int32} {mo i j : Int32} : mspI hr px py mo (nI 5) i j = 0 := by
  unfold mspI
  exact if_pos (by decide)
def mlfI (hr px py : Nat → Int32) (mo x y : Int32) : Nat → Nat → Int32
  | 0, l => nI l
  | n + 1, l => if mspI hr px py mo (nI l) (numI (nI l) x) (numI (nI l) y) = 0 then nI l else mlfI hr px py mo x y n (l + 1)
theorem mlfI_s {hr px py : Nat → Int32} {mo x y : Int32} {n l : Nat} : mlfI hr px py mo x y (n + 1) l = if mspI hr px py mo (nI l) (numI (nI l) x) (numI (nI l) y) = 0 then nI l else mlfI hr px py mo x y n (l + 1) := rfl
def mleR (S : St) (x y : Int32) : Int32 := if mplI x y = 0 then -2 else mlfI (S.1 20) (S.1 21) (S.1 22) (S.1 27 0) x y 5 0
def chL (a : Nat) : Nat → Int64
  | 0 => 1
  | k + 1 => chL a k * (nI a - nI k).toInt64 / (nI k + 1).toInt64
theorem ch_ne {k : Nat} (h : k ≤ 10) : ¬ (nI k + 1).toInt64 = 0 := by
  have key : ∀ k : Fin 11, ¬ (nI k.val + 1).toInt64 = 0 := by decide +kernel
  exact key ⟨k, by omega⟩
def szL (v : Int64) : Int64 := if 0 ≤ v then v else -v
def s16 (a b : Nat) : Int64 := 16 >>> ((nI a + nI b).toInt64 &&& 63)
def teB (K : Nat → Int32) (F G : Int64) (u v a : Nat) (s : Int64) : Nat → Int64
  | 0 => s
  | k + 1 => teB K F G u v a s k + (K (5 * a + (v + k))).toInt64 * s16 a (v + k) * chL a u * chL (v + k) v * pw 1 F (a - u) * pw 1 G (v + k - v)
def teA (K : Nat → Int32) (F G : Int64) (u v : Nat) : Nat → Int64
  | 0 => 0
  | m + 1 => teB K F G u v (u + m) (teA K F G u v m) (5 - (u + m) - v)
def sg2 (u v : Nat) : Int32 := nI u + nI v - (nI u + nI v) / 2 * 2
def teV (hr px py wt K : Nat → Int32) (q i j : Int32) (F G : Int64) (u : Nat) (s : Int64) : Nat → Int64
  | 0 => s
  | v + 1 => teV hr px py wt K q i j F G u s v + (if sg2 u v = 0 then teA K F G u v (5 - u) else -teA K F G u v (5 - u)) * mmV hr px py wt q i j u v 40
def teU (hr px py wt K : Nat → Int32) (q i j : Int32) (F G : Int64) (o : Nat) : Nat → Int64
  | 0 => 0
  | u + 1 => teV hr px py wt K q i j F G u (teU hr px py wt K q i j F G o u) (o + 1 - u)
def farL (x q i : Int32) : Int64 := 2 * x.toInt64 - (mdI q i).toInt64
def mteL (hr px py wt K : Nat → Int32) (q i j x y : Int32) (o : Nat) : Int64 := teU hr px py wt K q i j (farL x q i) (farL y q j) o (o + 1)
def meV (K : Nat → Int32) (F G s : Int64) (o a b u : Nat) (z : Int64) : Nat → Int64
  | 0 => z
  | v + 1 => if nI u + nI v ≤ nI o then meV K F G s o a b u z v else meV K F G s o a b u z v + szL (K (5 * a + b)).toInt64 * s16 a b * chL a u * chL b v * pw 1 F (a - u) * pw 1 G (b - v) * pw 1 s (u + v)
theorem meV_s {K : Nat → Int32} {F G s : Int64} {o a b u : Nat} {z : Int64} {v : Nat} : meV K F G s o a b u z (v + 1) = if nI u + nI v ≤ nI o then meV K F G s o a b u z v else meV K F G s o a b u z v + szL (K (5 * a + b)).toInt64 * s16 a b * chL a u * chL b v * pw 1 F (a - u) * pw 1 G (b - v) * pw 1 s (u + v) := rfl
def meU (K : Nat → Int32) (F G s : Int64) (o a b : Nat) (z : Int64) : Nat → Int64
  | 0 => z
  | u + 1 => meV K F G s o a b u (meU K F G s o a b z u) (b + 1)
def meB (K : Nat → Int32) (F G s : Int64) (o a : Nat) (z : Int64) : Nat → Int64
  | 0 => z
  | b + 1 => meU K F G s o a b (meB K F G s o a z b) (a + 1)
def meA (K : Nat → Int32) (F G s : Int64) (o : Nat) : Nat → Int64
  | 0 => 0
  | a + 1 => meB K F G s o a (meA K F G s o a) (5 - a)
def menL (hr px py wt K : Nat → Int32) (q i j x y : Int32) (o : Nat) : Int64 := meA K (szL (farL x q i)) (szL (farL y q j)) (sideI q - 1).toInt64 o 5 * bkL hr px py wt q i j 40
set_option maxRecDepth 100000 in
set_option maxHeartbeats 4000000 in
theorem mX7_isIn (l : Launch) (w : Fx) (S : St) (p : Nat) (q i j : Int32) (hp : p < 40) : Ct l yX7_isIn cX7_isIn 6 (some .boolean) 0 w [.ref (aD w 23), .int (nI p), .int q, .int i, .int j] S (fun v S' => v = some (.int (inI (S.1 20) (S.1 21) (S.1 22) q i j p)) ∧ S' = S) := by
  refine Ct.of (by decide) (Nat.le_of_ble_eq_true rfl) (fun X h hr hl hw => ?_)
  subst hl hw
  have h : Ok X cX7_isIn RX7 0 := h
  show Wx X S 0 [.ref (aD (xw X) 23), .int (nI p), .int q, .int i, .int j, .null] []
  refine r_bipush 6 h dX7_isIn_0 (by decide) ?_
  refine r_iload_n 2 h dX7_isIn_2 rfl rfl ?_
  refine r_isub h dX7_isIn_3 ?_
  refine r_istore h dX7_isIn_4 (Nat.le_of_ble_eq_true rfl) ?_
  show Wx _ _ _ [_, _, _, _, _, _] _
  refine r_aload_n 0 h dX7_isIn_6 rfl rfl ?_
  show Wx _ _ 7 _ _
  refine g23_0 h lf_X7_7 dX7_isIn_7 ?_
  refine r_iload_n 1 h dX7_isIn_10 rfl rfl ?_
  refine alN_24 h (by omega) dX7_isIn_11 ?_
  refine r_if_eq 46 h dX7_isIn_12 (by decide) (fun c12 => ?_) (fun c12 => ?_)
  · refine r_iconst 0 h dX7_isIn_46 (by decide) ?_
    exact r_zret h hr dX7_isIn_47 rfl ⟨by simp only [inI, numI, c12, ite_true, ite_false, if_true, if_false, not_true, not_false_iff], rfl⟩
  · refine r_aload_n 0 h dX7_isIn_15 rfl rfl ?_
    refine g23_1 h lf_X7_13 dX7_isIn_16 ?_
    refine r_iload_n 1 h dX7_isIn_19 rfl rfl ?_
    refine alN_25 h (by omega) dX7_isIn_20 ?_
    refine r_iload h dX7_isIn_21 rfl ?_
    show Wx _ _ 23 _ _
    refine r_ishr h dX7_isIn_23 ?_
    refine r_iload_n 3 h dX7_isIn_24 rfl rfl ?_
    refine r_icmp_ne 46 h dX7_isIn_25 (by decide) (fun c25 => ?_) (fun c25 => ?_)
    · refine r_iconst 0 h dX7_isIn_46 (by decide) ?_
      exact r_zret h hr dX7_isIn_47 rfl ⟨by simp only [inI, numI, c12, c25, ite_true, ite_false, if_true, if_false, not_true, not_false_iff], rfl⟩
    · refine r_aload_n 0 h dX7_isIn_28 rfl rfl ?_
      refine g23_2 h lf_X7_17 dX7_isIn_29 ?_
      refine r_iload_n 1 h dX7_isIn_32 rfl rfl ?_
      refine alN_26 h (by omega) dX7_isIn_33 ?_
      refine r_iload h dX7_isIn_34 rfl ?_
      show Wx _ _ 36 _ _
      refine r_ishr h dX7_isIn_36 ?_
      refine r_iload h dX7_isIn_37 rfl ?_
      refine r_icmp_ne 46 h dX7_isIn_39 (by decide) (fun c39 => ?_) (fun c39 => ?_)
      · refine r_iconst 0 h dX7_isIn_46 (by decide) ?_
        exact r_zret h hr dX7_isIn_47 rfl ⟨by simp only [inI, numI, c12, c25, c39, ite_true, ite_false, if_true, if_false, not_true, not_false_iff], rfl⟩
      · refine r_iconst 1 h dX7_isIn_42 (by decide) ?_
        refine r_goto 47 h dX7_isIn_43 (by decide) ?_
        exact r_zret h hr dX7_isIn_47 rfl ⟨by simp only [inI, numI, c12, c25, c39, ite_true, ite_false, if_true, if_false, not_true, not_false_iff], rfl⟩
set_option maxRecDepth 100000 in
set_option maxHeartbeats 4000000 in
theorem mX7_pointsIn (l : Launch) (w : Fx) (S : St) (q i j : Int32) : Ct l yX7_pointsIn cX7_pointsIn 6 (some .int) 1 w [.ref (aD w 23), .int q, .int i, .int j] S (fun v S' => v = some (.int (pnI (S.1 20) (S.1 21) (S.1 22) q i j 40)) ∧ S' = S) := by
  refine Ct.of (by decide) (Nat.le_of_ble_eq_true rfl) (fun X h hr hl hw => ?_)
  subst hl hw
  have h : Ok X cX7_pointsIn RX7 1 := h
  show Wx X S 0 [.ref (aD (xw X) 23), .int q, .int i, .int j, .null, .null] []
  have loop : ∀ n p : Nat, p + n = 40 → Wx X (S) 6 [.ref (aD (xw X) 23), .int q, .int i, .int j, .int (pnI (S.1 20) (S.1 21) (S.1 22) q i j p), .int (nI p)] [] := by
    intro n
    induction n with
    | zero =>
      intro p hi
      have hi : p = 40 := by omega
      subst hi
      refine r_iload h dX7_pointsIn_6 rfl ?_
      refine r_bipush 40 h dX7_pointsIn_8 (by decide) ?_
      refine r_icmp_ge_t 41 h dX7_pointsIn_10 (by decide) (bigT (a := 40) (by omega) (by omega)) ?_
      refine r_iload h dX7_pointsIn_41 rfl ?_
      exact r_iret h hr dX7_pointsIn_43 ⟨rfl, rfl⟩
    | succ n ih =>
      intro p hi
      have hq := ih (p + 1) (by omega)
      unfold pnI at hq
      refine r_iload h dX7_pointsIn_6 rfl ?_
      refine r_bipush 40 h dX7_pointsIn_8 (by decide) ?_
      refine r_icmp_ge_f 41 h dX7_pointsIn_10 (by decide) (bigF (a := 40) (by omega) (by omega)) ?_
      refine r_iload h dX7_pointsIn_13 rfl ?_
      refine r_aload_n 0 h dX7_pointsIn_15 rfl rfl ?_
      show Wx _ _ 16 _ _
      refine r_iload h dX7_pointsIn_16 rfl ?_
      refine r_iload_n 1 h dX7_pointsIn_18 rfl rfl ?_
      refine r_iload_n 2 h dX7_pointsIn_19 rfl rfl ?_
      refine r_iload_n 3 h dX7_pointsIn_20 rfl rfl ?_
      refine cV4 h (mX7_isIn _ _ _ p q i j (by omega)) kX7_isIn lm_X7_113 (by decide) 23 (pl_23 _ _) rfl (Nat.le_of_ble_eq_true rfl) dX7_pointsIn_21 ?_
      refine r_if_eq 31 h dX7_pointsIn_24 (by decide) (fun c24 => ?_) (fun c24 => ?_)
      · refine r_iconst 0 h dX7_pointsIn_31 (by decide) ?_
        refine r_iadd h dX7_pointsIn_32 ?_
        refine r_istore h dX7_pointsIn_33 (Nat.le_of_ble_eq_true rfl) ?_
        show Wx _ _ _ [_, _, _, _, _, _] _
        refine r_iincN h dX7_pointsIn_35 rfl ?_
        show Wx _ _ _ [_, _, _, _, _, _] _
        refine r_goto 6 h dX7_pointsIn_38 (by decide) ?_
        first | (rw [if_pos c24] at hq; exact hq) | (rw [if_neg c24] at hq; exact hq)
      · refine r_iconst 1 h dX7_pointsIn_27 (by decide) ?_
        refine r_goto 32 h dX7_pointsIn_28 (by decide) ?_
        refine r_iadd h dX7_pointsIn_32 ?_
        refine r_istore h dX7_pointsIn_33 (Nat.le_of_ble_eq_true rfl) ?_
        show Wx _ _ _ [_, _, _, _, _, _] _
        refine r_iincN h dX7_pointsIn_35 rfl ?_
        show Wx _ _ _ [_, _, _, _, _, _] _
        show Wx _ _ 38 _ _
        refine r_goto 6 h dX7_pointsIn_38 (by decide) ?_
        first | (rw [if_pos c24] at hq; exact hq) | (rw [if_neg c24] at hq; exact hq)
  refine r_iconst 0 h dX7_pointsIn_0 (by decide) ?_
  refine r_istore h dX7_pointsIn_1 (Nat.le_of_ble_eq_true rfl) ?_
  show Wx _ _ _ [_, _, _, _, _, _] _
  refine r_iconst 0 h dX7_pointsIn_3 (by decide) ?_
  refine r_istore h dX7_pointsIn_4 (Nat.le_of_ble_eq_true rfl) ?_
  show Wx _ _ _ [_, _, _, _, _, _] _
  exact loop 40 0 rfl
set_option maxRecDepth 100000 in
set_option maxHeartbeats 4000000 in
theorem mX7_bulk (l : Launch) (w : Fx) (S : St) (q i j : Int32) : Ct l yX7_bulk cX7_bulk 7 (some .long) 1 w [.ref (aD w 23), .int q, .int i, .int j] S (fun v S' => v = some (.long (bkL (S.1 20) (S.1 21) (S.1 22) (S.1 23) q i j 40)) ∧ S' = S) := by
  refine Ct.of (by decide) (Nat.le_of_ble_eq_true rfl) (fun X h hr hl hw => ?_)
  subst hl hw
  have h : Ok X cX7_bulk RX7 1 := h
  show Wx X S 0 [.ref (aD (xw X) 23), .int q, .int i, .int j, .null, .null, .null] []
  have loop : ∀ n p : Nat, p + n = 40 → Wx X (S) 6 [.ref (aD (xw X) 23), .int q, .int i, .int j, .long (bkL (S.1 20) (S.1 21) (S.1 22) (S.1 23) q i j p), .null, .int (nI p)] [] := by
    intro n
    induction n with
    | zero =>
      intro p hi
      have hi : p = 40 := by omega
      subst hi
      refine r_iload h dX7_bulk_6 rfl ?_
      refine r_bipush 40 h dX7_bulk_8 (by decide) ?_
      refine r_icmp_ge_t 66 h dX7_bulk_10 (by decide) (bigT (a := 40) (by omega) (by omega)) ?_
      refine r_lload h dX7_bulk_66 rfl ?_
      exact r_lret h hr dX7_bulk_68 ⟨rfl, rfl⟩
    | succ n ih =>
      intro p hi
      have hq := ih (p + 1) (by omega)
      rw [bkL_s] at hq
      refine r_iload h dX7_bulk_6 rfl ?_
      refine r_bipush 40 h dX7_bulk_8 (by decide) ?_
      refine r_icmp_ge_f 66 h dX7_bulk_10 (by decide) (bigF (a := 40) (by omega) (by omega)) ?_
      refine r_aload_n 0 h dX7_bulk_13 rfl rfl ?_
      refine r_iload h dX7_bulk_14 rfl ?_
      show Wx _ _ 16 _ _
      refine r_iload_n 1 h dX7_bulk_16 rfl rfl ?_
      refine r_iload_n 2 h dX7_bulk_17 rfl rfl ?_
      refine r_iload_n 3 h dX7_bulk_18 rfl rfl ?_
      refine cV4 h (mX7_isIn _ _ _ p q i j (by omega)) kX7_isIn lm_X7_113 (by decide) 23 (pl_23 _ _) rfl (Nat.le_of_ble_eq_true rfl) dX7_bulk_19 ?_
      refine r_if_eq 60 h dX7_bulk_22 (by decide) (fun c22 => ?_) (fun c22 => ?_)
      · refine r_iincN h dX7_bulk_60 rfl ?_
        show Wx _ _ _ [_, _, _, _, _, _, _] _
        refine r_goto 6 h dX7_bulk_63 (by decide) ?_
        first | (rw [if_pos c22] at hq; exact hq) | (rw [if_neg c22, if_pos c34] at hq; exact hq) | (rw [if_neg c22, if_neg c34] at hq; exact hq)
      · refine r_lload h dX7_bulk_25 rfl ?_
        refine r_aload_n 0 h dX7_bulk_27 rfl rfl ?_
        refine g23_3 h lf_X7_20 dX7_bulk_28 ?_
        refine r_iload h dX7_bulk_31 rfl ?_
        refine alN_27 h (by omega) dX7_bulk_33 ?_
        show Wx _ _ 34 _ _
        refine r_if_ge 49 h dX7_bulk_34 (by decide) (fun c34 => ?_) (fun c34 => ?_)
        · refine r_aload_n 0 h dX7_bulk_49 rfl rfl ?_
          refine g23_3 h lf_X7_20 dX7_bulk_50 ?_
          refine r_iload h dX7_bulk_53 rfl ?_
          refine alN_27 h (by omega) dX7_bulk_55 ?_
          refine r_i2l h dX7_bulk_56 ?_
          show Wx _ _ 57 _ _
          refine r_ladd h dX7_bulk_57 ?_
          refine r_lstore h dX7_bulk_58 (Nat.le_of_ble_eq_true rfl) ?_
          show Wx _ _ _ [_, _, _, _, _, _, _] _
          refine r_iincN h dX7_bulk_60 rfl ?_
          show Wx _ _ _ [_, _, _, _, _, _, _] _
          refine r_goto 6 h dX7_bulk_63 (by decide) ?_
          first | (rw [if_pos c22] at hq; exact hq) | (rw [if_neg c22, if_pos c34] at hq; exact hq) | (rw [if_neg c22, if_neg c34] at hq; exact hq)
        · refine r_aload_n 0 h dX7_bulk_37 rfl rfl ?_
          refine g23_3 h lf_X7_20 dX7_bulk_38 ?_
          refine r_iload h dX7_bulk_41 rfl ?_
          refine alN_27 h (by omega) dX7_bulk_43 ?_
          refine r_ineg h dX7_bulk_44 ?_
          show Wx _ _ 45 _ _
          refine r_i2l h dX7_bulk_45 ?_
          refine r_goto 57 h dX7_bulk_46 (by decide) ?_
          refine r_ladd h dX7_bulk_57 ?_
          refine r_lstore h dX7_bulk_58 (Nat.le_of_ble_eq_true rfl) ?_
          show Wx _ _ _ [_, _, _, _, _, _, _] _
          refine r_iincN h dX7_bulk_60 rfl ?_
          show Wx _ _ _ [_, _, _, _, _, _, _] _
          refine r_goto 6 h dX7_bulk_63 (by decide) ?_
          first | (rw [if_pos c22] at hq; exact hq) | (rw [if_neg c22, if_pos c34] at hq; exact hq) | (rw [if_neg c22, if_neg c34] at hq; exact hq)
  refine r_lconst 0 h dX7_bulk_0 (by decide) ?_
  refine r_lstore h dX7_bulk_1 (Nat.le_of_ble_eq_true rfl) ?_
  show Wx _ _ _ [_, _, _, _, _, _, _] _
  refine r_iconst 0 h dX7_bulk_3 (by decide) ?_
  refine r_istore h dX7_bulk_4 (Nat.le_of_ble_eq_true rfl) ?_
  show Wx _ _ _ [_, _, _, _, _, _, _] _
  exact loop 40 0 rfl
set_option maxRecDepth 100000 in
set_option maxHeartbeats 4000000 in
theorem mX7_isSplit (l : Launch) (w : Fx) (S : St) (q i j : Int32) : Ct l yX7_isSplit cX7_isSplit 4 (some .boolean) 2 w [.ref (aD w 23), .int q, .int i, .int j] S (fun v S' => v = some (.int (mspI (S.1 20) (S.1 21) (S.1 22) (S.1 27 0) q i j)) ∧ S' = S) := by
  refine Ct.of (by decide) (Nat.le_of_ble_eq_true rfl) (fun X h hr hl hw => ?_)
  subst hl hw
  have h : Ok X cX7_isSplit RX7 2 := h
  show Wx X S 0 [.ref (aD (xw X) 23), .int q, .int i, .int j] []
  refine r_iload_n 1 h dX7_isSplit_0 rfl rfl ?_
  refine r_iconst 5 h dX7_isSplit_1 (by decide) ?_
  refine r_icmp_ge 23 h dX7_isSplit_2 (by decide) (fun c2 => ?_) (fun c2 => ?_)
  · refine r_iconst 0 h dX7_isSplit_23 (by decide) ?_
    exact r_zret h hr dX7_isSplit_24 rfl ⟨by simp only [mspI, c2, ite_true, ite_false, if_true, if_false, not_true, not_false_iff], rfl⟩
  · refine r_aload_n 0 h dX7_isSplit_5 rfl rfl ?_
    refine r_iload_n 1 h dX7_isSplit_6 rfl rfl ?_
    refine r_iload_n 2 h dX7_isSplit_7 rfl rfl ?_
    refine r_iload_n 3 h dX7_isSplit_8 rfl rfl ?_
    refine cV3 h (mX7_pointsIn _ _ _ q i j) kX7_pointsIn lm_X7_117 (by decide) 23 (pl_23 _ _) rfl (Nat.le_of_ble_eq_true rfl) dX7_isSplit_9 ?_
    show Wx _ _ 12 _ _
    refine r_aload_n 0 h dX7_isSplit_12 rfl rfl ?_
    refine g23_7 h lf_X7_32 dX7_isSplit_13 ?_
    refine r_icmp_le 23 h dX7_isSplit_16 (by decide) (fun c16 => ?_) (fun c16 => ?_)
    · refine r_iconst 0 h dX7_isSplit_23 (by decide) ?_
      exact r_zret h hr dX7_isSplit_24 rfl ⟨by simp only [mspI, c2, c16, ite_true, ite_false, if_true, if_false, not_true, not_false_iff], rfl⟩
    · refine r_iconst 1 h dX7_isSplit_19 (by decide) ?_
      refine r_goto 24 h dX7_isSplit_20 (by decide) ?_
      exact r_zret h hr dX7_isSplit_24 rfl ⟨by simp only [mspI, c2, c16, ite_true, ite_false, if_true, if_false, not_true, not_false_iff], rfl⟩
set_option maxRecDepth 100000 in
set_option maxHeartbeats 4000000 in
theorem mX7_isBox (l : Launch) (w : Fx) (S : St) (q i j : Int32) : Ct l yX7_isBox cX7_isBox 6 (some .boolean) 3 w [.ref (aD w 23), .int q, .int i, .int j] S (fun v S' => v = some (.int (mbxI (S.1 20) (S.1 21) (S.1 22) (S.1 27 0) q i j)) ∧ S' = S) := by
  refine Ct.of (by decide) (Nat.le_of_ble_eq_true rfl) (fun X h hr hl hw => ?_)
  subst hl hw
  have h : Ok X cX7_isBox RX7 3 := h
  show Wx X S 0 [.ref (aD (xw X) 23), .int q, .int i, .int j, .null, .null] []
  have loop : ∀ k : Nat, k ≤ 5 → ¬ inL (nI k).toInt64 0 5 = 0 → ¬ inL i.toInt64 0 (1 <<< (nI k &&& 31) - 1).toInt64 = 0 → ¬ inL j.toInt64 0 (1 <<< (nI k &&& 31) - 1).toInt64 = 0 → q = nI k → ∀ n n2 : Nat, n2 + n = k → Wx X (S) 50 [.ref (aD (xw X) 23), .int (nI k), .int i, .int j, .int (mblI (S.1 20) (S.1 21) (S.1 22) (S.1 27 0) (nI k) i j n2), .int (nI n2)] [] := by
    intro k hk h1 h2 h3 eq n
    subst eq
    induction n with
    | zero =>
      intro n2 hi
      have hi : n2 = k := by omega
      subst hi
      refine r_iload h dX7_isBox_50 rfl ?_
      refine r_iload_n 1 h dX7_isBox_52 rfl rfl ?_
      refine r_icmp_ge_t 95 h dX7_isBox_53 (by decide) (bigT (by omega) (by omega)) ?_
      refine r_iload h dX7_isBox_95 rfl ?_
      exact r_zret h hr dX7_isBox_97 (by rcases mbl_01 (hr := S.1 20) (px := S.1 21) (py := S.1 22) (mo := S.1 27 0) (q := nI n2) (i := i) (j := j) n2 with z | z <;> rw [z] <;> rfl) ⟨by rw [mbxI, if_neg h1, if_neg h2, if_neg h3, ncl (by omega)], rfl⟩
    | succ n ih =>
      intro n2 hi
      have hq := ih (n2 + 1) (by omega)
      rw [mblI_s] at hq
      refine r_iload h dX7_isBox_50 rfl ?_
      refine r_iload_n 1 h dX7_isBox_52 rfl rfl ?_
      refine r_icmp_ge_f 95 h dX7_isBox_53 (by decide) (bigF (by omega) (by omega)) ?_
      refine r_iload h dX7_isBox_56 rfl ?_
      refine r_if_eq 86 h dX7_isBox_58 (by decide) (fun c58 => ?_) (fun c58 => ?_)
      · refine r_iconst 0 h dX7_isBox_86 (by decide) ?_
        refine r_istore h dX7_isBox_87 (Nat.le_of_ble_eq_true rfl) ?_
        show Wx _ _ _ [_, _, _, _, _, _] _
        refine r_iincN h dX7_isBox_89 rfl ?_
        show Wx _ _ _ [_, _, _, _, _, _] _
        refine r_goto 50 h dX7_isBox_92 (by decide) ?_
        first | (rw [if_pos c58] at hq; exact hq) | (rw [if_neg c58, if_pos c79] at hq; exact hq) | (rw [if_neg c58, if_neg c79] at hq; exact hq)
      · refine r_aload_n 0 h dX7_isBox_61 rfl rfl ?_
        refine r_iload h dX7_isBox_62 rfl ?_
        refine r_iload_n 2 h dX7_isBox_64 rfl rfl ?_
        refine r_iload_n 1 h dX7_isBox_65 rfl rfl ?_
        refine r_iload h dX7_isBox_66 rfl ?_
        show Wx _ _ 68 _ _
        refine r_isub h dX7_isBox_68 ?_
        refine r_ishr h dX7_isBox_69 ?_
        refine r_iload_n 3 h dX7_isBox_70 rfl rfl ?_
        refine r_iload_n 1 h dX7_isBox_71 rfl rfl ?_
        refine r_iload h dX7_isBox_72 rfl ?_
        refine r_isub h dX7_isBox_74 ?_
        show Wx _ _ 75 _ _
        refine r_ishr h dX7_isBox_75 ?_
        refine cV3 h (mX7_isSplit _ _ _ (nI n2) _ _) kX7_isSplit lm_X7_123 (by decide) 23 (pl_23 _ _) rfl (Nat.le_of_ble_eq_true rfl) dX7_isBox_76 ?_
        refine r_if_eq 86 h dX7_isBox_79 (by decide) (fun c79 => ?_) (fun c79 => ?_)
        · refine r_iconst 0 h dX7_isBox_86 (by decide) ?_
          refine r_istore h dX7_isBox_87 (Nat.le_of_ble_eq_true rfl) ?_
          show Wx _ _ _ [_, _, _, _, _, _] _
          refine r_iincN h dX7_isBox_89 rfl ?_
          show Wx _ _ _ [_, _, _, _, _, _] _
          refine r_goto 50 h dX7_isBox_92 (by decide) ?_
          first | (rw [if_pos c58] at hq; exact hq) | (rw [if_neg c58, if_pos c79] at hq; exact hq) | (rw [if_neg c58, if_neg c79] at hq; exact hq)
        · refine r_iconst 1 h dX7_isBox_82 (by decide) ?_
          refine r_goto 87 h dX7_isBox_83 (by decide) ?_
          refine r_istore h dX7_isBox_87 (Nat.le_of_ble_eq_true rfl) ?_
          show Wx _ _ _ [_, _, _, _, _, _] _
          refine r_iincN h dX7_isBox_89 rfl ?_
          show Wx _ _ _ [_, _, _, _, _, _] _
          refine r_goto 50 h dX7_isBox_92 (by decide) ?_
          first | (rw [if_pos c58] at hq; exact hq) | (rw [if_neg c58, if_pos c79] at hq; exact hq) | (rw [if_neg c58, if_neg c79] at hq; exact hq)
  refine r_iload_n 1 h dX7_isBox_0 rfl rfl ?_
  refine r_i2l h dX7_isBox_1 ?_
  refine r_lconst 0 h dX7_isBox_2 (by decide) ?_
  refine r_ldc2 h lc_X7_121 dX7_isBox_3 ?_
  refine cS3 h (mX7_in _ _ _ _ _ _) kX7_in lm_X7_62 (by decide) (Nat.le_of_ble_eq_true rfl) dX7_isBox_6 ?_
  show Wx _ _ 9 _ _
  refine r_if_eq 42 h dX7_isBox_9 (by decide) (fun c9 => ?_) (fun c9 => ?_)
  · refine r_iconst 0 h dX7_isBox_42 (by decide) ?_
    exact r_zret h hr dX7_isBox_43 rfl ⟨by simp only [mbxI, c9, ite_true, ite_false, if_true, if_false, not_true, not_false_iff], rfl⟩
  · refine r_iload_n 2 h dX7_isBox_12 rfl rfl ?_
    refine r_i2l h dX7_isBox_13 ?_
    refine r_lconst 0 h dX7_isBox_14 (by decide) ?_
    refine r_iconst 1 h dX7_isBox_15 (by decide) ?_
    refine r_iload_n 1 h dX7_isBox_16 rfl rfl ?_
    show Wx _ _ 17 _ _
    refine r_ishl h dX7_isBox_17 ?_
    refine r_iconst 1 h dX7_isBox_18 (by decide) ?_
    refine r_isub h dX7_isBox_19 ?_
    refine r_i2l h dX7_isBox_20 ?_
    refine cS3 h (mX7_in _ _ _ _ _ _) kX7_in lm_X7_62 (by decide) (Nat.le_of_ble_eq_true rfl) dX7_isBox_21 ?_
    refine r_if_eq 42 h dX7_isBox_24 (by decide) (fun c24 => ?_) (fun c24 => ?_)
    · refine r_iconst 0 h dX7_isBox_42 (by decide) ?_
      exact r_zret h hr dX7_isBox_43 rfl ⟨by simp only [mbxI, c9, c24, ite_true, ite_false, if_true, if_false, not_true, not_false_iff], rfl⟩
    · refine r_iload_n 3 h dX7_isBox_27 rfl rfl ?_
      refine r_i2l h dX7_isBox_28 ?_
      refine r_lconst 0 h dX7_isBox_29 (by decide) ?_
      refine r_iconst 1 h dX7_isBox_30 (by decide) ?_
      refine r_iload_n 1 h dX7_isBox_31 rfl rfl ?_
      show Wx _ _ 32 _ _
      refine r_ishl h dX7_isBox_32 ?_
      refine r_iconst 1 h dX7_isBox_33 (by decide) ?_
      refine r_isub h dX7_isBox_34 ?_
      refine r_i2l h dX7_isBox_35 ?_
      refine cS3 h (mX7_in _ _ _ _ _ _) kX7_in lm_X7_62 (by decide) (Nat.le_of_ble_eq_true rfl) dX7_isBox_36 ?_
      refine r_if_ne 44 h dX7_isBox_39 (by decide) (fun c39 => ?_) (fun c39 => ?_)
      · refine r_iconst 1 h dX7_isBox_44 (by decide) ?_
        refine r_istore h dX7_isBox_45 (Nat.le_of_ble_eq_true rfl) ?_
        show Wx _ _ _ [_, _, _, _, _, _] _
        refine r_iconst 0 h dX7_isBox_47 (by decide) ?_
        refine r_istore h dX7_isBox_48 (Nat.le_of_ble_eq_true rfl) ?_
        show Wx _ _ _ [_, _, _, _, _, _] _
        obtain ⟨k, hk, eq⟩ := in5 c9
        subst eq
        exact loop k hk c9 c24 c39 rfl k 0 (by omega)
      · refine r_iconst 0 h dX7_isBox_42 (by decide) ?_
        exact r_zret h hr dX7_isBox_43 rfl ⟨by simp only [mbxI, c9, c24, c39, ite_true, ite_false, if_true, if_false, not_true, not_false_iff], rfl⟩
set_option maxRecDepth 100000 in
set_option maxHeartbeats 4000000 in
theorem mX7_middle (l : Launch) (w : Fx) (S : St) (q i : Int32) : Ct l yX7_middle cX7_middle 3 (some .int) 0 w [.int q, .int i] S (fun v S' => v = some (.int (mdI q i)) ∧ S' = S) := by
  refine Ct.of (by decide) (Nat.le_of_ble_eq_true rfl) (fun X h hr hl hw => ?_)
  subst hl hw
  have h : Ok X cX7_middle RX7 0 := h
  show Wx X S 0 [.int q, .int i, .null] []
  refine r_bipush 64 h dX7_middle_0 (by decide) ?_
  refine r_iload_n 0 h dX7_middle_2 rfl rfl ?_
  refine r_ishr h dX7_middle_3 ?_
  refine r_istore_n 2 h dX7_middle_4 rfl (Nat.le_of_ble_eq_true rfl) ?_
  show Wx _ _ _ [_, _, _] _
  refine r_iconst 2 h dX7_middle_5 (by decide) ?_
  show Wx _ _ 6 _ _
  refine r_iload_n 1 h dX7_middle_6 rfl rfl ?_
  refine r_imul h dX7_middle_7 ?_
  refine r_iload_n 2 h dX7_middle_8 rfl rfl ?_
  refine r_imul h dX7_middle_9 ?_
  refine r_iload_n 2 h dX7_middle_10 rfl rfl ?_
  refine r_iadd h dX7_middle_11 ?_
  show Wx _ _ 12 _ _
  refine r_iconst 1 h dX7_middle_12 (by decide) ?_
  refine r_isub h dX7_middle_13 ?_
  exact r_iret h hr dX7_middle_14 ⟨rfl, rfl⟩
set_option maxRecDepth 100000 in
set_option maxHeartbeats 4000000 in
theorem mX7_momentOf (l : Launch) (w : Fx) (S : St) (q i j : Int32) (a b : Nat) (ha : a ≤ 4) (hb : b ≤ 4) : Ct l yX7_momentOf cX7_momentOf 9 (some .long) 1 w [.ref (aD w 23), .int q, .int i, .int j, .int (nI a), .int (nI b)] S (fun v S' => v = some (.long (mmV (S.1 20) (S.1 21) (S.1 22) (S.1 23) q i j a b 40)) ∧ S' = S) := by
  refine Ct.of (by decide) (Nat.le_of_ble_eq_true rfl) (fun X h hr hl hw => ?_)
  subst hl hw
  have h : Ok X cX7_momentOf RX7 1 := h
  show Wx X S 0 [.ref (aD (xw X) 23), .int q, .int i, .int j, .int (nI a), .int (nI b), .null, .null, .null] []
  have loop : ∀ n p : Nat, p + n = 40 → Wx X (S) 6 [.ref (aD (xw X) 23), .int q, .int i, .int j, .int (nI a), .int (nI b), .long (mmV (S.1 20) (S.1 21) (S.1 22) (S.1 23) q i j a b p), .null, .int (nI p)] [] := by
    intro n
    induction n with
    | zero =>
      intro p hi
      have hi : p = 40 := by omega
      subst hi
      refine r_iload h dX7_momentOf_6 rfl ?_
      refine r_bipush 40 h dX7_momentOf_8 (by decide) ?_
      refine r_icmp_ge_t 88 h dX7_momentOf_10 (by decide) (bigT (a := 40) (by omega) (by omega)) ?_
      refine r_lload h dX7_momentOf_88 rfl ?_
      exact r_lret h hr dX7_momentOf_90 ⟨rfl, rfl⟩
    | succ n ih =>
      intro p hi
      have hq := ih (p + 1) (by omega)
      rw [mmV_s] at hq
      refine r_iload h dX7_momentOf_6 rfl ?_
      refine r_bipush 40 h dX7_momentOf_8 (by decide) ?_
      refine r_icmp_ge_f 88 h dX7_momentOf_10 (by decide) (bigF (a := 40) (by omega) (by omega)) ?_
      refine r_aload_n 0 h dX7_momentOf_13 rfl rfl ?_
      refine r_iload h dX7_momentOf_14 rfl ?_
      show Wx _ _ 16 _ _
      refine r_iload_n 1 h dX7_momentOf_16 rfl rfl ?_
      refine r_iload_n 2 h dX7_momentOf_17 rfl rfl ?_
      refine r_iload_n 3 h dX7_momentOf_18 rfl rfl ?_
      refine cV4 h (mX7_isIn _ _ _ p q i j (by omega)) kX7_isIn lm_X7_113 (by decide) 23 (pl_23 _ _) rfl (Nat.le_of_ble_eq_true rfl) dX7_momentOf_19 ?_
      refine r_if_eq 82 h dX7_momentOf_22 (by decide) (fun c22 => ?_) (fun c22 => ?_)
      · refine r_iincN h dX7_momentOf_82 rfl ?_
        show Wx _ _ _ [_, _, _, _, _, _, _, _, _] _
        refine r_goto 6 h dX7_momentOf_85 (by decide) ?_
        first | (rw [if_pos c22] at hq; exact hq) | (rw [if_neg c22] at hq; exact hq)
      · refine r_lload h dX7_momentOf_25 rfl ?_
        refine r_aload_n 0 h dX7_momentOf_27 rfl rfl ?_
        refine g23_3 h lf_X7_20 dX7_momentOf_28 ?_
        refine r_iload h dX7_momentOf_31 rfl ?_
        refine alN_27 h (by omega) dX7_momentOf_33 ?_
        show Wx _ _ 34 _ _
        refine r_i2l h dX7_momentOf_34 ?_
        refine r_iconst 2 h dX7_momentOf_35 (by decide) ?_
        refine r_aload_n 0 h dX7_momentOf_36 rfl rfl ?_
        refine g23_1 h lf_X7_13 dX7_momentOf_37 ?_
        refine r_iload h dX7_momentOf_40 rfl ?_
        refine alN_25 h (by omega) dX7_momentOf_42 ?_
        show Wx _ _ 43 _ _
        refine r_imul h dX7_momentOf_43 ?_
        refine r_iload_n 1 h dX7_momentOf_44 rfl rfl ?_
        refine r_iload_n 2 h dX7_momentOf_45 rfl rfl ?_
        refine cS2 h (mX7_middle _ _ _ q i) kX7_middle lm_X7_127 (by decide) (Nat.le_of_ble_eq_true rfl) dX7_momentOf_46 ?_
        refine r_isub h dX7_momentOf_49 ?_
        refine r_i2l h dX7_momentOf_50 ?_
        show Wx _ _ 51 _ _
        refine r_iload h dX7_momentOf_51 rfl ?_
        refine cS2 h (mX7_power _ _ _ _ a (by omega)) kX7_power lm_X7_97 (by decide) (Nat.le_of_ble_eq_true rfl) dX7_momentOf_53 ?_
        refine r_lmul h dX7_momentOf_56 ?_
        refine r_iconst 2 h dX7_momentOf_57 (by decide) ?_
        refine r_aload_n 0 h dX7_momentOf_58 rfl rfl ?_
        refine g23_2 h lf_X7_17 dX7_momentOf_59 ?_
        show Wx _ _ 62 _ _
        refine r_iload h dX7_momentOf_62 rfl ?_
        refine alN_26 h (by omega) dX7_momentOf_64 ?_
        refine r_imul h dX7_momentOf_65 ?_
        refine r_iload_n 1 h dX7_momentOf_66 rfl rfl ?_
        refine r_iload_n 3 h dX7_momentOf_67 rfl rfl ?_
        refine cS2 h (mX7_middle _ _ _ q j) kX7_middle lm_X7_127 (by decide) (Nat.le_of_ble_eq_true rfl) dX7_momentOf_68 ?_
        show Wx _ _ 71 _ _
        refine r_isub h dX7_momentOf_71 ?_
        refine r_i2l h dX7_momentOf_72 ?_
        refine r_iload h dX7_momentOf_73 rfl ?_
        refine cS2 h (mX7_power _ _ _ _ b (by omega)) kX7_power lm_X7_97 (by decide) (Nat.le_of_ble_eq_true rfl) dX7_momentOf_75 ?_
        refine r_lmul h dX7_momentOf_78 ?_
        refine r_ladd h dX7_momentOf_79 ?_
        show Wx _ _ 80 _ _
        refine r_lstore h dX7_momentOf_80 (Nat.le_of_ble_eq_true rfl) ?_
        show Wx _ _ _ [_, _, _, _, _, _, _, _, _] _
        refine r_iincN h dX7_momentOf_82 rfl ?_
        show Wx _ _ _ [_, _, _, _, _, _, _, _, _] _
        refine r_goto 6 h dX7_momentOf_85 (by decide) ?_
        first | (rw [if_pos c22] at hq; exact hq) | (rw [if_neg c22] at hq; exact hq)
  refine r_lconst 0 h dX7_momentOf_0 (by decide) ?_
  refine r_lstore h dX7_momentOf_1 (Nat.le_of_ble_eq_true rfl) ?_
  show Wx _ _ _ [_, _, _, _, _, _, _, _, _] _
  refine r_iconst 0 h dX7_momentOf_3 (by decide) ?_
  refine r_istore h dX7_momentOf_4 (Nat.le_of_ble_eq_true rfl) ?_
  show Wx _ _ _ [_, _, _, _, _, _, _, _, _] _
  exact loop 40 0 rfl
set_option maxRecDepth 100000 in
set_option maxHeartbeats 4000000 in
theorem mX7_box (l : Launch) (w : Fx) (S : St) (q i j z : Int32) : Ct l yX7_box cX7_box 5 (some .int) 4 w [.ref (aD w 23), .int q, .int i, .int j, .int z] S (fun v S' => v = some (.int (mboR S q i j z)) ∧ S' = S) := by
  refine Ct.of (by decide) (Nat.le_of_ble_eq_true rfl) (fun X h hr hl hw => ?_)
  subst hl hw
  have h : Ok X cX7_box RX7 4 := h
  show Wx X S 0 [.ref (aD (xw X) 23), .int q, .int i, .int j, .int z] []
  refine r_aload_n 0 h dX7_box_0 rfl rfl ?_
  refine r_iload_n 1 h dX7_box_1 rfl rfl ?_
  refine r_iload_n 2 h dX7_box_2 rfl rfl ?_
  refine r_iload_n 3 h dX7_box_3 rfl rfl ?_
  refine cV3 h (mX7_isBox _ _ _ q i j) kX7_isBox lm_X7_131 (by decide) 23 (pl_23 _ _) rfl (Nat.le_of_ble_eq_true rfl) dX7_box_4 ?_
  show Wx _ _ 7 _ _
  refine r_if_eq 23 h dX7_box_7 (by decide) (fun c7 => ?_) (fun c7 => ?_)
  · refine r_bipush (-2) h dX7_box_23 (by decide) ?_
    exact r_iret h hr dX7_box_25 ⟨by simp only [mboR, c7, ite_true, ite_false, if_true, if_false, not_true, not_false_iff], rfl⟩
  · refine r_iload h dX7_box_10 rfl ?_
    refine r_i2l h dX7_box_12 ?_
    refine r_lconst 0 h dX7_box_13 (by decide) ?_
    refine r_ldc2 h lc_X7_134 dX7_box_14 ?_
    refine cS3 h (mX7_in _ _ _ _ _ _) kX7_in lm_X7_62 (by decide) (Nat.le_of_ble_eq_true rfl) dX7_box_17 ?_
    show Wx _ _ 20 _ _
    refine r_if_ne 26 h dX7_box_20 (by decide) (fun c20 => ?_) (fun c20 => ?_)
    · refine r_iload h dX7_box_26 rfl ?_
      refine r_if_ne 41 h dX7_box_28 (by decide) (fun c28 => ?_) (fun c28 => ?_)
      · refine r_iload h dX7_box_41 rfl ?_
        refine r_iconst 1 h dX7_box_43 (by decide) ?_
        refine r_icmp_ne 58 h dX7_box_44 (by decide) (fun c44 => ?_) (fun c44 => ?_)
        · refine r_aload_n 0 h dX7_box_58 rfl rfl ?_
          refine r_iload_n 1 h dX7_box_59 rfl rfl ?_
          refine r_iload_n 2 h dX7_box_60 rfl rfl ?_
          refine r_iload_n 3 h dX7_box_61 rfl rfl ?_
          refine cV3 h (mX7_isSplit _ _ _ q i j) kX7_isSplit lm_X7_123 (by decide) 23 (pl_23 _ _) rfl (Nat.le_of_ble_eq_true rfl) dX7_box_62 ?_
          show Wx _ _ 65 _ _
          refine r_if_eq 72 h dX7_box_65 (by decide) (fun c65 => ?_) (fun c65 => ?_)
          · refine r_iconst 0 h dX7_box_72 (by decide) ?_
            exact r_iret h hr dX7_box_73 (by refine ⟨?_, rfl⟩; rw [mboR, if_neg c7, if_neg c20]; first | (rw [if_pos c28]; done) | (rw [if_neg c28, if_pos c44]; done) | (rw [if_neg c28, if_neg c44]; rcases msp_01 (hr := S.1 20) (px := S.1 21) (py := S.1 22) (mo := S.1 27 0) (l := q) (i := i) (j := j) with z | z <;> first | (rw [z]; done) | exact absurd z c65 | (rw [z] at c65; exact absurd c65 (by decide))))
          · refine r_iconst 1 h dX7_box_68 (by decide) ?_
            refine r_goto 73 h dX7_box_69 (by decide) ?_
            exact r_iret h hr dX7_box_73 (by refine ⟨?_, rfl⟩; rw [mboR, if_neg c7, if_neg c20]; first | (rw [if_pos c28]; done) | (rw [if_neg c28, if_pos c44]; done) | (rw [if_neg c28, if_neg c44]; rcases msp_01 (hr := S.1 20) (px := S.1 21) (py := S.1 22) (mo := S.1 27 0) (l := q) (i := i) (j := j) with z | z <;> first | (rw [z]; done) | exact absurd z c65 | (rw [z] at c65; exact absurd c65 (by decide))))
        · refine r_aload_n 0 h dX7_box_47 rfl rfl ?_
          refine r_iload_n 1 h dX7_box_48 rfl rfl ?_
          refine r_iload_n 2 h dX7_box_49 rfl rfl ?_
          refine r_iload_n 3 h dX7_box_50 rfl rfl ?_
          refine cV3 h (mX7_bulk _ _ _ q i j) kX7_bulk lm_X7_136 (by decide) 23 (pl_23 _ _) rfl (Nat.le_of_ble_eq_true rfl) dX7_box_51 ?_
          show Wx _ _ 54 _ _
          refine r_l2i h dX7_box_54 ?_
          refine r_goto 73 h dX7_box_55 (by decide) ?_
          exact r_iret h hr dX7_box_73 (by refine ⟨?_, rfl⟩; rw [mboR, if_neg c7, if_neg c20]; first | (rw [if_pos c28]; done) | (rw [if_neg c28, if_pos c44]; done) | (rw [if_neg c28, if_neg c44]; rcases msp_01 (hr := S.1 20) (px := S.1 21) (py := S.1 22) (mo := S.1 27 0) (l := q) (i := i) (j := j) with z | z <;> first | (rw [z]; done) | exact absurd z c65 | (rw [z] at c65; exact absurd c65 (by decide))))
      · refine r_aload_n 0 h dX7_box_31 rfl rfl ?_
        refine r_iload_n 1 h dX7_box_32 rfl rfl ?_
        refine r_iload_n 2 h dX7_box_33 rfl rfl ?_
        refine r_iload_n 3 h dX7_box_34 rfl rfl ?_
        refine cV3 h (mX7_pointsIn _ _ _ q i j) kX7_pointsIn lm_X7_117 (by decide) 23 (pl_23 _ _) rfl (Nat.le_of_ble_eq_true rfl) dX7_box_35 ?_
        show Wx _ _ 38 _ _
        refine r_goto 73 h dX7_box_38 (by decide) ?_
        exact r_iret h hr dX7_box_73 (by refine ⟨?_, rfl⟩; rw [mboR, if_neg c7, if_neg c20]; first | (rw [if_pos c28]; done) | (rw [if_neg c28, if_pos c44]; done) | (rw [if_neg c28, if_neg c44]; rcases msp_01 (hr := S.1 20) (px := S.1 21) (py := S.1 22) (mo := S.1 27 0) (l := q) (i := i) (j := j) with z | z <;> first | (rw [z]; done) | exact absurd z c65 | (rw [z] at c65; exact absurd c65 (by decide))))
    · refine r_bipush (-2) h dX7_box_23 (by decide) ?_
      exact r_iret h hr dX7_box_25 ⟨by simp only [mboR, c7, c20, ite_true, ite_false, if_true, if_false, not_true, not_false_iff], rfl⟩
set_option maxRecDepth 100000 in
set_option maxHeartbeats 4000000 in
theorem mX7_moment (l : Launch) (w : Fx) (S : St) (q i j a b : Int32) : Ct l yX7_moment cX7_moment 6 (some .long) 4 w [.ref (aD w 23), .int q, .int i, .int j, .int a, .int b] S (fun v S' => v = some (.long (mmoR S q i j a b)) ∧ S' = S) := by
  refine Ct.of (by decide) (Nat.le_of_ble_eq_true rfl) (fun X h hr hl hw => ?_)
  subst hl hw
  have h : Ok X cX7_moment RX7 4 := h
  show Wx X S 0 [.ref (aD (xw X) 23), .int q, .int i, .int j, .int a, .int b] []
  refine r_aload_n 0 h dX7_moment_0 rfl rfl ?_
  refine r_iload_n 1 h dX7_moment_1 rfl rfl ?_
  refine r_iload_n 2 h dX7_moment_2 rfl rfl ?_
  refine r_iload_n 3 h dX7_moment_3 rfl rfl ?_
  refine cV3 h (mX7_isBox _ _ _ q i j) kX7_isBox lm_X7_131 (by decide) 23 (pl_23 _ _) rfl (Nat.le_of_ble_eq_true rfl) dX7_moment_4 ?_
  show Wx _ _ 7 _ _
  refine r_if_eq 34 h dX7_moment_7 (by decide) (fun c7 => ?_) (fun c7 => ?_)
  · refine r_ldc2 h lc_X7_111 dX7_moment_34 ?_
    exact r_lret h hr dX7_moment_37 (by refine ⟨?_, rfl⟩; first | (rw [mmoR, if_pos c7]; done) | (rw [mmoR, if_neg c7, if_pos c17]; done) | (rw [mmoR, if_neg c7, if_neg c17, ncl (by omega), ncl (by omega)]; done))
  · refine r_iload h dX7_moment_10 rfl ?_
    refine r_iload h dX7_moment_12 rfl ?_
    refine cS2 h (mX7_isPair _ _ _ a b) kX7_isPair lm_X7_88 (by decide) (Nat.le_of_ble_eq_true rfl) dX7_moment_14 ?_
    refine r_if_eq 34 h dX7_moment_17 (by decide) (fun c17 => ?_) (fun c17 => ?_)
    · refine r_ldc2 h lc_X7_111 dX7_moment_34 ?_
      exact r_lret h hr dX7_moment_37 (by refine ⟨?_, rfl⟩; first | (rw [mmoR, if_pos c7]; done) | (rw [mmoR, if_neg c7, if_pos c17]; done) | (rw [mmoR, if_neg c7, if_neg c17, ncl (by omega), ncl (by omega)]; done))
    · obtain ⟨u, t, hut, rfl, rfl⟩ := mpr_at c17
      refine r_aload_n 0 h dX7_moment_20 rfl rfl ?_
      refine r_iload_n 1 h dX7_moment_21 rfl rfl ?_
      refine r_iload_n 2 h dX7_moment_22 rfl rfl ?_
      refine r_iload_n 3 h dX7_moment_23 rfl rfl ?_
      refine r_iload h dX7_moment_24 rfl ?_
      show Wx _ _ 26 _ _
      refine r_iload h dX7_moment_26 rfl ?_
      refine cV5 h (mX7_momentOf _ _ _ q i j u t (by omega) (by omega)) kX7_momentOf lm_X7_139 (by decide) 23 (pl_23 _ _) rfl (Nat.le_of_ble_eq_true rfl) dX7_moment_28 ?_
      refine r_goto 37 h dX7_moment_31 (by decide) ?_
      exact r_lret h hr dX7_moment_37 (by refine ⟨?_, rfl⟩; first | (rw [mmoR, if_pos c7]; done) | (rw [mmoR, if_neg c7, if_pos c17]; done) | (rw [mmoR, if_neg c7, if_neg c17, ncl (by omega), ncl (by omega)]; done))
set_option maxRecDepth 100000 in
set_option maxHeartbeats 4000000 in
theorem mX7_leaf (l : Launch) (w : Fx) (S : St) (x y : Int32) : Ct l yX7_leaf cX7_leaf 4 (some .int) 3 w [.ref (aD w 23), .int x, .int y] S (fun v S' => v = some (.int (mleR S x y)) ∧ S' = S) := by
  refine Ct.of (by decide) (Nat.le_of_ble_eq_true rfl) (fun X h hr hl hw => ?_)
  subst hl hw
  have h : Ok X cX7_leaf RX7 3 := h
  show Wx X S 0 [.ref (aD (xw X) 23), .int x, .int y, .null] []
  have loop : ¬ mplI x y = 0 → ∀ n l : Nat, l + n = 5 → mlfI (S.1 20) (S.1 21) (S.1 22) (S.1 27 0) x y n l = mlfI (S.1 20) (S.1 21) (S.1 22) (S.1 27 0) x y 5 0 → Wx X S 13 [.ref (aD (xw X) 23), .int x, .int y, .int (nI l)] [] := by
    intro h1 n
    induction n with
    | zero =>
      intro l hl he
      have hl : l = 5 := by omega
      subst hl
      refine r_aload_n 0 h dX7_leaf_13 rfl rfl ?_
      refine r_iload_n 3 h dX7_leaf_14 rfl rfl ?_
      refine r_iload_n 1 h dX7_leaf_15 rfl rfl ?_
      refine r_bipush 6 h dX7_leaf_16 (by decide) ?_
      refine r_iload_n 3 h dX7_leaf_18 rfl rfl ?_
      show Wx _ _ 19 _ _
      refine r_isub h dX7_leaf_19 ?_
      refine r_ishr h dX7_leaf_20 ?_
      refine r_iload_n 2 h dX7_leaf_21 rfl rfl ?_
      refine r_bipush 6 h dX7_leaf_22 (by decide) ?_
      refine r_iload_n 3 h dX7_leaf_24 rfl rfl ?_
      refine r_isub h dX7_leaf_25 ?_
      show Wx _ _ 26 _ _
      refine r_ishr h dX7_leaf_26 ?_
      refine cV3 h (mX7_isSplit _ _ _ (nI 5) _ _) kX7_isSplit lm_X7_123 (by decide) 23 (pl_23 _ _) rfl (Nat.le_of_ble_eq_true rfl) dX7_leaf_27 ?_
      refine r_if_eq_t 39 h dX7_leaf_30 (by decide) msp_5 ?_
      refine r_iload_n 3 h dX7_leaf_39 rfl rfl ?_
      exact r_iret h hr dX7_leaf_40 ⟨by rw [mleR, if_neg h1, ← he]; rfl, rfl⟩
    | succ n ih =>
      intro l hl he
      rw [mlfI_s (n := n) (l := l)] at he
      refine r_aload_n 0 h dX7_leaf_13 rfl rfl ?_
      refine r_iload_n 3 h dX7_leaf_14 rfl rfl ?_
      refine r_iload_n 1 h dX7_leaf_15 rfl rfl ?_
      refine r_bipush 6 h dX7_leaf_16 (by decide) ?_
      refine r_iload_n 3 h dX7_leaf_18 rfl rfl ?_
      show Wx _ _ 19 _ _
      refine r_isub h dX7_leaf_19 ?_
      refine r_ishr h dX7_leaf_20 ?_
      refine r_iload_n 2 h dX7_leaf_21 rfl rfl ?_
      refine r_bipush 6 h dX7_leaf_22 (by decide) ?_
      refine r_iload_n 3 h dX7_leaf_24 rfl rfl ?_
      refine r_isub h dX7_leaf_25 ?_
      show Wx _ _ 26 _ _
      refine r_ishr h dX7_leaf_26 ?_
      refine cV3 h (mX7_isSplit _ _ _ (nI l) _ _) kX7_isSplit lm_X7_123 (by decide) 23 (pl_23 _ _) rfl (Nat.le_of_ble_eq_true rfl) dX7_leaf_27 ?_
      refine r_if_eq 39 h dX7_leaf_30 (by decide) (fun c30 => ?_) (fun c30 => ?_)
      · refine r_iload_n 3 h dX7_leaf_39 rfl rfl ?_
        exact r_iret h hr dX7_leaf_40 ⟨by rw [mleR, if_neg h1, ← he]; exact congrArg _ (congrArg _ (if_pos c30).symm), rfl⟩
      · refine r_iincN h dX7_leaf_33 rfl ?_
        show Wx _ _ _ [_, _, _, _] _
        refine r_goto 13 h dX7_leaf_36 (by decide) ?_
        exact ih (l + 1) (by omega) (by rw [← he]; exact (if_neg c30).symm)
  refine r_iload_n 1 h dX7_leaf_0 rfl rfl ?_
  refine r_iload_n 2 h dX7_leaf_1 rfl rfl ?_
  refine cS2 h (mX7_isPlace _ _ _ x y) kX7_isPlace lm_X7_68 (by decide) (Nat.le_of_ble_eq_true rfl) dX7_leaf_2 ?_
  refine r_if_ne 11 h dX7_leaf_5 (by decide) (fun c5 => ?_) (fun c5 => ?_)
  · refine r_iconst 0 h dX7_leaf_11 (by decide) ?_
    refine r_istore_n 3 h dX7_leaf_12 rfl (Nat.le_of_ble_eq_true rfl) ?_
    show Wx _ _ _ [_, _, _, _] _
    exact loop c5 5 0 rfl rfl
  · refine r_bipush (-2) h dX7_leaf_8 (by decide) ?_
    exact r_iret h hr dX7_leaf_10 ⟨by simp only [mleR, c5, ite_true, ite_false, if_true, if_false, not_true, not_false_iff], rfl⟩
set_option maxRecDepth 100000 in
set_option maxHeartbeats 4000000 in
theorem mX7_choose (l : Launch) (w : Fx) (S : St) (a u : Nat) (hu : u ≤ 4) : Ct l yX7_choose cX7_choose 5 (some .long) 0 w [.int (nI a), .int (nI u)] S (fun v S' => v = some (.long (chL a u)) ∧ S' = S) := by
  refine Ct.of (by decide) (Nat.le_of_ble_eq_true rfl) (fun X h hr hl hw => ?_)
  subst hl hw
  have h : Ok X cX7_choose RX7 0 := h
  show Wx X S 0 [.int (nI a), .int (nI u), .null, .null, .null] []
  have loop : ∀ n k : Nat, k + n = u → Wx X (S) 5 [.int (nI a), .int (nI u), .long (chL a k), .null, .int (nI k)] [] := by
    intro n
    induction n with
    | zero =>
      intro k hi
      have hi : k = u := by omega
      subst hi
      refine r_iload h dX7_choose_5 rfl ?_
      refine r_iload_n 1 h dX7_choose_7 rfl rfl ?_
      refine r_icmp_ge_t 31 h dX7_choose_8 (by decide) (bigT (by omega) (by omega)) ?_
      refine r_lload_n 2 h dX7_choose_31 rfl rfl ?_
      exact r_lret h hr dX7_choose_32 ⟨rfl, rfl⟩
    | succ n ih =>
      intro k hi
      have hq := ih (k + 1) (by omega)
      refine r_iload h dX7_choose_5 rfl ?_
      refine r_iload_n 1 h dX7_choose_7 rfl rfl ?_
      refine r_icmp_ge_f 31 h dX7_choose_8 (by decide) (bigF (by omega) (by omega)) ?_
      refine r_lload_n 2 h dX7_choose_11 rfl rfl ?_
      refine r_iload_n 0 h dX7_choose_12 rfl rfl ?_
      show Wx _ _ 13 _ _
      refine r_iload h dX7_choose_13 rfl ?_
      refine r_isub h dX7_choose_15 ?_
      refine r_i2l h dX7_choose_16 ?_
      refine r_lmul h dX7_choose_17 ?_
      refine r_iload h dX7_choose_18 rfl ?_
      refine r_iconst 1 h dX7_choose_20 (by decide) ?_
      show Wx _ _ 21 _ _
      refine r_iadd h dX7_choose_21 ?_
      refine r_i2l h dX7_choose_22 ?_
      refine r_ldiv h dX7_choose_23 (ch_ne (by omega)) ?_
      refine r_lstore_n 2 h dX7_choose_24 rfl (Nat.le_of_ble_eq_true rfl) ?_
      show Wx _ _ _ [_, _, _, _, _] _
      refine r_iincN h dX7_choose_25 rfl ?_
      show Wx _ _ _ [_, _, _, _, _] _
      refine r_goto 5 h dX7_choose_28 (by decide) ?_
      exact hq
  refine r_lconst 1 h dX7_choose_0 (by decide) ?_
  refine r_lstore_n 2 h dX7_choose_1 rfl (Nat.le_of_ble_eq_true rfl) ?_
  show Wx _ _ _ [_, _, _, _, _] _
  refine r_iconst 0 h dX7_choose_2 (by decide) ?_
  refine r_istore h dX7_choose_3 (Nat.le_of_ble_eq_true rfl) ?_
  show Wx _ _ _ [_, _, _, _, _] _
  exact loop u 0 (by omega)
set_option maxRecDepth 100000 in
set_option maxHeartbeats 4000000 in
theorem mX7_size (l : Launch) (w : Fx) (S : St) (x : Int64) : Ct l yX7_size cX7_size 2 (some .long) 0 w [.long x] S (fun v S' => v = some (.long (szL x)) ∧ S' = S) := by
  refine Ct.of (by decide) (Nat.le_of_ble_eq_true rfl) (fun X h hr hl hw => ?_)
  subst hl hw
  have h : Ok X cX7_size RX7 0 := h
  show Wx X S 0 [.long x, .null] []
  refine r_lload_n 0 h dX7_size_0 rfl rfl ?_
  refine r_lconst 0 h dX7_size_1 (by decide) ?_
  refine r_lc_ge 11 h dX7_size_2 dX7_size_3 (by decide) (fun c2 => ?_) (fun c2 => ?_)
  · refine r_lload_n 0 h dX7_size_11 rfl rfl ?_
    exact r_lret h hr dX7_size_12 ⟨by simp only [szL, c2, ite_true, ite_false, if_true, if_false, not_true, not_false_iff], rfl⟩
  · refine r_lload_n 0 h dX7_size_6 rfl rfl ?_
    refine r_lneg h dX7_size_7 ?_
    refine r_goto 12 h dX7_size_8 (by decide) ?_
    exact r_lret h hr dX7_size_12 ⟨by simp only [szL, c2, ite_true, ite_false, if_true, if_false, not_true, not_false_iff], rfl⟩
