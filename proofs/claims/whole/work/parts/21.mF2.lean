def plcI (x y : Int32) : Int32 := if x < 0 then 0 else if 64 ≤ x then 0 else if y < 0 then 0 else if 64 ≤ y then 0 else 1
def wgtI (v : Int32) : Int32 := if v < -1000 then 0 else if 1000 < v then 0 else 1
def pacI (v : Int32) : Int32 := if v < -32 then 0 else if 31 < v then 0 else 1
def dstI (v : Int32) : Int32 := if v < 1 then 0 else if 4 < v then 0 else 1
def pwrI (a b : Int32) : Int32 := if a < 0 then 0 else if 4 < a then 0 else if b < 0 then 0 else if 4 - a < b then 0 else 1
set_option maxRecDepth 100000 in
set_option maxHeartbeats 4000000 in
theorem mX6_isPlace (l : Launch) (w : Fx) (S : St) (x y : Int32) : Ct l yX6_isPlace cX6_isPlace 2 (some .boolean) 0 w [.int x, .int y] S (fun v S' => v = some (.int (plcI x y)) ∧ S' = S) := by
  refine Ct.of (by decide) (Nat.le_of_ble_eq_true rfl) (fun X h hr hl hw => ?_)
  subst hl hw
  have h : Ok X cX6_isPlace RX6 0 := h
  show Wx X S 0 [.int x, .int y] []
  refine r_iload_n 0 h dX6_isPlace_0 rfl rfl ?_
  refine r_if_lt 24 h dX6_isPlace_1 (by decide) (fun c1 => ?_) (fun c1 => ?_)
  · refine r_iconst 0 h dX6_isPlace_24 (by decide) ?_
    exact r_zret h hr dX6_isPlace_25 rfl ⟨by simp only [plcI, c1, ite_true, ite_false, if_true, if_false, not_true, not_false_iff], rfl⟩
  · refine r_iload_n 0 h dX6_isPlace_4 rfl rfl ?_
    refine r_bipush 64 h dX6_isPlace_5 (by decide) ?_
    refine r_icmp_ge 24 h dX6_isPlace_7 (by decide) (fun c7 => ?_) (fun c7 => ?_)
    · refine r_iconst 0 h dX6_isPlace_24 (by decide) ?_
      exact r_zret h hr dX6_isPlace_25 rfl ⟨by simp only [plcI, c1, c7, ite_true, ite_false, if_true, if_false, not_true, not_false_iff], rfl⟩
    · refine r_iload_n 1 h dX6_isPlace_10 rfl rfl ?_
      refine r_if_lt 24 h dX6_isPlace_11 (by decide) (fun c11 => ?_) (fun c11 => ?_)
      · refine r_iconst 0 h dX6_isPlace_24 (by decide) ?_
        exact r_zret h hr dX6_isPlace_25 rfl ⟨by simp only [plcI, c1, c7, c11, ite_true, ite_false, if_true, if_false, not_true, not_false_iff], rfl⟩
      · refine r_iload_n 1 h dX6_isPlace_14 rfl rfl ?_
        refine r_bipush 64 h dX6_isPlace_15 (by decide) ?_
        refine r_icmp_ge 24 h dX6_isPlace_17 (by decide) (fun c17 => ?_) (fun c17 => ?_)
        · refine r_iconst 0 h dX6_isPlace_24 (by decide) ?_
          exact r_zret h hr dX6_isPlace_25 rfl ⟨by simp only [plcI, c1, c7, c11, c17, ite_true, ite_false, if_true, if_false, not_true, not_false_iff], rfl⟩
        · refine r_iconst 1 h dX6_isPlace_20 (by decide) ?_
          refine r_goto 25 h dX6_isPlace_21 (by decide) ?_
          exact r_zret h hr dX6_isPlace_25 rfl ⟨by simp only [plcI, c1, c7, c11, c17, ite_true, ite_false, if_true, if_false, not_true, not_false_iff], rfl⟩
set_option maxRecDepth 100000 in
set_option maxHeartbeats 4000000 in
theorem mX6_isWeight (l : Launch) (w : Fx) (S : St) (q : Int32) : Ct l yX6_isWeight cX6_isWeight 1 (some .boolean) 0 w [.int q] S (fun v S' => v = some (.int (wgtI q)) ∧ S' = S) := by
  refine Ct.of (by decide) (Nat.le_of_ble_eq_true rfl) (fun X h hr hl hw => ?_)
  subst hl hw
  have h : Ok X cX6_isWeight RX6 0 := h
  show Wx X S 0 [.int q] []
  refine r_iload_n 0 h dX6_isWeight_0 rfl rfl ?_
  refine r_sipush (-1000) h dX6_isWeight_1 (by decide) ?_
  refine r_icmp_lt 18 h dX6_isWeight_4 (by decide) (fun c4 => ?_) (fun c4 => ?_)
  · refine r_iconst 0 h dX6_isWeight_18 (by decide) ?_
    exact r_zret h hr dX6_isWeight_19 rfl ⟨by simp only [wgtI, c4, ite_true, ite_false, if_true, if_false, not_true, not_false_iff], rfl⟩
  · refine r_iload_n 0 h dX6_isWeight_7 rfl rfl ?_
    refine r_sipush 1000 h dX6_isWeight_8 (by decide) ?_
    refine r_icmp_gt 18 h dX6_isWeight_11 (by decide) (fun c11 => ?_) (fun c11 => ?_)
    · refine r_iconst 0 h dX6_isWeight_18 (by decide) ?_
      exact r_zret h hr dX6_isWeight_19 rfl ⟨by simp only [wgtI, c4, c11, ite_true, ite_false, if_true, if_false, not_true, not_false_iff], rfl⟩
    · refine r_iconst 1 h dX6_isWeight_14 (by decide) ?_
      refine r_goto 19 h dX6_isWeight_15 (by decide) ?_
      exact r_zret h hr dX6_isWeight_19 rfl ⟨by simp only [wgtI, c4, c11, ite_true, ite_false, if_true, if_false, not_true, not_false_iff], rfl⟩
set_option maxRecDepth 100000 in
set_option maxHeartbeats 4000000 in
theorem mX6_isPaceNumber (l : Launch) (w : Fx) (S : St) (q : Int32) : Ct l yX6_isPaceNumber cX6_isPaceNumber 1 (some .boolean) 0 w [.int q] S (fun v S' => v = some (.int (pacI q)) ∧ S' = S) := by
  refine Ct.of (by decide) (Nat.le_of_ble_eq_true rfl) (fun X h hr hl hw => ?_)
  subst hl hw
  have h : Ok X cX6_isPaceNumber RX6 0 := h
  show Wx X S 0 [.int q] []
  refine r_iload_n 0 h dX6_isPaceNumber_0 rfl rfl ?_
  refine r_bipush (-32) h dX6_isPaceNumber_1 (by decide) ?_
  refine r_icmp_lt 16 h dX6_isPaceNumber_3 (by decide) (fun c3 => ?_) (fun c3 => ?_)
  · refine r_iconst 0 h dX6_isPaceNumber_16 (by decide) ?_
    exact r_zret h hr dX6_isPaceNumber_17 rfl ⟨by simp only [pacI, c3, ite_true, ite_false, if_true, if_false, not_true, not_false_iff], rfl⟩
  · refine r_iload_n 0 h dX6_isPaceNumber_6 rfl rfl ?_
    refine r_bipush 31 h dX6_isPaceNumber_7 (by decide) ?_
    refine r_icmp_gt 16 h dX6_isPaceNumber_9 (by decide) (fun c9 => ?_) (fun c9 => ?_)
    · refine r_iconst 0 h dX6_isPaceNumber_16 (by decide) ?_
      exact r_zret h hr dX6_isPaceNumber_17 rfl ⟨by simp only [pacI, c3, c9, ite_true, ite_false, if_true, if_false, not_true, not_false_iff], rfl⟩
    · refine r_iconst 1 h dX6_isPaceNumber_12 (by decide) ?_
      refine r_goto 17 h dX6_isPaceNumber_13 (by decide) ?_
      exact r_zret h hr dX6_isPaceNumber_17 rfl ⟨by simp only [pacI, c3, c9, ite_true, ite_false, if_true, if_false, not_true, not_false_iff], rfl⟩
set_option maxRecDepth 100000 in
set_option maxHeartbeats 4000000 in
theorem mX6_isDistance (l : Launch) (w : Fx) (S : St) (q : Int32) : Ct l yX6_isDistance cX6_isDistance 1 (some .boolean) 0 w [.int q] S (fun v S' => v = some (.int (dstI q)) ∧ S' = S) := by
  refine Ct.of (by decide) (Nat.le_of_ble_eq_true rfl) (fun X h hr hl hw => ?_)
  subst hl hw
  have h : Ok X cX6_isDistance RX6 0 := h
  show Wx X S 0 [.int q] []
  refine r_iload_n 0 h dX6_isDistance_0 rfl rfl ?_
  refine r_iconst 1 h dX6_isDistance_1 (by decide) ?_
  refine r_icmp_lt 14 h dX6_isDistance_2 (by decide) (fun c2 => ?_) (fun c2 => ?_)
  · refine r_iconst 0 h dX6_isDistance_14 (by decide) ?_
    exact r_zret h hr dX6_isDistance_15 rfl ⟨by simp only [dstI, c2, ite_true, ite_false, if_true, if_false, not_true, not_false_iff], rfl⟩
  · refine r_iload_n 0 h dX6_isDistance_5 rfl rfl ?_
    refine r_iconst 4 h dX6_isDistance_6 (by decide) ?_
    refine r_icmp_gt 14 h dX6_isDistance_7 (by decide) (fun c7 => ?_) (fun c7 => ?_)
    · refine r_iconst 0 h dX6_isDistance_14 (by decide) ?_
      exact r_zret h hr dX6_isDistance_15 rfl ⟨by simp only [dstI, c2, c7, ite_true, ite_false, if_true, if_false, not_true, not_false_iff], rfl⟩
    · refine r_iconst 1 h dX6_isDistance_10 (by decide) ?_
      refine r_goto 15 h dX6_isDistance_11 (by decide) ?_
      exact r_zret h hr dX6_isDistance_15 rfl ⟨by simp only [dstI, c2, c7, ite_true, ite_false, if_true, if_false, not_true, not_false_iff], rfl⟩
set_option maxRecDepth 100000 in
set_option maxHeartbeats 4000000 in
theorem mX6_isPowers (l : Launch) (w : Fx) (S : St) (a b : Int32) : Ct l yX6_isPowers cX6_isPowers 2 (some .boolean) 0 w [.int a, .int b] S (fun v S' => v = some (.int (pwrI a b)) ∧ S' = S) := by
  refine Ct.of (by decide) (Nat.le_of_ble_eq_true rfl) (fun X h hr hl hw => ?_)
  subst hl hw
  have h : Ok X cX6_isPowers RX6 0 := h
  show Wx X S 0 [.int a, .int b] []
  refine r_iload_n 0 h dX6_isPowers_0 rfl rfl ?_
  refine r_if_lt 24 h dX6_isPowers_1 (by decide) (fun c1 => ?_) (fun c1 => ?_)
  · refine r_iconst 0 h dX6_isPowers_24 (by decide) ?_
    exact r_zret h hr dX6_isPowers_25 rfl ⟨by simp only [pwrI, c1, ite_true, ite_false, if_true, if_false, not_true, not_false_iff], rfl⟩
  · refine r_iload_n 0 h dX6_isPowers_4 rfl rfl ?_
    refine r_iconst 4 h dX6_isPowers_5 (by decide) ?_
    refine r_icmp_gt 24 h dX6_isPowers_6 (by decide) (fun c6 => ?_) (fun c6 => ?_)
    · refine r_iconst 0 h dX6_isPowers_24 (by decide) ?_
      exact r_zret h hr dX6_isPowers_25 rfl ⟨by simp only [pwrI, c1, c6, ite_true, ite_false, if_true, if_false, not_true, not_false_iff], rfl⟩
    · refine r_iload_n 1 h dX6_isPowers_9 rfl rfl ?_
      refine r_if_lt 24 h dX6_isPowers_10 (by decide) (fun c10 => ?_) (fun c10 => ?_)
      · refine r_iconst 0 h dX6_isPowers_24 (by decide) ?_
        exact r_zret h hr dX6_isPowers_25 rfl ⟨by simp only [pwrI, c1, c6, c10, ite_true, ite_false, if_true, if_false, not_true, not_false_iff], rfl⟩
      · refine r_iload_n 1 h dX6_isPowers_13 rfl rfl ?_
        refine r_iconst 4 h dX6_isPowers_14 (by decide) ?_
        refine r_iload_n 0 h dX6_isPowers_15 rfl rfl ?_
        refine r_isub h dX6_isPowers_16 ?_
        refine r_icmp_gt 24 h dX6_isPowers_17 (by decide) (fun c17 => ?_) (fun c17 => ?_)
        · refine r_iconst 0 h dX6_isPowers_24 (by decide) ?_
          exact r_zret h hr dX6_isPowers_25 rfl ⟨by simp only [pwrI, c1, c6, c10, c17, ite_true, ite_false, if_true, if_false, not_true, not_false_iff], rfl⟩
        · refine r_iconst 1 h dX6_isPowers_20 (by decide) ?_
          refine r_goto 25 h dX6_isPowers_21 (by decide) ?_
          exact r_zret h hr dX6_isPowers_25 rfl ⟨by simp only [pwrI, c1, c6, c10, c17, ite_true, ite_false, if_true, if_false, not_true, not_false_iff], rfl⟩
theorem plc_at {x y : Int32} (h : ¬ plcI x y = 0) : ∃ a b : Nat, a < 64 ∧ b < 64 ∧ x = nI a ∧ y = nI b := by
  unfold plcI at h
  by_cases h1 : x < 0
  · rw [if_pos h1] at h; exact absurd rfl h
  rw [if_neg h1] at h
  by_cases h2 : (64 : Int32) ≤ x
  · rw [if_pos h2] at h; exact absurd rfl h
  rw [if_neg h2] at h
  by_cases h3 : y < 0
  · rw [if_pos h3] at h; exact absurd rfl h
  rw [if_neg h3] at h
  by_cases h4 : (64 : Int32) ≤ y
  · rw [if_pos h4] at h; exact absurd rfl h
  obtain ⟨a, ha, rfl⟩ := vp_in_of (ixN (N := 64) (by decide) h1 h2) (by decide)
  obtain ⟨b, hb, rfl⟩ := vp_in_of (ixN (N := 64) (by decide) h3 h4) (by decide)
  exact ⟨a, b, ha, hb, rfl, rfl⟩
theorem dst_at {t : Int32} (h : ¬ dstI t = 0) : ∃ a : Nat, 1 ≤ a ∧ a ≤ 4 ∧ t = nI a := by
  unfold dstI at h
  by_cases h1 : t < 1
  · rw [if_pos h1] at h; exact absurd rfl h
  rw [if_neg h1] at h
  by_cases h2 : (4 : Int32) < t
  · rw [if_pos h2] at h; exact absurd rfl h
  have h0 : ¬ t < 0 := fun z => h1 (Int32.lt_trans z (by decide))
  obtain ⟨a, ha, rfl⟩ := nI_of2 (M := 4) (n := 4) (by decide) h0 (Int32.not_lt.mp h2)
  refine ⟨a, ?_, ha, rfl⟩
  rcases Nat.eq_zero_or_pos a with z | z
  · subst z; exact absurd (by decide) h1
  · exact z
theorem pwr_at {a b : Int32} (h : ¬ pwrI a b = 0) : ∃ i j : Nat, i + j ≤ 4 ∧ a = nI i ∧ b = nI j := by
  unfold pwrI at h
  by_cases h1 : a < 0
  · rw [if_pos h1] at h; exact absurd rfl h
  rw [if_neg h1] at h
  by_cases h2 : (4 : Int32) < a
  · rw [if_pos h2] at h; exact absurd rfl h
  rw [if_neg h2] at h
  by_cases h3 : b < 0
  · rw [if_pos h3] at h; exact absurd rfl h
  rw [if_neg h3] at h
  by_cases h4 : (4 : Int32) - a < b
  · rw [if_pos h4] at h; exact absurd rfl h
  obtain ⟨i, hi, rfl⟩ := nI_of2 (M := 4) (n := 4) (by decide) h1 (Int32.not_lt.mp h2)
  have e : (4 : Int32) - nI i = nI (4 - i) := pk_sub (a := 4) hi
  rw [e] at h4
  obtain ⟨j, hj, rfl⟩ := nI_of2 (M := nI (4 - i)) (n := 4 - i) (nI_toInt (by omega)) h3 (Int32.not_lt.mp h4)
  exact ⟨i, j, by omega, rfl, rfl⟩
theorem slot_N (a b : Nat) : slotI (nI a) (nI b) = nI (a * 5 + b) := by
  unfold slotI
  rw [show (5 : Int32) = nI 5 from rfl, pk_mul, nI_add]
theorem mX6_slotN (l : Launch) (w : Fx) (S : St) (a b : Nat) : Ct l yX6_slot cX6_slot 2 (some .int) 0 w [.int (nI a), .int (nI b)] S (fun v S' => v = some (.int (nI (a * 5 + b))) ∧ S' = S) := by
  have := mX6_slot l w S (nI a) (nI b)
  rwa [slot_N] at this
/-! Horner's way: the sum over k < n of f (m + k) times y to the k-th -/
def hor (f : Nat → Int64) (y : Int64) : Nat → Nat → Int64
  | 0, _ => 0
  | n + 1, m => hor f y n (m + 1) * y + f m
def valP (f : Nat → Int64) (x y : Int64) : Int64 := hor (fun a => hor (fun b => f (a * 5 + b)) y (5 - a) 0) x 5 0
def clrS (S : St) (k : Nat) : Nat → St
  | 0 => S
  | i + 1 => sJ (clrS S k i) k i 0
/-- v times d, n times over -/
def pw (v d : Int64) : Nat → Int64
  | 0 => v
  | n + 1 => pw v d n * d
def waysL (a u b v : Nat) : Int64 := (tabC (a * 5 + u) * tabC (b * 5 + v)).toInt64
def shl4 (x : Int64) (a b : Nat) : Int64 := x <<< (((4 : Int32) - nI a - nI b).toInt64 &&& 63)
def tpart (T : St) (a b : Nat) (c : Int64) (u v : Nat) : Int64 := if (nI u + nI v) &&& 1 = 0 then c * waysL a u b v * T.2 0 (u * 5 + v) else -(c * waysL a u b v * T.2 0 (u * 5 + v))
def adP (T : St) (a b : Nat) (v : Int64) : St := sJ T 2 (a * 5 + b) (T.2 2 (a * 5 + b) + v)
def atV (T : St) (a b : Nat) (c : Int64) (u : Nat) : Nat → St
  | 0 => T
  | v + 1 => adP (atV T a b c u v) (a - u) (b - v) (tpart (atV T a b c u v) a b c u v)
def atU (T : St) (a b : Nat) (c : Int64) (o : Nat) : Nat → St
  | 0 => T
  | u + 1 => atV (atU T a b c o u) a b c u (min (b + 1) (o + 1 - u))
def etB (T : St) (o a : Nat) : Nat → St
  | 0 => T
  | b + 1 => if shl4 ((etB T o a b).2 1 (a * 5 + b)) a b = 0 then etB T o a b else atU (etB T o a b) a b (shl4 ((etB T o a b).2 1 (a * 5 + b)) a b) o (a + 1)
def etA (T : St) (o : Nat) : Nat → St
  | 0 => T
  | a + 1 => etB (etA T o a) o a (5 - a)
def etS (S : St) (o : Nat) : St := etA (clrS S 2 25) o 5
def aeV (T : St) (a b : Nat) (c : Int64) (r : Int32) (u v0 : Nat) : Nat → St
  | 0 => T
  | k + 1 => adP (aeV T a b c r u v0 k) (a - u) (b - (v0 + k)) (c * waysL a u b (v0 + k) * pw 1 r.toInt64 (u + (v0 + k)))
def aeU (T : St) (a b : Nat) (c : Int64) (r : Int32) (o : Nat) : Nat → St
  | 0 => T
  | u + 1 => aeV (aeU T a b c r o u) a b c r u (o + 1 - u) (b + 1 - (o + 1 - u))
def eeB (T : St) (k : Int64) (r : Int32) (o a : Nat) : Nat → St
  | 0 => T
  | b + 1 => if shl4 (absL ((eeB T k r o a b).2 1 (a * 5 + b))) a b = 0 then eeB T k r o a b else aeU (eeB T k r o a b) a b (shl4 (absL ((eeB T k r o a b).2 1 (a * 5 + b))) a b * k) r o (a + 1)
def eeA (T : St) (k : Int64) (r : Int32) (o : Nat) : Nat → St
  | 0 => T
  | a + 1 => eeB (eeA T k r o a) k r o a (5 - a)
def eeS (S : St) (k : Int64) (r : Int32) (o : Nat) : St := eeA (clrS S 2 25) k r o 5
set_option maxRecDepth 100000 in
set_option maxHeartbeats 4000000 in
theorem mX3_get (l : Launch) (w : Fx) (S : St) (a b : Nat) (hab : a * 5 + b < 25) : Ct l yX3_get cX3_get 3 (some .long) 1 w [.ref (aD w 11), .int (nI a), .int (nI b)] S (fun v S' => v = some (.long (S.2 1 (a * 5 + b))) ∧ S' = S) := by
  refine Ct.of (by decide) (Nat.le_of_ble_eq_true rfl) (fun X h hr hl hw => ?_)
  subst hl hw
  have h : Ok X cX3_get RX3 1 := h
  show Wx X S 0 [.ref (aD (xw X) 11), .int (nI a), .int (nI b)] []
  refine r_aload_n 0 h dX3_get_0 rfl rfl ?_
  refine g11_0 h lf_X3_9 dX3_get_1 ?_
  refine r_iload_n 1 h dX3_get_4 rfl rfl ?_
  refine r_iload_n 2 h dX3_get_5 rfl rfl ?_
  refine cN2 h (mX6_slotN _ _ _ a b) kX6_slot ln_X3_15 (by decide) (Nat.le_of_ble_eq_true rfl) dX3_get_6 ?_
  show Wx _ _ 9 _ _
  refine alN_12 h (by omega) dX3_get_9 ?_
  exact r_lret h hr dX3_get_10 ⟨rfl, rfl⟩
set_option maxRecDepth 100000 in
set_option maxHeartbeats 4000000 in
theorem mX3_set (l : Launch) (w : Fx) (S : St) (a b : Nat) (q : Int64) (hab : a * 5 + b < 25) : Ct l yX3_set cX3_set 5 none 1 w [.ref (aD w 11), .int (nI a), .int (nI b), .long q] S (fun v S' => v = none ∧ S' = sJ S 1 (a * 5 + b) q) := by
  refine Ct.of (by decide) (Nat.le_of_ble_eq_true rfl) (fun X h hr hl hw => ?_)
  subst hl hw
  have h : Ok X cX3_set RX3 1 := h
  show Wx X S 0 [.ref (aD (xw X) 11), .int (nI a), .int (nI b), .long q, .null] []
  refine r_aload_n 0 h dX3_set_0 rfl rfl ?_
  refine g11_0 h lf_X3_9 dX3_set_1 ?_
  refine r_iload_n 1 h dX3_set_4 rfl rfl ?_
  refine r_iload_n 2 h dX3_set_5 rfl rfl ?_
  refine cN2 h (mX6_slotN _ _ _ a b) kX6_slot ln_X3_15 (by decide) (Nat.le_of_ble_eq_true rfl) dX3_set_6 ?_
  show Wx _ _ 9 _ _
  refine r_lload_n 3 h dX3_set_9 rfl rfl ?_
  refine asN_12 h (by omega) dX3_set_10 ?_
  exact r_vret h hr dX3_set_11 ⟨rfl, rfl⟩
set_option maxRecDepth 100000 in
set_option maxHeartbeats 4000000 in
theorem mX3_add (l : Launch) (w : Fx) (S : St) (a b : Nat) (q : Int64) (hab : a * 5 + b < 25) : Ct l yX3_add cX3_add 5 none 1 w [.ref (aD w 14), .int (nI a), .int (nI b), .long q] S (fun v S' => v = none ∧ S' = adP S a b q) := by
  refine Ct.of (by decide) (Nat.le_of_ble_eq_true rfl) (fun X h hr hl hw => ?_)
  subst hl hw
  have h : Ok X cX3_add RX3 1 := h
  show Wx X S 0 [.ref (aD (xw X) 14), .int (nI a), .int (nI b), .long q, .null] []
  refine r_aload_n 0 h dX3_add_0 rfl rfl ?_
  refine g14_0 h lf_X3_9 dX3_add_1 ?_
  refine r_iload_n 1 h dX3_add_4 rfl rfl ?_
  refine r_iload_n 2 h dX3_add_5 rfl rfl ?_
  refine cN2 h (mX6_slotN _ _ _ a b) kX6_slot ln_X3_15 (by decide) (Nat.le_of_ble_eq_true rfl) dX3_add_6 ?_
  show Wx _ _ 9 _ _
  refine r_dup2 h dX3_add_9 rfl rfl ?_
  refine alN_15 h (by omega) dX3_add_10 ?_
  refine r_lload_n 3 h dX3_add_11 rfl rfl ?_
  refine r_ladd h dX3_add_12 ?_
  refine asN_15 h (by omega) dX3_add_13 ?_
  exact r_vret h hr dX3_add_14 ⟨rfl, rfl⟩
set_option maxRecDepth 100000 in
set_option maxHeartbeats 4000000 in
theorem mX3_clear (l : Launch) (w : Fx) (S : St) : Ct l yX3_clear cX3_clear 2 none 0 w [.ref (aD w 14)] S (fun v S' => v = none ∧ S' = clrS S 2 25) := by
  refine Ct.of (by decide) (Nat.le_of_ble_eq_true rfl) (fun X h hr hl hw => ?_)
  subst hl hw
  have h : Ok X cX3_clear RX3 0 := h
  show Wx X S 0 [.ref (aD (xw X) 14), .null] []
  have loop : ∀ n i : Nat, i + n = 25 → Wx X (clrS S 2 i) 2 [.ref (aD (xw X) 14), .int (nI i)] [] := by
    intro n
    induction n with
    | zero =>
      intro i hi
      have hi : i = 25 := by omega
      subst hi
      refine r_iload_n 1 h dX3_clear_2 rfl rfl ?_
      refine r_bipush 25 h dX3_clear_3 (by decide) ?_
      refine r_icmp_ge_t 21 h dX3_clear_5 (by decide) (bigT (a := 25) (by omega) (by omega)) ?_
      exact r_vret h hr dX3_clear_21 ⟨rfl, rfl⟩
    | succ n ih =>
      intro i hi
      have hq := ih (i + 1) (by omega)
      unfold clrS at hq
      refine r_iload_n 1 h dX3_clear_2 rfl rfl ?_
      refine r_bipush 25 h dX3_clear_3 (by decide) ?_
      refine r_icmp_ge_f 21 h dX3_clear_5 (by decide) (bigF (a := 25) (by omega) (by omega)) ?_
      refine r_aload_n 0 h dX3_clear_8 rfl rfl ?_
      refine g14_0 h lf_X3_9 dX3_clear_9 ?_
      show Wx _ _ 12 _ _
      refine r_iload_n 1 h dX3_clear_12 rfl rfl ?_
      refine r_lconst 0 h dX3_clear_13 (by decide) ?_
      refine asN_15 h (by omega) dX3_clear_14 ?_
      refine r_iincN h dX3_clear_15 rfl ?_
      show Wx _ _ _ [_, _] _
      refine r_goto 2 h dX3_clear_18 (by decide) ?_
      exact hq
  refine r_iconst 0 h dX3_clear_0 (by decide) ?_
  refine r_istore_n 1 h dX3_clear_1 rfl (Nat.le_of_ble_eq_true rfl) ?_
  show Wx _ _ _ [_, _] _
  exact loop 25 0 rfl
set_option maxRecDepth 100000 in
set_option maxHeartbeats 4000000 in
theorem mX3_valueAt11 (l : Launch) (w : Fx) (S : St) (x y : Int64) : Ct l yX3_valueAt cX3_valueAt 11 (some .long) 1 w [.ref (aD w 11), .long x, .long y] S (fun v S' => v = some (.long (valP (S.2 1) x y)) ∧ S' = S) := by
  refine Ct.of (by decide) (Nat.le_of_ble_eq_true rfl) (fun X h hr hl hw => ?_)
  subst hl hw
  have h : Ok X cX3_valueAt RX3 1 := h
  show Wx X S 0 [.ref (aD (xw X) 11), .long x, .null, .long y, .null, .null, .null, .null, .null, .null, .null] []
  have loop : ∀ a cnt : Nat, a + cnt = 5 → Wx X S 6 [.ref (aD (xw X) 11), .long x, .null, .long y, .null, .long (hor (fun a => hor (fun b => S.2 1 (a * 5 + b)) y (5 - a) 0) x cnt a), .null, .int (pI a), .null, .null, .null] [] := by
    intro a
    induction a with
    | zero =>
      intro cnt hc
      have hc : cnt = 5 := by omega
      subst hc
      refine r_iload h dX3_valueAt_6 rfl ?_
      refine r_if_lt_t 65 h dX3_valueAt_8 (by decide) pI_0 ?_
      refine r_lload h dX3_valueAt_65 rfl ?_
      exact r_lret h hr dX3_valueAt_67 ⟨rfl, rfl⟩
    | succ a iha =>
      intro cnt hc
      have hq := iha (cnt + 1) (by omega)
      rw [pI_s]
      have inner : ∀ m n : Nat, m + n = 5 - a → Wx X S 20 [.ref (aD (xw X) 11), .long x, .null, .long y, .null, .long (hor (fun a => hor (fun b => S.2 1 (a * 5 + b)) y (5 - a) 0) x cnt (a + 1)), .null, .int (nI a), .long (hor (fun b => S.2 1 (a * 5 + b)) y n m), .null, .int (pI m)] [] := by
        intro m
        induction m with
        | zero =>
          intro n hn
          have hn : n = 5 - a := by omega
          subst hn
          refine r_iload h dX3_valueAt_20 rfl ?_
          refine r_if_lt_t 50 h dX3_valueAt_22 (by decide) pI_0 ?_
          refine r_lload h dX3_valueAt_50 rfl ?_
          refine r_lload_n 1 h dX3_valueAt_52 rfl rfl ?_
          refine r_lmul h dX3_valueAt_53 ?_
          show Wx _ _ 54 _ _
          refine r_lload h dX3_valueAt_54 rfl ?_
          refine r_ladd h dX3_valueAt_56 ?_
          refine r_lstore h dX3_valueAt_57 (Nat.le_of_ble_eq_true rfl) ?_
          show Wx _ _ _ [_, _, _, _, _, _, _, _, _, _, _] _
          refine r_iinc (-1) h dX3_valueAt_59 (by decide) rfl ?_
          show Wx _ _ _ [_, _, _, _, _, _, _, .int (nI a + (-1)), _, _, _] _
          rw [← pI_s a, pI_d]
          refine Wx.weak (lv' := [.ref (aD (xw X) 11), .long x, .null, .long y, .null, .long (hor (fun a => hor (fun b => S.2 1 (a * 5 + b)) y (5 - a) 0) x (cnt + 1) a), .null, .int (pI a), .null, .null, .null]) (And.intro rfl (And.intro rfl (And.intro rfl (And.intro rfl (And.intro rfl trivial))))) ?_
          refine r_goto 6 h dX3_valueAt_62 (by decide) ?_
          exact hq
        | succ m ihm =>
          intro n hn
          have hp := ihm (n + 1) (by omega)
          rw [pI_s]
          refine r_iload h dX3_valueAt_20 rfl ?_
          refine r_if_lt_f 50 h dX3_valueAt_22 (by decide) (nI_pos (by omega)) ?_
          refine r_lload h dX3_valueAt_25 rfl ?_
          refine r_lload_n 3 h dX3_valueAt_27 rfl rfl ?_
          refine r_lmul h dX3_valueAt_28 ?_
          show Wx _ _ 29 _ _
          refine r_aload_n 0 h dX3_valueAt_29 rfl rfl ?_
          refine g11_0 h lf_X3_9 dX3_valueAt_30 ?_
          refine r_iload h dX3_valueAt_33 rfl ?_
          refine r_iload h dX3_valueAt_35 rfl ?_
          refine cN2 h (mX6_slotN _ _ _ a m) kX6_slot ln_X3_15 (by decide) (Nat.le_of_ble_eq_true rfl) dX3_valueAt_37 ?_
          refine alN_12 h (by omega) dX3_valueAt_40 ?_
          show Wx _ _ 41 _ _
          refine r_ladd h dX3_valueAt_41 ?_
          refine r_lstore h dX3_valueAt_42 (Nat.le_of_ble_eq_true rfl) ?_
          show Wx _ _ _ [_, _, _, _, _, _, _, _, _, _, _] _
          refine r_iinc (-1) h dX3_valueAt_44 (by decide) rfl ?_
          show Wx _ _ _ [_, _, _, _, _, _, _, _, _, _, _] _
          refine r_goto 20 h dX3_valueAt_47 (by decide) ?_
          rw [← pI_s m, pI_d]
          exact hp
      refine r_iload h dX3_valueAt_6 rfl ?_
      refine r_if_lt_f 65 h dX3_valueAt_8 (by decide) (nI_pos (by omega)) ?_
      refine r_lconst 0 h dX3_valueAt_11 (by decide) ?_
      refine r_lstore h dX3_valueAt_12 (Nat.le_of_ble_eq_true rfl) ?_
      show Wx _ _ _ [_, _, _, _, _, _, _, _, _, _, _] _
      refine r_iconst 4 h dX3_valueAt_14 (by decide) ?_
      show Wx _ _ 15 _ _
      refine r_iload h dX3_valueAt_15 rfl ?_
      refine r_isub h dX3_valueAt_17 ?_
      have e9 : (4 : Int32) - nI a = pI (5 - a) := by
        rw [show 5 - a = (4 - a) + 1 by omega, pI_s]
        exact pk_sub (a := 4) (by omega)
      rw [e9]
      refine r_istore h dX3_valueAt_18 (Nat.le_of_ble_eq_true rfl) ?_
      show Wx _ _ _ [_, _, _, _, _, _, _, _, _, _, _] _
      exact inner (5 - a) 0 (by omega)
  refine r_lconst 0 h dX3_valueAt_0 (by decide) ?_
  refine r_lstore h dX3_valueAt_1 (Nat.le_of_ble_eq_true rfl) ?_
  show Wx _ _ _ [_, _, _, _, _, _, _, _, _, _, _] _
  refine r_iconst 4 h dX3_valueAt_3 (by decide) ?_
  refine r_istore h dX3_valueAt_4 (Nat.le_of_ble_eq_true rfl) ?_
  show Wx _ _ _ [_, _, _, _, _, _, _, _, _, _, _] _
  exact loop 5 0 rfl
set_option maxRecDepth 100000 in
set_option maxHeartbeats 4000000 in
theorem mX3_valueAt14 (l : Launch) (w : Fx) (S : St) (x y : Int64) : Ct l yX3_valueAt cX3_valueAt 11 (some .long) 1 w [.ref (aD w 14), .long x, .long y] S (fun v S' => v = some (.long (valP (S.2 2) x y)) ∧ S' = S) := by
  refine Ct.of (by decide) (Nat.le_of_ble_eq_true rfl) (fun X h hr hl hw => ?_)
  subst hl hw
  have h : Ok X cX3_valueAt RX3 1 := h
  show Wx X S 0 [.ref (aD (xw X) 14), .long x, .null, .long y, .null, .null, .null, .null, .null, .null, .null] []
  have loop : ∀ a cnt : Nat, a + cnt = 5 → Wx X S 6 [.ref (aD (xw X) 14), .long x, .null, .long y, .null, .long (hor (fun a => hor (fun b => S.2 2 (a * 5 + b)) y (5 - a) 0) x cnt a), .null, .int (pI a), .null, .null, .null] [] := by
    intro a
    induction a with
    | zero =>
      intro cnt hc
      have hc : cnt = 5 := by omega
      subst hc
      refine r_iload h dX3_valueAt_6 rfl ?_
      refine r_if_lt_t 65 h dX3_valueAt_8 (by decide) pI_0 ?_
      refine r_lload h dX3_valueAt_65 rfl ?_
      exact r_lret h hr dX3_valueAt_67 ⟨rfl, rfl⟩
    | succ a iha =>
      intro cnt hc
      have hq := iha (cnt + 1) (by omega)
      rw [pI_s]
      have inner : ∀ m n : Nat, m + n = 5 - a → Wx X S 20 [.ref (aD (xw X) 14), .long x, .null, .long y, .null, .long (hor (fun a => hor (fun b => S.2 2 (a * 5 + b)) y (5 - a) 0) x cnt (a + 1)), .null, .int (nI a), .long (hor (fun b => S.2 2 (a * 5 + b)) y n m), .null, .int (pI m)] [] := by
        intro m
        induction m with
        | zero =>
          intro n hn
          have hn : n = 5 - a := by omega
          subst hn
          refine r_iload h dX3_valueAt_20 rfl ?_
          refine r_if_lt_t 50 h dX3_valueAt_22 (by decide) pI_0 ?_
          refine r_lload h dX3_valueAt_50 rfl ?_
          refine r_lload_n 1 h dX3_valueAt_52 rfl rfl ?_
          refine r_lmul h dX3_valueAt_53 ?_
          show Wx _ _ 54 _ _
          refine r_lload h dX3_valueAt_54 rfl ?_
          refine r_ladd h dX3_valueAt_56 ?_
          refine r_lstore h dX3_valueAt_57 (Nat.le_of_ble_eq_true rfl) ?_
          show Wx _ _ _ [_, _, _, _, _, _, _, _, _, _, _] _
          refine r_iinc (-1) h dX3_valueAt_59 (by decide) rfl ?_
          show Wx _ _ _ [_, _, _, _, _, _, _, .int (nI a + (-1)), _, _, _] _
          rw [← pI_s a, pI_d]
          refine Wx.weak (lv' := [.ref (aD (xw X) 14), .long x, .null, .long y, .null, .long (hor (fun a => hor (fun b => S.2 2 (a * 5 + b)) y (5 - a) 0) x (cnt + 1) a), .null, .int (pI a), .null, .null, .null]) (And.intro rfl (And.intro rfl (And.intro rfl (And.intro rfl (And.intro rfl trivial))))) ?_
          refine r_goto 6 h dX3_valueAt_62 (by decide) ?_
          exact hq
        | succ m ihm =>
          intro n hn
          have hp := ihm (n + 1) (by omega)
          rw [pI_s]
          refine r_iload h dX3_valueAt_20 rfl ?_
          refine r_if_lt_f 50 h dX3_valueAt_22 (by decide) (nI_pos (by omega)) ?_
          refine r_lload h dX3_valueAt_25 rfl ?_
          refine r_lload_n 3 h dX3_valueAt_27 rfl rfl ?_
          refine r_lmul h dX3_valueAt_28 ?_
          show Wx _ _ 29 _ _
          refine r_aload_n 0 h dX3_valueAt_29 rfl rfl ?_
          refine g14_0 h lf_X3_9 dX3_valueAt_30 ?_
          refine r_iload h dX3_valueAt_33 rfl ?_
          refine r_iload h dX3_valueAt_35 rfl ?_
          refine cN2 h (mX6_slotN _ _ _ a m) kX6_slot ln_X3_15 (by decide) (Nat.le_of_ble_eq_true rfl) dX3_valueAt_37 ?_
          refine alN_15 h (by omega) dX3_valueAt_40 ?_
          show Wx _ _ 41 _ _
          refine r_ladd h dX3_valueAt_41 ?_
          refine r_lstore h dX3_valueAt_42 (Nat.le_of_ble_eq_true rfl) ?_
          show Wx _ _ _ [_, _, _, _, _, _, _, _, _, _, _] _
          refine r_iinc (-1) h dX3_valueAt_44 (by decide) rfl ?_
          show Wx _ _ _ [_, _, _, _, _, _, _, _, _, _, _] _
          refine r_goto 20 h dX3_valueAt_47 (by decide) ?_
          rw [← pI_s m, pI_d]
          exact hp
      refine r_iload h dX3_valueAt_6 rfl ?_
      refine r_if_lt_f 65 h dX3_valueAt_8 (by decide) (nI_pos (by omega)) ?_
      refine r_lconst 0 h dX3_valueAt_11 (by decide) ?_
      refine r_lstore h dX3_valueAt_12 (Nat.le_of_ble_eq_true rfl) ?_
      show Wx _ _ _ [_, _, _, _, _, _, _, _, _, _, _] _
      refine r_iconst 4 h dX3_valueAt_14 (by decide) ?_
      show Wx _ _ 15 _ _
      refine r_iload h dX3_valueAt_15 rfl ?_
      refine r_isub h dX3_valueAt_17 ?_
      have e9 : (4 : Int32) - nI a = pI (5 - a) := by
        rw [show 5 - a = (4 - a) + 1 by omega, pI_s]
        exact pk_sub (a := 4) (by omega)
      rw [e9]
      refine r_istore h dX3_valueAt_18 (Nat.le_of_ble_eq_true rfl) ?_
      show Wx _ _ _ [_, _, _, _, _, _, _, _, _, _, _] _
      exact inner (5 - a) 0 (by omega)
  refine r_lconst 0 h dX3_valueAt_0 (by decide) ?_
  refine r_lstore h dX3_valueAt_1 (Nat.le_of_ble_eq_true rfl) ?_
  show Wx _ _ _ [_, _, _, _, _, _, _, _, _, _, _] _
  refine r_iconst 4 h dX3_valueAt_3 (by decide) ?_
  refine r_istore h dX3_valueAt_4 (Nat.le_of_ble_eq_true rfl) ?_
  show Wx _ _ _ [_, _, _, _, _, _, _, _, _, _, _] _
  exact loop 5 0 rfl
