def slotI (a b : Int32) : Int32 := a * 5 + b
def sideI (l : Int32) : Int32 := 64 >>> (l &&& 31)
def frmI (x l i : Int32) : Int32 := 2 * x - (2 * i * sideI l + sideI l - 1)
def wrpI (v : Int64) : Int32 := ((v - (-32)) &&& 63).toInt32 + (-32)
def wrlI (x : Int32) : Int32 := x &&& 63
def numI (l x : Int32) : Int32 := x >>> ((6 - l) &&& 31)
def bixI (l i j : Int32) : Int32 := tabF l.toNatClampNeg + j <<< (l &&& 31) + i
def pixI (l x y : Int32) : Int32 := bixI l (numI l x) (numI l y)
def hasI (S : St) (p : Int32) : Int32 := if p < 0 then 0 else if 40 ≤ p then 0 else if S.1 0 p.toNatClampNeg = 0 then 0 else 1
def lfI (S : St) : Nat → Nat → Int32
  | 0, _ => -1
  | n + 1, i => if S.1 0 i = 0 then nI i else lfI S n (i + 1)
theorem lfI_s {S : St} {n i : Nat} : lfI S (n + 1) i = if S.1 0 i = 0 then nI i else lfI S n (i + 1) := rfl
def putS (S : St) (p x y : Int32) : St := sI (sI S 1 p.toNatClampNeg x) 2 p.toNatClampNeg y
def spcS (S : St) (p x y : Int32) : St := sI (sI S 4 p.toNatClampNeg x) 5 p.toNatClampNeg y
def addS (S : St) (p x y v : Int32) : St := sI (spcS (sI (putS (sI S 0 p.toNatClampNeg 1) p x y) 3 p.toNatClampNeg v) p 0 0) 6 0 ((spcS (sI (putS (sI S 0 p.toNatClampNeg 1) p x y) 3 p.toNatClampNeg v) p 0 0).1 6 0 + 1)
def remS (S : St) (p : Int32) : St := sI (sI S 0 p.toNatClampNeg 0) 6 0 ((sI S 0 p.toNatClampNeg 0).1 6 0 - 1)
def readI (S : St) (p q : Int32) : Int32 := if q = 0 then S.1 1 p.toNatClampNeg else if q = 1 then S.1 2 p.toNatClampNeg else if q = 2 then S.1 3 p.toNatClampNeg else if q = 3 then S.1 4 p.toNatClampNeg else if q = 4 then S.1 5 p.toNatClampNeg else -2000
def blkI (S : St) : Nat → Int32
  | 0 => 0
  | i + 1 => if S.1 0 i = 0 then blkI S i else blkI S i + absI (S.1 3 i)
def rkI (S : St) (p x y : Int32) : Int32 := ((S.1 1 p.toNatClampNeg - x) * (S.1 1 p.toNatClampNeg - x) + (S.1 2 p.toNatClampNeg - y) * (S.1 2 p.toNatClampNeg - y)) * 40 + p
def nrI (S : St) (p x y : Int32) : Nat → Int32
  | 0 => 0
  | i + 1 => if S.1 0 i = 0 then nrI S p x y i else if rkI S p x y ≤ rkI S (nI i) x y then nrI S p x y i else nrI S p x y i + 1
theorem has_in {S : St} {p : Int32} (h : ¬ hasI S p = 0) : vp_in p 40 := by
  unfold hasI at h
  by_cases h1 : p < 0
  · rw [if_pos h1] at h; exact absurd rfl h
  rw [if_neg h1] at h
  by_cases h2 : (40 : Int32) ≤ p
  · rw [if_pos h2] at h; exact absurd rfl h
  · exact ixN (by decide) h1 h2
theorem has_at {S : St} {p : Int32} (h : ¬ hasI S p = 0) : ∃ i : Nat, i < 40 ∧ p = nI i ∧ ¬ S.1 0 i = 0 := by
  obtain ⟨j, hj, rfl⟩ := vp_in_of (has_in h) (by decide)
  refine ⟨j, hj, rfl, ?_⟩
  unfold hasI at h
  rw [if_neg (nI_pos (by omega)), if_neg (show ¬ (40 : Int32) ≤ nI j from bigF (a := 40) hj (by decide)), ncl (by omega)] at h
  intro z
  rw [if_pos z] at h
  exact h rfl
set_option maxRecDepth 100000 in
set_option maxHeartbeats 4000000 in
theorem mX6_slot (l : Launch) (w : Fx) (S : St) (a b : Int32) : Ct l yX6_slot cX6_slot 2 (some .int) 0 w [.int a, .int b] S (fun v S' => v = some (.int (slotI a b)) ∧ S' = S) := by
  refine Ct.of (by decide) (Nat.le_of_ble_eq_true rfl) (fun X h hr hl hw => ?_)
  subst hl hw
  have h : Ok X cX6_slot RX6 0 := h
  show Wx X S 0 [.int a, .int b] []
  refine r_iload_n 0 h dX6_slot_0 rfl rfl ?_
  refine r_iconst 5 h dX6_slot_1 (by decide) ?_
  refine r_imul h dX6_slot_2 ?_
  refine r_iload_n 1 h dX6_slot_3 rfl rfl ?_
  refine r_iadd h dX6_slot_4 ?_
  show Wx _ _ 5 _ _
  exact r_iret h hr dX6_slot_5 ⟨rfl, rfl⟩
set_option maxRecDepth 100000 in
set_option maxHeartbeats 4000000 in
theorem mX6_sideOf (l : Launch) (w : Fx) (S : St) (a : Int32) : Ct l yX6_sideOf cX6_sideOf 1 (some .int) 0 w [.int a] S (fun v S' => v = some (.int (sideI a)) ∧ S' = S) := by
  refine Ct.of (by decide) (Nat.le_of_ble_eq_true rfl) (fun X h hr hl hw => ?_)
  subst hl hw
  have h : Ok X cX6_sideOf RX6 0 := h
  show Wx X S 0 [.int a] []
  refine r_bipush 64 h dX6_sideOf_0 (by decide) ?_
  refine r_iload_n 0 h dX6_sideOf_2 rfl rfl ?_
  refine r_ishr h dX6_sideOf_3 ?_
  exact r_iret h hr dX6_sideOf_4 ⟨rfl, rfl⟩
set_option maxRecDepth 100000 in
set_option maxHeartbeats 4000000 in
theorem mX6_fromMiddle (l : Launch) (w : Fx) (S : St) (x a i : Int32) : Ct l yX6_fromMiddle cX6_fromMiddle 4 (some .int) 1 w [.int x, .int a, .int i] S (fun v S' => v = some (.int (frmI x a i)) ∧ S' = S) := by
  refine Ct.of (by decide) (Nat.le_of_ble_eq_true rfl) (fun X h hr hl hw => ?_)
  subst hl hw
  have h : Ok X cX6_fromMiddle RX6 1 := h
  show Wx X S 0 [.int x, .int a, .int i, .null] []
  refine r_iload_n 1 h dX6_fromMiddle_0 rfl rfl ?_
  refine cS1 h (mX6_sideOf _ _ _ a) kX6_sideOf lm_X6_257 (by decide) (Nat.le_of_ble_eq_true rfl) dX6_fromMiddle_1 ?_
  refine r_istore_n 3 h dX6_fromMiddle_4 rfl (Nat.le_of_ble_eq_true rfl) ?_
  show Wx _ _ _ [_, _, _, _] _
  refine r_iconst 2 h dX6_fromMiddle_5 (by decide) ?_
  refine r_iload_n 0 h dX6_fromMiddle_6 rfl rfl ?_
  show Wx _ _ 7 _ _
  refine r_imul h dX6_fromMiddle_7 ?_
  refine r_iconst 2 h dX6_fromMiddle_8 (by decide) ?_
  refine r_iload_n 2 h dX6_fromMiddle_9 rfl rfl ?_
  refine r_imul h dX6_fromMiddle_10 ?_
  refine r_iload_n 3 h dX6_fromMiddle_11 rfl rfl ?_
  refine r_imul h dX6_fromMiddle_12 ?_
  show Wx _ _ 13 _ _
  refine r_iload_n 3 h dX6_fromMiddle_13 rfl rfl ?_
  refine r_iadd h dX6_fromMiddle_14 ?_
  refine r_iconst 1 h dX6_fromMiddle_15 (by decide) ?_
  refine r_isub h dX6_fromMiddle_16 ?_
  refine r_isub h dX6_fromMiddle_17 ?_
  exact r_iret h hr dX6_fromMiddle_18 ⟨rfl, rfl⟩
set_option maxRecDepth 100000 in
set_option maxHeartbeats 4000000 in
theorem mX6_wrapPace (l : Launch) (w : Fx) (S : St) (x : Int64) : Ct l yX6_wrapPace cX6_wrapPace 2 (some .int) 0 w [.long x] S (fun v S' => v = some (.int (wrpI x)) ∧ S' = S) := by
  refine Ct.of (by decide) (Nat.le_of_ble_eq_true rfl) (fun X h hr hl hw => ?_)
  subst hl hw
  have h : Ok X cX6_wrapPace RX6 0 := h
  show Wx X S 0 [.long x, .null] []
  refine r_lload_n 0 h dX6_wrapPace_0 rfl rfl ?_
  refine r_ldc2 h lc_X6_269 dX6_wrapPace_1 ?_
  refine r_lsub h dX6_wrapPace_4 ?_
  refine r_ldc2 h lc_X6_271 dX6_wrapPace_5 ?_
  refine r_land h dX6_wrapPace_8 ?_
  show Wx _ _ 9 _ _
  refine r_l2i h dX6_wrapPace_9 ?_
  refine r_bipush (-32) h dX6_wrapPace_10 (by decide) ?_
  refine r_iadd h dX6_wrapPace_12 ?_
  exact r_iret h hr dX6_wrapPace_13 ⟨rfl, rfl⟩
set_option maxRecDepth 100000 in
set_option maxHeartbeats 4000000 in
theorem mX6_wrapPlace (l : Launch) (w : Fx) (S : St) (x : Int32) : Ct l yX6_wrapPlace cX6_wrapPlace 1 (some .int) 0 w [.int x] S (fun v S' => v = some (.int (wrlI x)) ∧ S' = S) := by
  refine Ct.of (by decide) (Nat.le_of_ble_eq_true rfl) (fun X h hr hl hw => ?_)
  subst hl hw
  have h : Ok X cX6_wrapPlace RX6 0 := h
  show Wx X S 0 [.int x] []
  refine r_iload_n 0 h dX6_wrapPlace_0 rfl rfl ?_
  refine r_bipush 63 h dX6_wrapPlace_1 (by decide) ?_
  refine r_iand h dX6_wrapPlace_3 ?_
  exact r_iret h hr dX6_wrapPlace_4 ⟨rfl, rfl⟩
set_option maxRecDepth 100000 in
set_option maxHeartbeats 4000000 in
theorem mX0_numberAt (l : Launch) (w : Fx) (S : St) (a x : Int32) : Ct l yX0_numberAt cX0_numberAt 2 (some .int) 0 w [.int a, .int x] S (fun v S' => v = some (.int (numI a x)) ∧ S' = S) := by
  refine Ct.of (by decide) (Nat.le_of_ble_eq_true rfl) (fun X h hr hl hw => ?_)
  subst hl hw
  have h : Ok X cX0_numberAt RX0 0 := h
  show Wx X S 0 [.int a, .int x] []
  refine r_iload_n 1 h dX0_numberAt_0 rfl rfl ?_
  refine r_bipush 6 h dX0_numberAt_1 (by decide) ?_
  refine r_iload_n 0 h dX0_numberAt_3 rfl rfl ?_
  refine r_isub h dX0_numberAt_4 ?_
  refine r_ishr h dX0_numberAt_5 ?_
  show Wx _ _ 6 _ _
  exact r_iret h hr dX0_numberAt_6 ⟨rfl, rfl⟩
set_option maxRecDepth 100000 in
set_option maxHeartbeats 4000000 in
theorem mX0_boxIndex (l : Launch) (w : Fx) (S : St) (a i j : Int32) (ha : vp_in a 6) : Ct l yX0_boxIndex cX0_boxIndex 3 (some .int) 0 w [.int a, .int i, .int j] S (fun v S' => v = some (.int (bixI a i j)) ∧ S' = S) := by
  refine Ct.of (by decide) (Nat.le_of_ble_eq_true rfl) (fun X h hr hl hw => ?_)
  subst hl hw
  have h : Ok X cX0_boxIndex RX0 0 := h
  show Wx X S 0 [.int a, .int i, .int j] []
  refine gs_1 h lf_X0_40 dX0_boxIndex_0 ?_
  refine r_iload_n 0 h dX0_boxIndex_3 rfl rfl ?_
  refine at_1 h ha dX0_boxIndex_4 ?_
  refine r_iload_n 2 h dX0_boxIndex_5 rfl rfl ?_
  refine r_iload_n 0 h dX0_boxIndex_6 rfl rfl ?_
  show Wx _ _ 7 _ _
  refine r_ishl h dX0_boxIndex_7 ?_
  refine r_iadd h dX0_boxIndex_8 ?_
  refine r_iload_n 1 h dX0_boxIndex_9 rfl rfl ?_
  refine r_iadd h dX0_boxIndex_10 ?_
  exact r_iret h hr dX0_boxIndex_11 ⟨rfl, rfl⟩
set_option maxRecDepth 100000 in
set_option maxHeartbeats 4000000 in
theorem mX0_placeIndex (l : Launch) (w : Fx) (S : St) (a x y : Int32) (ha : vp_in a 6) : Ct l yX0_placeIndex cX0_placeIndex 3 (some .int) 1 w [.int a, .int x, .int y] S (fun v S' => v = some (.int (pixI a x y)) ∧ S' = S) := by
  refine Ct.of (by decide) (Nat.le_of_ble_eq_true rfl) (fun X h hr hl hw => ?_)
  subst hl hw
  have h : Ok X cX0_placeIndex RX0 1 := h
  show Wx X S 0 [.int a, .int x, .int y] []
  refine r_iload_n 0 h dX0_placeIndex_0 rfl rfl ?_
  refine r_iload_n 0 h dX0_placeIndex_1 rfl rfl ?_
  refine r_iload_n 1 h dX0_placeIndex_2 rfl rfl ?_
  refine cS2 h (mX0_numberAt _ _ _ a x) kX0_numberAt lm_X0_52 (by decide) (Nat.le_of_ble_eq_true rfl) dX0_placeIndex_3 ?_
  refine r_iload_n 0 h dX0_placeIndex_6 rfl rfl ?_
  show Wx _ _ 7 _ _
  refine r_iload_n 2 h dX0_placeIndex_7 rfl rfl ?_
  refine cS2 h (mX0_numberAt _ _ _ a y) kX0_numberAt lm_X0_52 (by decide) (Nat.le_of_ble_eq_true rfl) dX0_placeIndex_8 ?_
  refine cS3 h (mX0_boxIndex _ _ _ a _ _ ha) kX0_boxIndex lm_X0_34 (by decide) (Nat.le_of_ble_eq_true rfl) dX0_placeIndex_11 ?_
  exact r_iret h hr dX0_placeIndex_14 ⟨rfl, rfl⟩
set_option maxRecDepth 100000 in
set_option maxHeartbeats 4000000 in
theorem mX2_has (l : Launch) (w : Fx) (S : St) (p : Int32) : Ct l yX2_has cX2_has 2 (some .boolean) 0 w [.ref (aD w 1), .int p] S (fun v S' => v = some (.int (hasI S p)) ∧ S' = S) := by
  refine Ct.of (by decide) (Nat.le_of_ble_eq_true rfl) (fun X h hr hl hw => ?_)
  subst hl hw
  have h : Ok X cX2_has RX2 0 := h
  show Wx X S 0 [.ref (aD (xw X) 1), .int p] []
  refine r_iload_n 1 h dX2_has_0 rfl rfl ?_
  refine r_if_lt 23 h dX2_has_1 (by decide) (fun c1 => ?_) (fun c1 => ?_)
  · refine r_iconst 0 h dX2_has_23 (by decide) ?_
    exact r_zret h hr dX2_has_24 rfl ⟨by simp only [hasI, c1, ite_true, ite_false, if_true, if_false, not_true, not_false_iff], rfl⟩
  · refine r_iload_n 1 h dX2_has_4 rfl rfl ?_
    refine r_bipush 40 h dX2_has_5 (by decide) ?_
    refine r_icmp_ge 23 h dX2_has_7 (by decide) (fun c7 => ?_) (fun c7 => ?_)
    · refine r_iconst 0 h dX2_has_23 (by decide) ?_
      exact r_zret h hr dX2_has_24 rfl ⟨by simp only [hasI, c1, c7, ite_true, ite_false, if_true, if_false, not_true, not_false_iff], rfl⟩
    · refine r_aload_n 0 h dX2_has_10 rfl rfl ?_
      refine g1_0 h lf_X2_9 dX2_has_11 ?_
      refine r_iload_n 1 h dX2_has_14 rfl rfl ?_
      refine al_2 h (ixN (N := 40) (by decide) c1 c7) dX2_has_15 ?_
      refine r_if_eq 23 h dX2_has_16 (by decide) (fun c16 => ?_) (fun c16 => ?_)
      · refine r_iconst 0 h dX2_has_23 (by decide) ?_
        exact r_zret h hr dX2_has_24 rfl ⟨by simp only [hasI, c1, c7, c16, ite_true, ite_false, if_true, if_false, not_true, not_false_iff], rfl⟩
      · refine r_iconst 1 h dX2_has_19 (by decide) ?_
        refine r_goto 24 h dX2_has_20 (by decide) ?_
        exact r_zret h hr dX2_has_24 rfl ⟨by simp only [hasI, c1, c7, c16, ite_true, ite_false, if_true, if_false, not_true, not_false_iff], rfl⟩
set_option maxRecDepth 100000 in
set_option maxHeartbeats 4000000 in
theorem mX2_leastFree (l : Launch) (w : Fx) (S : St) : Ct l yX2_leastFree cX2_leastFree 2 (some .int) 0 w [.ref (aD w 1)] S (fun v S' => v = some (.int (lfI S 40 0)) ∧ S' = S) := by
  refine Ct.of (by decide) (Nat.le_of_ble_eq_true rfl) (fun X h hr hl hw => ?_)
  subst hl hw
  have h : Ok X cX2_leastFree RX2 0 := h
  show Wx X S 0 [.ref (aD (xw X) 1), .null] []
  have loop : ∀ n i : Nat, i + n = 40 → lfI S n i = lfI S 40 0 → Wx X S 2 [.ref (aD (xw X) 1), .int (nI i)] [] := by
    intro n
    induction n with
    | zero =>
      intro i hi he
      refine r_iload_n 1 h dX2_leastFree_2 rfl rfl ?_
      refine r_bipush 40 h dX2_leastFree_3 (by decide) ?_
      refine r_icmp_ge_t 25 h dX2_leastFree_5 (by decide) (bigT (a := 40) (by omega) (by omega)) ?_
      refine r_iconst (-1) h dX2_leastFree_25 (by decide) ?_
      exact r_iret h hr dX2_leastFree_26 ⟨by rw [← he]; rfl, rfl⟩
    | succ n ih =>
      intro i hi he
      rw [lfI_s (n := n) (i := i)] at he
      refine r_iload_n 1 h dX2_leastFree_2 rfl rfl ?_
      refine r_bipush 40 h dX2_leastFree_3 (by decide) ?_
      refine r_icmp_ge_f 25 h dX2_leastFree_5 (by decide) (bigF (a := 40) (by omega) (by omega)) ?_
      refine r_aload_n 0 h dX2_leastFree_8 rfl rfl ?_
      refine g1_0 h lf_X2_9 dX2_leastFree_9 ?_
      show Wx _ _ 12 _ _
      refine r_iload_n 1 h dX2_leastFree_12 rfl rfl ?_
      refine alN_2 h (by omega) dX2_leastFree_13 ?_
      refine r_if_ne 19 h dX2_leastFree_14 (by decide) (fun c14 => ?_) (fun c14 => ?_)
      · refine r_iincN h dX2_leastFree_19 rfl ?_
        show Wx _ _ _ [_, _] _
        refine r_goto 2 h dX2_leastFree_22 (by decide) ?_
        exact ih (i + 1) (by omega) (by rw [← he, if_neg c14])
      · refine r_iload_n 1 h dX2_leastFree_17 rfl rfl ?_
        exact r_iret h hr dX2_leastFree_18 ⟨by rw [← he, if_pos c14], rfl⟩
  refine r_iconst 0 h dX2_leastFree_0 (by decide) ?_
  refine r_istore_n 1 h dX2_leastFree_1 rfl (Nat.le_of_ble_eq_true rfl) ?_
  show Wx _ _ _ [_, _] _
  exact loop 40 0 rfl rfl
set_option maxRecDepth 100000 in
set_option maxHeartbeats 4000000 in
theorem mX2_put (l : Launch) (w : Fx) (S : St) (p x y : Int32) (hp : vp_in p 40) : Ct l yX2_put cX2_put 4 none 0 w [.ref (aD w 1), .int p, .int x, .int y] S (fun v S' => v = none ∧ S' = putS S p x y) := by
  refine Ct.of (by decide) (Nat.le_of_ble_eq_true rfl) (fun X h hr hl hw => ?_)
  subst hl hw
  have h : Ok X cX2_put RX2 0 := h
  show Wx X S 0 [.ref (aD (xw X) 1), .int p, .int x, .int y] []
  refine r_aload_n 0 h dX2_put_0 rfl rfl ?_
  refine g1_1 h lf_X2_15 dX2_put_1 ?_
  refine r_iload_n 1 h dX2_put_4 rfl rfl ?_
  refine r_iload_n 2 h dX2_put_5 rfl rfl ?_
  refine as_3 h hp dX2_put_6 ?_
  show Wx _ _ 7 _ _
  refine r_aload_n 0 h dX2_put_7 rfl rfl ?_
  refine g1_2 h lf_X2_19 dX2_put_8 ?_
  refine r_iload_n 1 h dX2_put_11 rfl rfl ?_
  refine r_iload_n 3 h dX2_put_12 rfl rfl ?_
  refine as_4 h hp dX2_put_13 ?_
  exact r_vret h hr dX2_put_14 ⟨rfl, rfl⟩
set_option maxRecDepth 100000 in
set_option maxHeartbeats 4000000 in
theorem mX2_setPace (l : Launch) (w : Fx) (S : St) (p x y : Int32) (hp : vp_in p 40) : Ct l yX2_setPace cX2_setPace 4 none 0 w [.ref (aD w 1), .int p, .int x, .int y] S (fun v S' => v = none ∧ S' = spcS S p x y) := by
  refine Ct.of (by decide) (Nat.le_of_ble_eq_true rfl) (fun X h hr hl hw => ?_)
  subst hl hw
  have h : Ok X cX2_setPace RX2 0 := h
  show Wx X S 0 [.ref (aD (xw X) 1), .int p, .int x, .int y] []
  refine r_aload_n 0 h dX2_setPace_0 rfl rfl ?_
  refine g1_4 h lf_X2_25 dX2_setPace_1 ?_
  refine r_iload_n 1 h dX2_setPace_4 rfl rfl ?_
  refine r_iload_n 2 h dX2_setPace_5 rfl rfl ?_
  refine as_6 h hp dX2_setPace_6 ?_
  show Wx _ _ 7 _ _
  refine r_aload_n 0 h dX2_setPace_7 rfl rfl ?_
  refine g1_5 h lf_X2_28 dX2_setPace_8 ?_
  refine r_iload_n 1 h dX2_setPace_11 rfl rfl ?_
  refine r_iload_n 3 h dX2_setPace_12 rfl rfl ?_
  refine as_7 h hp dX2_setPace_13 ?_
  exact r_vret h hr dX2_setPace_14 ⟨rfl, rfl⟩
set_option maxRecDepth 100000 in
set_option maxHeartbeats 4000000 in
theorem mX2_add (l : Launch) (w : Fx) (S : St) (p x y z : Int32) (hp : vp_in p 40) : Ct l yX2_add cX2_add 5 none 1 w [.ref (aD w 1), .int p, .int x, .int y, .int z] S (fun v S' => v = none ∧ S' = addS S p x y z) := by
  refine Ct.of (by decide) (Nat.le_of_ble_eq_true rfl) (fun X h hr hl hw => ?_)
  subst hl hw
  have h : Ok X cX2_add RX2 1 := h
  show Wx X S 0 [.ref (aD (xw X) 1), .int p, .int x, .int y, .int z] []
  refine r_aload_n 0 h dX2_add_0 rfl rfl ?_
  refine g1_0 h lf_X2_9 dX2_add_1 ?_
  refine r_iload_n 1 h dX2_add_4 rfl rfl ?_
  refine r_iconst 1 h dX2_add_5 (by decide) ?_
  refine as1_2 h hp dX2_add_6 ?_
  show Wx _ _ 7 _ _
  refine r_aload_n 0 h dX2_add_7 rfl rfl ?_
  refine r_iload_n 1 h dX2_add_8 rfl rfl ?_
  refine r_iload_n 2 h dX2_add_9 rfl rfl ?_
  refine r_iload_n 3 h dX2_add_10 rfl rfl ?_
  refine cV3v h (mX2_put _ _ _ p x y hp) kX2_put lm_X2_35 (by decide) 1 (pl_1 _ _) rfl (Nat.le_of_ble_eq_true rfl) dX2_add_11 ?_
  refine r_aload_n 0 h dX2_add_14 rfl rfl ?_
  show Wx _ _ 15 _ _
  refine g1_3 h lf_X2_22 dX2_add_15 ?_
  refine r_iload_n 1 h dX2_add_18 rfl rfl ?_
  refine r_iload h dX2_add_19 rfl ?_
  refine as_5 h hp dX2_add_21 ?_
  refine r_aload_n 0 h dX2_add_22 rfl rfl ?_
  refine r_iload_n 1 h dX2_add_23 rfl rfl ?_
  show Wx _ _ 24 _ _
  refine r_iconst 0 h dX2_add_24 (by decide) ?_
  refine r_iconst 0 h dX2_add_25 (by decide) ?_
  refine cV3v h (mX2_setPace _ _ _ p 0 0 hp) kX2_setPace lm_X2_39 (by decide) 1 (pl_1 _ _) rfl (Nat.le_of_ble_eq_true rfl) dX2_add_26 ?_
  refine r_aload_n 0 h dX2_add_29 rfl rfl ?_
  refine r_dup h dX2_add_30 rfl ?_
  refine g1_6 h lf_X2_31 dX2_add_31 ?_
  show Wx _ _ 34 _ _
  refine r_iconst 1 h dX2_add_34 (by decide) ?_
  refine r_iadd h dX2_add_35 ?_
  refine p1_6 h lf_X2_31 dX2_add_36 ?_
  exact r_vret h hr dX2_add_39 ⟨rfl, rfl⟩
set_option maxRecDepth 100000 in
set_option maxHeartbeats 4000000 in
theorem mX2_remove (l : Launch) (w : Fx) (S : St) (p : Int32) (hp : vp_in p 40) : Ct l yX2_remove cX2_remove 2 none 0 w [.ref (aD w 1), .int p] S (fun v S' => v = none ∧ S' = remS S p) := by
  refine Ct.of (by decide) (Nat.le_of_ble_eq_true rfl) (fun X h hr hl hw => ?_)
  subst hl hw
  have h : Ok X cX2_remove RX2 0 := h
  show Wx X S 0 [.ref (aD (xw X) 1), .int p] []
  refine r_aload_n 0 h dX2_remove_0 rfl rfl ?_
  refine g1_0 h lf_X2_9 dX2_remove_1 ?_
  refine r_iload_n 1 h dX2_remove_4 rfl rfl ?_
  refine r_iconst 0 h dX2_remove_5 (by decide) ?_
  refine as0_2 h hp dX2_remove_6 ?_
  show Wx _ _ 7 _ _
  refine r_aload_n 0 h dX2_remove_7 rfl rfl ?_
  refine r_dup h dX2_remove_8 rfl ?_
  refine g1_6 h lf_X2_31 dX2_remove_9 ?_
  refine r_iconst 1 h dX2_remove_12 (by decide) ?_
  refine r_isub h dX2_remove_13 ?_
  refine p1_6 h lf_X2_31 dX2_remove_14 ?_
  show Wx _ _ 17 _ _
  exact r_vret h hr dX2_remove_17 ⟨rfl, rfl⟩
set_option maxRecDepth 100000 in
set_option maxHeartbeats 4000000 in
theorem mX2_read (l : Launch) (w : Fx) (S : St) (p q : Int32) (hp : vp_in p 40) : Ct l yX2_read cX2_read 3 (some .int) 0 w [.ref (aD w 1), .int p, .int q] S (fun v S' => v = some (.int (readI S p q)) ∧ S' = S) := by
  refine Ct.of (by decide) (Nat.le_of_ble_eq_true rfl) (fun X h hr hl hw => ?_)
  subst hl hw
  have h : Ok X cX2_read RX2 0 := h
  show Wx X S 0 [.ref (aD (xw X) 1), .int p, .int q] []
  refine r_iload_n 2 h dX2_read_0 rfl rfl ?_
  refine r_sw5 71 36 43 50 57 64 h dX2_read_1 (by decide) (by decide) (by decide) (by decide) (by decide) (by decide)  (fun c1 => ?_) (fun c1 => ?_) (fun c1 => ?_) (fun c1 => ?_) (fun c1 => ?_) (fun c1 => ?_) 
  · refine r_sipush (-2000) h dX2_read_71 (by decide) ?_
    exact r_iret h hr dX2_read_74 ⟨by unfold readI; rw [if_neg, if_neg, if_neg, if_neg, if_neg] <;> (intro z; subst z; revert c1; decide), rfl⟩
  · refine r_aload_n 0 h dX2_read_36 rfl rfl ?_
    refine g1_1 h lf_X2_15 dX2_read_37 ?_
    refine r_iload_n 1 h dX2_read_40 rfl rfl ?_
    refine al_3 h hp dX2_read_41 ?_
    exact r_iret h hr dX2_read_42 ⟨by subst c1; rfl, rfl⟩
  · refine r_aload_n 0 h dX2_read_43 rfl rfl ?_
    refine g1_2 h lf_X2_19 dX2_read_44 ?_
    refine r_iload_n 1 h dX2_read_47 rfl rfl ?_
    refine al_4 h hp dX2_read_48 ?_
    exact r_iret h hr dX2_read_49 ⟨by subst c1; rfl, rfl⟩
  · refine r_aload_n 0 h dX2_read_50 rfl rfl ?_
    refine g1_3 h lf_X2_22 dX2_read_51 ?_
    refine r_iload_n 1 h dX2_read_54 rfl rfl ?_
    refine al_5 h hp dX2_read_55 ?_
    exact r_iret h hr dX2_read_56 ⟨by subst c1; rfl, rfl⟩
  · refine r_aload_n 0 h dX2_read_57 rfl rfl ?_
    refine g1_4 h lf_X2_25 dX2_read_58 ?_
    refine r_iload_n 1 h dX2_read_61 rfl rfl ?_
    refine al_6 h hp dX2_read_62 ?_
    exact r_iret h hr dX2_read_63 ⟨by subst c1; rfl, rfl⟩
  · refine r_aload_n 0 h dX2_read_64 rfl rfl ?_
    refine g1_5 h lf_X2_28 dX2_read_65 ?_
    refine r_iload_n 1 h dX2_read_68 rfl rfl ?_
    refine al_7 h hp dX2_read_69 ?_
    exact r_iret h hr dX2_read_70 ⟨by subst c1; rfl, rfl⟩
set_option maxRecDepth 100000 in
set_option maxHeartbeats 4000000 in
theorem mX2_wholeBulk (l : Launch) (w : Fx) (S : St) : Ct l yX2_wholeBulk cX2_wholeBulk 3 (some .int) 1 w [.ref (aD w 1)] S (fun v S' => v = some (.int (blkI S 40)) ∧ S' = S) := by
  refine Ct.of (by decide) (Nat.le_of_ble_eq_true rfl) (fun X h hr hl hw => ?_)
  subst hl hw
  have h : Ok X cX2_wholeBulk RX2 1 := h
  show Wx X S 0 [.ref (aD (xw X) 1), .null, .null] []
  have loop : ∀ n i : Nat, i + n = 40 → Wx X S 4 [.ref (aD (xw X) 1), .int (blkI S i), .int (nI i)] [] := by
    intro n
    induction n with
    | zero =>
      intro i hi
      have hi : i = 40 := by omega
      subst hi
      refine r_iload_n 2 h dX2_wholeBulk_4 rfl rfl ?_
      refine r_bipush 40 h dX2_wholeBulk_5 (by decide) ?_
      refine r_icmp_ge_t 37 h dX2_wholeBulk_7 (by decide) (bigT (a := 40) (by omega) (by omega)) ?_
      refine r_iload_n 1 h dX2_wholeBulk_37 rfl rfl ?_
      exact r_iret h hr dX2_wholeBulk_38 ⟨rfl, rfl⟩
    | succ n ih =>
      intro i hi
      have hq := ih (i + 1) (by omega)
      unfold blkI at hq
      refine r_iload_n 2 h dX2_wholeBulk_4 rfl rfl ?_
      refine r_bipush 40 h dX2_wholeBulk_5 (by decide) ?_
      refine r_icmp_ge_f 37 h dX2_wholeBulk_7 (by decide) (bigF (a := 40) (by omega) (by omega)) ?_
      refine r_aload_n 0 h dX2_wholeBulk_10 rfl rfl ?_
      refine g1_0 h lf_X2_9 dX2_wholeBulk_11 ?_
      show Wx _ _ 14 _ _
      refine r_iload_n 2 h dX2_wholeBulk_14 rfl rfl ?_
      refine alN_2 h (by omega) dX2_wholeBulk_15 ?_
      refine r_if_eq 31 h dX2_wholeBulk_16 (by decide) (fun c16 => ?_) (fun c16 => ?_)
      · refine r_iincN h dX2_wholeBulk_31 rfl ?_
        show Wx _ _ _ [_, _, _] _
        refine r_goto 4 h dX2_wholeBulk_34 (by decide) ?_
        first | (rw [if_pos c16] at hq; exact hq) | (rw [if_neg c16] at hq; exact hq)
      · refine r_iload_n 1 h dX2_wholeBulk_19 rfl rfl ?_
        refine r_aload_n 0 h dX2_wholeBulk_20 rfl rfl ?_
        refine g1_3 h lf_X2_22 dX2_wholeBulk_21 ?_
        refine r_iload_n 2 h dX2_wholeBulk_24 rfl rfl ?_
        refine alN_5 h (by omega) dX2_wholeBulk_25 ?_
        show Wx _ _ 26 _ _
        refine r_absI h lm_X2_42 (by decide) (Nat.le_of_ble_eq_true rfl) dX2_wholeBulk_26 ?_
        refine r_iadd h dX2_wholeBulk_29 ?_
        refine r_istore_n 1 h dX2_wholeBulk_30 rfl (Nat.le_of_ble_eq_true rfl) ?_
        show Wx _ _ _ [_, _, _] _
        refine r_iincN h dX2_wholeBulk_31 rfl ?_
        show Wx _ _ _ [_, _, _] _
        refine r_goto 4 h dX2_wholeBulk_34 (by decide) ?_
        first | (rw [if_pos c16] at hq; exact hq) | (rw [if_neg c16] at hq; exact hq)
  refine r_iconst 0 h dX2_wholeBulk_0 (by decide) ?_
  refine r_istore_n 1 h dX2_wholeBulk_1 rfl (Nat.le_of_ble_eq_true rfl) ?_
  show Wx _ _ _ [_, _, _] _
  refine r_iconst 0 h dX2_wholeBulk_2 (by decide) ?_
  refine r_istore_n 2 h dX2_wholeBulk_3 rfl (Nat.le_of_ble_eq_true rfl) ?_
  show Wx _ _ _ [_, _, _] _
  exact loop 40 0 rfl
set_option maxRecDepth 100000 in
set_option maxHeartbeats 4000000 in
theorem mX2_rankKey (l : Launch) (w : Fx) (S : St) (p x y : Int32) (hp : vp_in p 40) : Ct l yX2_rankKey cX2_rankKey 6 (some .int) 0 w [.ref (aD w 1), .int p, .int x, .int y] S (fun v S' => v = some (.int (rkI S p x y)) ∧ S' = S) := by
  refine Ct.of (by decide) (Nat.le_of_ble_eq_true rfl) (fun X h hr hl hw => ?_)
  subst hl hw
  have h : Ok X cX2_rankKey RX2 0 := h
  show Wx X S 0 [.ref (aD (xw X) 1), .int p, .int x, .int y, .null, .null] []
  refine r_aload_n 0 h dX2_rankKey_0 rfl rfl ?_
  refine g1_1 h lf_X2_15 dX2_rankKey_1 ?_
  refine r_iload_n 1 h dX2_rankKey_4 rfl rfl ?_
  refine al_3 h hp dX2_rankKey_5 ?_
  refine r_iload_n 2 h dX2_rankKey_6 rfl rfl ?_
  show Wx _ _ 7 _ _
  refine r_isub h dX2_rankKey_7 ?_
  refine r_istore h dX2_rankKey_8 (Nat.le_of_ble_eq_true rfl) ?_
  show Wx _ _ _ [_, _, _, _, _, _] _
  refine r_aload_n 0 h dX2_rankKey_10 rfl rfl ?_
  refine g1_2 h lf_X2_19 dX2_rankKey_11 ?_
  refine r_iload_n 1 h dX2_rankKey_14 rfl rfl ?_
  refine al_4 h hp dX2_rankKey_15 ?_
  show Wx _ _ 16 _ _
  refine r_iload_n 3 h dX2_rankKey_16 rfl rfl ?_
  refine r_isub h dX2_rankKey_17 ?_
  refine r_istore h dX2_rankKey_18 (Nat.le_of_ble_eq_true rfl) ?_
  show Wx _ _ _ [_, _, _, _, _, _] _
  refine r_iload h dX2_rankKey_20 rfl ?_
  refine r_iload h dX2_rankKey_22 rfl ?_
  refine r_imul h dX2_rankKey_24 ?_
  show Wx _ _ 25 _ _
  refine r_iload h dX2_rankKey_25 rfl ?_
  refine r_iload h dX2_rankKey_27 rfl ?_
  refine r_imul h dX2_rankKey_29 ?_
  refine r_iadd h dX2_rankKey_30 ?_
  refine r_bipush 40 h dX2_rankKey_31 (by decide) ?_
  refine r_imul h dX2_rankKey_33 ?_
  show Wx _ _ 34 _ _
  refine r_iload_n 1 h dX2_rankKey_34 rfl rfl ?_
  refine r_iadd h dX2_rankKey_35 ?_
  exact r_iret h hr dX2_rankKey_36 ⟨rfl, rfl⟩
set_option maxRecDepth 100000 in
set_option maxHeartbeats 4000000 in
theorem mX2_nearerThan (l : Launch) (w : Fx) (S : St) (p x y : Int32) (hp : vp_in p 40) : Ct l yX2_nearerThan cX2_nearerThan 7 (some .int) 1 w [.ref (aD w 1), .int p, .int x, .int y] S (fun v S' => v = some (.int (nrI S p x y 40)) ∧ S' = S) := by
  refine Ct.of (by decide) (Nat.le_of_ble_eq_true rfl) (fun X h hr hl hw => ?_)
  subst hl hw
  have h : Ok X cX2_nearerThan RX2 1 := h
  show Wx X S 0 [.ref (aD (xw X) 1), .int p, .int x, .int y, .null, .null, .null] []
  have loop : ∀ n i : Nat, i + n = 40 → Wx X S 15 [.ref (aD (xw X) 1), .int p, .int x, .int y, .int (rkI S p x y), .int (nrI S p x y i), .int (nI i)] [] := by
    intro n
    induction n with
    | zero =>
      intro i hi
      have hi : i = 40 := by omega
      subst hi
      refine r_iload h dX2_nearerThan_15 rfl ?_
      refine r_bipush 40 h dX2_nearerThan_17 (by decide) ?_
      refine r_icmp_ge_t 54 h dX2_nearerThan_19 (by decide) (bigT (a := 40) (by omega) (by omega)) ?_
      refine r_iload h dX2_nearerThan_54 rfl ?_
      exact r_iret h hr dX2_nearerThan_56 ⟨rfl, rfl⟩
    | succ n ih =>
      intro i hi
      have hq := ih (i + 1) (by omega)
      unfold nrI at hq
      refine r_iload h dX2_nearerThan_15 rfl ?_
      refine r_bipush 40 h dX2_nearerThan_17 (by decide) ?_
      refine r_icmp_ge_f 54 h dX2_nearerThan_19 (by decide) (bigF (a := 40) (by omega) (by omega)) ?_
      refine r_aload_n 0 h dX2_nearerThan_22 rfl rfl ?_
      refine g1_0 h lf_X2_9 dX2_nearerThan_23 ?_
      show Wx _ _ 26 _ _
      refine r_iload h dX2_nearerThan_26 rfl ?_
      refine alN_2 h (by omega) dX2_nearerThan_28 ?_
      refine r_if_eq 48 h dX2_nearerThan_29 (by decide) (fun c29 => ?_) (fun c29 => ?_)
      · refine r_iincN h dX2_nearerThan_48 rfl ?_
        show Wx _ _ _ [_, _, _, _, _, _, _] _
        refine r_goto 15 h dX2_nearerThan_51 (by decide) ?_
        first | (rw [if_pos c29] at hq; exact hq) | (rw [if_neg c29, if_pos c42] at hq; exact hq) | (rw [if_neg c29, if_neg c42] at hq; exact hq)
      · refine r_aload_n 0 h dX2_nearerThan_32 rfl rfl ?_
        refine r_iload h dX2_nearerThan_33 rfl ?_
        refine r_iload_n 2 h dX2_nearerThan_35 rfl rfl ?_
        refine r_iload_n 3 h dX2_nearerThan_36 rfl rfl ?_
        refine cV3 h (mX2_rankKey _ _ _ (nI i) x y (vin (by omega))) kX2_rankKey lm_X2_48 (by decide) 1 (pl_1 _ _) rfl (Nat.le_of_ble_eq_true rfl) dX2_nearerThan_37 ?_
        show Wx _ _ 40 _ _
        refine r_iload h dX2_nearerThan_40 rfl ?_
        refine r_icmp_ge 48 h dX2_nearerThan_42 (by decide) (fun c42 => ?_) (fun c42 => ?_)
        · refine r_iincN h dX2_nearerThan_48 rfl ?_
          show Wx _ _ _ [_, _, _, _, _, _, _] _
          refine r_goto 15 h dX2_nearerThan_51 (by decide) ?_
          first | (rw [if_pos c29] at hq; exact hq) | (rw [if_neg c29, if_pos c42] at hq; exact hq) | (rw [if_neg c29, if_neg c42] at hq; exact hq)
        · refine r_iinc 1 h dX2_nearerThan_45 (by decide) rfl ?_
          show Wx _ _ _ [_, _, _, _, _, _, _] _
          refine r_iincN h dX2_nearerThan_48 rfl ?_
          show Wx _ _ _ [_, _, _, _, _, _, _] _
          refine r_goto 15 h dX2_nearerThan_51 (by decide) ?_
          first | (rw [if_pos c29] at hq; exact hq) | (rw [if_neg c29, if_pos c42] at hq; exact hq) | (rw [if_neg c29, if_neg c42] at hq; exact hq)
  refine r_aload_n 0 h dX2_nearerThan_0 rfl rfl ?_
  refine r_iload_n 1 h dX2_nearerThan_1 rfl rfl ?_
  refine r_iload_n 2 h dX2_nearerThan_2 rfl rfl ?_
  refine r_iload_n 3 h dX2_nearerThan_3 rfl rfl ?_
  refine cV3 h (mX2_rankKey _ _ _ p x y hp) kX2_rankKey lm_X2_48 (by decide) 1 (pl_1 _ _) rfl (Nat.le_of_ble_eq_true rfl) dX2_nearerThan_4 ?_
  show Wx _ _ 7 _ _
  refine r_istore h dX2_nearerThan_7 (Nat.le_of_ble_eq_true rfl) ?_
  show Wx _ _ _ [_, _, _, _, _, _, _] _
  refine r_iconst 0 h dX2_nearerThan_9 (by decide) ?_
  refine r_istore h dX2_nearerThan_10 (Nat.le_of_ble_eq_true rfl) ?_
  show Wx _ _ _ [_, _, _, _, _, _, _] _
  refine r_iconst 0 h dX2_nearerThan_12 (by decide) ?_
  refine r_istore h dX2_nearerThan_13 (Nat.le_of_ble_eq_true rfl) ?_
  show Wx _ _ _ [_, _, _, _, _, _, _] _
  exact loop 40 0 rfl
