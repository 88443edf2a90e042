def offN (l : Nat) : Nat := ([0, 1, 5, 21, 85, 341] : List Nat).getD l 0
def numN (l x : Nat) : Nat := x / 2 ^ (6 - l)
def bixN (l i j : Nat) : Nat := offN l + j * 2 ^ l + i
def pixN (l a b : Nat) : Nat := bixN l (numN l a) (numN l b)
theorem tabF_N {l : Nat} (h : l < 6) : tabF l = nI (offN l) := by
  have key : ∀ l : Fin 6, tabF l.val = nI (offN l.val) := by decide +kernel
  exact key ⟨l, h⟩
theorem shr_a {l : Nat} (h : l < 7) : ((((6 : Int32) - nI l) &&& 31).toBitVec.smod 32).toNat = 6 - l := by
  have key : ∀ l : Fin 7, ((((6 : Int32) - nI l.val) &&& 31).toBitVec.smod 32).toNat = 6 - l.val := by decide +kernel
  exact key ⟨l, h⟩
theorem shl_a {l : Nat} (h : l < 32) : ((nI l &&& 31).toBitVec.smod 32).toNat = l := by
  have key : ∀ l : Fin 32, ((nI l.val &&& 31).toBitVec.smod 32).toNat = l.val := by decide +kernel
  exact key ⟨l, h⟩
theorem num_N {l x : Nat} (hl : l < 7) (hx : x < 2 ^ 31) : numI (nI l) (nI x) = nI (numN l x) := pk_shrN hx _ _ (shr_a hl)
theorem p2_lt {l : Nat} (h : l ≤ 5) : 2 ^ l ≤ 32 := by
  have : 2 ^ l ≤ 2 ^ 5 := Nat.pow_le_pow_right (by decide) h
  simpa using this
theorem mul_lt32 {l j : Nat} (hl : l ≤ 5) (hj : j < 2 ^ l) : j * 2 ^ l < 1024 + 1 := by
  have h1 := p2_lt hl
  have h2 : j * 2 ^ l ≤ 32 * 32 := Nat.mul_le_mul (by omega) h1
  omega
theorem bix_N {l i j : Nat} (hl : l ≤ 5) (hi : i < 2 ^ l) (hj : j < 2 ^ l) : bixI (nI l) (nI i) (nI j) = nI (bixN l i j) := by
  unfold bixI bixN
  have h1 := mul_lt32 hl hj
  rw [ncl (by omega), tabF_N (by omega), pk_shlN _ l (shl_a (by omega)) (by omega), nI_add, nI_add]
theorem off_le {l : Nat} (h : l ≤ 5) : offN l + 2 ^ l * 2 ^ l ≤ 1365 := by
  have key : ∀ l : Fin 6, offN l.val + 2 ^ l.val * 2 ^ l.val ≤ 1365 := by decide
  exact key ⟨l, by omega⟩
theorem bix_lt {l i j : Nat} (hl : l ≤ 5) (hi : i < 2 ^ l) (hj : j < 2 ^ l) : bixN l i j < 1365 := by
  have h1 := off_le hl
  have h2 : (j + 1) * 2 ^ l ≤ 2 ^ l * 2 ^ l := Nat.mul_le_mul_right _ hj
  rw [Nat.succ_mul] at h2
  unfold bixN
  omega
theorem num_lt {l x : Nat} (hl : l ≤ 6) (hx : x < 64) : numN l x < 2 ^ l := by
  unfold numN
  apply Nat.div_lt_of_lt_mul
  rw [← Nat.pow_add, show 6 - l + l = 6 by omega]
  exact hx
theorem pix_lt {l a b : Nat} (hl : l ≤ 5) (ha : a < 64) (hb : b < 64) : pixN l a b < 1365 := bix_lt hl (num_lt (by omega) ha) (num_lt (by omega) hb)
theorem pix_N {l a b : Nat} (hl : l ≤ 5) (ha : a < 64) (hb : b < 64) : pixI (nI l) (nI a) (nI b) = nI (pixN l a b) := by
  unfold pixI pixN
  rw [num_N (by omega) (by omega), num_N (by omega) (by omega), bix_N hl (num_lt (by omega) ha) (num_lt (by omega) hb)]
theorem mX0_placeIndexN (l : Launch) (w : Fx) (S : St) (i a b : Nat) (hi : i ≤ 5) (ha : a < 64) (hb : b < 64) : Ct l yX0_placeIndex cX0_placeIndex 3 (some .int) 1 w [.int (nI i), .int (nI a), .int (nI b)] S (fun v S' => v = some (.int (nI (pixN i a b))) ∧ S' = S) := by
  have := mX0_placeIndex l w S (nI i) (nI a) (nI b) (vin (by omega))
  rwa [pix_N hi ha hb] at this
theorem mX0_boxIndexN (l : Launch) (w : Fx) (S : St) (k i j : Nat) (hk : k ≤ 5) (hi : i < 2 ^ k) (hj : j < 2 ^ k) : Ct l yX0_boxIndex cX0_boxIndex 3 (some .int) 0 w [.int (nI k), .int (nI i), .int (nI j)] S (fun v S' => v = some (.int (nI (bixN k i j))) ∧ S' = S) := by
  have := mX0_boxIndex l w S (nI k) (nI i) (nI j) (vin (by omega))
  rwa [bix_N hk hi hj] at this
def entS (S : St) (a b : Nat) : Nat → St
  | 0 => S
  | i + 1 => sI (entS S a b i) 7 (pixN i a b) ((entS S a b i).1 7 (pixN i a b) + 1)
def leaS (S : St) (a b : Nat) : Nat → St
  | 0 => S
  | i + 1 => sI (leaS S a b i) 7 (pixN i a b) ((leaS S a b i).1 7 (pixN i a b) - 1)
def splI (S : St) (l i j : Nat) : Int32 := if (5 : Int32) ≤ nI l then 0 else if S.1 7 (bixN l i j) ≤ S.1 8 0 then 0 else 1
def spbI (S : St) : Nat → Int32
  | 0 => 0
  | i + 1 => if S.1 7 i ≤ S.1 8 0 then spbI S i else spbI S i + 1
def srI (S : St) (lev nxt : Int32) : Nat → Nat → Int32
  | 0, _ => nxt
  | c + 1, n => if S.1 7 n ≤ S.1 8 0 then srI S lev nxt c (n + 1) else lev
def grI (S : St) : Nat → Int32
  | 0 => 0
  | m + 1 => srI S (nI (m + 1)) (grI S m) (offN (m + 1) - offN m) (offN m)
def lvI (S : St) (a b : Nat) : Nat → Nat → Int32
  | 0, _ => 5
  | n + 1, i => if S.1 8 0 < S.1 7 (pixN i a b) then lvI S a b n (i + 1) else nI i
def holI (S : St) (l i j : Int32) (p : Nat) : Int32 := if S.1 0 p = 0 then 0 else if numI l (S.1 1 p) = i then (if numI l (S.1 2 p) = j then 1 else 0) else 0
def amB (T : St) (a : Nat) (v dy : Int64) : Nat → St
  | 0 => T
  | b + 1 => sJ (amB T a v dy b) 0 (a * 5 + b) ((amB T a v dy b).2 0 (a * 5 + b) + pw v dy b)
def amA (T : St) (v dx dy : Int64) : Nat → St
  | 0 => T
  | a + 1 => amB (amA T v dx dy a) a (pw v dx a) dy (5 - a)
def gaP (T : St) (l i j : Int32) (p : Nat) : St := amA T (T.1 3 p).toInt64 (frmI (T.1 1 p) l i).toInt64 (frmI (T.1 2 p) l j).toInt64 5
def gaT (S : St) (l i j : Int32) : Nat → St
  | 0 => sI (clrS S 0 25) 9 0 0
  | p + 1 => if holI (gaT S l i j p) l i j p = 0 then gaT S l i j p else sI (gaP (gaT S l i j p) l i j p) 9 0 ((gaP (gaT S l i j p) l i j p).1 9 0 + absI ((gaP (gaT S l i j p) l i j p).1 3 p))
def gatS (S : St) (l i j : Int32) : St := gaT S l i j 40
theorem amB_s {T : St} {a b : Nat} {v dy : Int64} : amB T a v dy (b + 1) = sJ (amB T a v dy b) 0 (a * 5 + b) ((amB T a v dy b).2 0 (a * 5 + b) + pw v dy b) := rfl
theorem amA_s {T : St} {a : Nat} {v dx dy : Int64} : amA T v dx dy (a + 1) = amB (amA T v dx dy a) a (pw v dx a) dy (5 - a) := rfl
theorem gaT_s {S : St} {l i j : Int32} {p : Nat} : gaT S l i j (p + 1) = if holI (gaT S l i j p) l i j p = 0 then gaT S l i j p else sI (gaP (gaT S l i j p) l i j p) 9 0 ((gaP (gaT S l i j p) l i j p).1 9 0 + absI ((gaP (gaT S l i j p) l i j p).1 3 p)) := rfl
theorem lvI_s {S : St} {a b n i : Nat} : lvI S a b (n + 1) i = if S.1 8 0 < S.1 7 (pixN i a b) then lvI S a b n (i + 1) else nI i := rfl
theorem srI_s {S : St} {lev nxt : Int32} {c n : Nat} : srI S lev nxt (c + 1) n = if S.1 7 n ≤ S.1 8 0 then srI S lev nxt c (n + 1) else lev := rfl
theorem grI_s {S : St} {m : Nat} : grI S (m + 1) = srI S (nI (m + 1)) (grI S m) (offN (m + 1) - offN m) (offN m) := rfl
/-- the answer of isThere, for any numbers -/
def thrI (S : St) (l i j : Int32) : Int32 := if l < 0 then 0 else if l ≤ 5 then (if i < 0 then 0 else if 1 <<< (l &&& 31) ≤ i then 0 else if j < 0 then 0 else if j < 1 <<< (l &&& 31) then (if l = 0 then 1 else if S.1 7 (bixN (l.toNatClampNeg - 1) (i.toNatClampNeg / 2) (j.toNatClampNeg / 2)) ≤ S.1 8 0 then 0 else 1) else 0) else 0
theorem one_shl {l : Nat} (h : l ≤ 5) : (1 : Int32) <<< (nI l &&& 31) = nI (2 ^ l) := by
  have key : ∀ l : Fin 6, (1 : Int32) <<< (nI l.val &&& 31) = nI (2 ^ l.val) := by decide +kernel
  exact key ⟨l, by omega⟩
theorem box_at {l i j : Int32} (c0 : ¬ l < 0) (c1 : l ≤ 5) (c2 : ¬ i < 0) (c3 : ¬ (1 : Int32) <<< (l &&& 31) ≤ i) (c4 : ¬ j < 0) (c5 : j < (1 : Int32) <<< (l &&& 31)) : ∃ k a b : Nat, k ≤ 5 ∧ a < 2 ^ k ∧ b < 2 ^ k ∧ l = nI k ∧ i = nI a ∧ j = nI b := by
  obtain ⟨k, hk, rfl⟩ := nI_of2 (M := 5) (n := 5) (by decide) c0 c1
  have hp := p2_lt hk
  rw [one_shl hk] at c3 c5
  have q1 : ¬ nI (2 ^ k) ≤ j := Int32.not_le.mpr c5
  obtain ⟨a, ha, rfl⟩ := vp_in_of (ixN (N := 2 ^ k) (by omega) c2 c3) (by omega)
  obtain ⟨b, hb, rfl⟩ := vp_in_of (ixN (N := 2 ^ k) (by omega) c4 q1) (by omega)
  exact ⟨k, a, b, hk, ha, hb, rfl, rfl, rfl⟩
theorem shr1 {a : Nat} (h : a < 2 ^ 31) : nI a >>> ((1 : Int32) &&& 31) = nI (a / 2) := pk_shrN h _ 1 (by decide)
theorem half_lt {a k : Nat} (h : a < 2 ^ (k + 1)) : a / 2 < 2 ^ k := by
  rw [Nat.pow_succ] at h
  omega
theorem thr_at {S : St} {l i j : Int32} (h : ¬ thrI S l i j = 0) : ∃ k a b : Nat, k ≤ 5 ∧ a < 2 ^ k ∧ b < 2 ^ k ∧ l = nI k ∧ i = nI a ∧ j = nI b := by
  unfold thrI at h
  by_cases c0 : l < 0
  · rw [if_pos c0] at h; exact absurd rfl h
  by_cases c1 : l ≤ 5
  · rw [if_neg c0, if_pos c1] at h
    by_cases c2 : i < 0
    · rw [if_pos c2] at h; exact absurd rfl h
    by_cases c3 : (1 : Int32) <<< (l &&& 31) ≤ i
    · rw [if_neg c2, if_pos c3] at h; exact absurd rfl h
    by_cases c4 : j < 0
    · rw [if_neg c2, if_neg c3, if_pos c4] at h; exact absurd rfl h
    by_cases c5 : j < (1 : Int32) <<< (l &&& 31)
    · exact box_at c0 c1 c2 c3 c4 c5
    · rw [if_neg c2, if_neg c3, if_neg c4, if_neg c5] at h; exact absurd rfl h
  · rw [if_neg c0, if_neg c1] at h; exact absurd rfl h
set_option maxRecDepth 100000 in
set_option maxHeartbeats 4000000 in
theorem mX0_enter (l : Launch) (w : Fx) (S : St) (a b : Nat) (ha : a < 64) (hb : b < 64) : Ct l yX0_enter cX0_enter 4 none 2 w [.ref (aD w 8), .int (nI a), .int (nI b)] S (fun v S' => v = none ∧ S' = entS S a b 6) := by
  refine Ct.of (by decide) (Nat.le_of_ble_eq_true rfl) (fun X h hr hl hw => ?_)
  subst hl hw
  have h : Ok X cX0_enter RX0 2 := h
  show Wx X S 0 [.ref (aD (xw X) 8), .int (nI a), .int (nI b), .null] []
  have loop : ∀ n i : Nat, i + n = 6 → Wx X (entS S a b i) 2 [.ref (aD (xw X) 8), .int (nI a), .int (nI b), .int (nI i)] [] := by
    intro n
    induction n with
    | zero =>
      intro i hi
      have hi : i = 6 := by omega
      subst hi
      refine r_iload_n 3 h dX0_enter_2 rfl rfl ?_
      refine r_iconst 5 h dX0_enter_3 (by decide) ?_
      refine r_icmp_gt_t 28 h dX0_enter_4 (by decide) (gtT (a := 5) (by omega) (by omega)) ?_
      exact r_vret h hr dX0_enter_28 ⟨rfl, rfl⟩
    | succ n ih =>
      intro i hi
      have hq := ih (i + 1) (by omega)
      refine r_iload_n 3 h dX0_enter_2 rfl rfl ?_
      refine r_iconst 5 h dX0_enter_3 (by decide) ?_
      refine r_icmp_gt_f 28 h dX0_enter_4 (by decide) (gtF (a := 5) (by omega) (by omega)) ?_
      refine r_aload_n 0 h dX0_enter_7 rfl rfl ?_
      refine g8_1 h lf_X0_9 dX0_enter_8 ?_
      show Wx _ _ 11 _ _
      refine r_iload_n 3 h dX0_enter_11 rfl rfl ?_
      refine r_iload_n 1 h dX0_enter_12 rfl rfl ?_
      refine r_iload_n 2 h dX0_enter_13 rfl rfl ?_
      refine cS3 h (mX0_placeIndexN _ _ _ i a b (by omega) ha hb) kX0_placeIndex lm_X0_30 (by decide) (Nat.le_of_ble_eq_true rfl) dX0_enter_14 ?_
      have hpx := pix_lt (l := i) (by omega) ha hb
      refine r_dup2 h dX0_enter_17 rfl rfl ?_
      refine alN_9 h (by omega) dX0_enter_18 ?_
      show Wx _ _ 19 _ _
      refine r_iconst 1 h dX0_enter_19 (by decide) ?_
      refine r_iadd h dX0_enter_20 ?_
      refine asN_9 h (by omega) dX0_enter_21 ?_
      refine r_iincN h dX0_enter_22 rfl ?_
      show Wx _ _ _ [_, _, _, _] _
      refine r_goto 2 h dX0_enter_25 (by decide) ?_
      exact hq
  refine r_iconst 0 h dX0_enter_0 (by decide) ?_
  refine r_istore_n 3 h dX0_enter_1 rfl (Nat.le_of_ble_eq_true rfl) ?_
  show Wx _ _ _ [_, _, _, _] _
  exact loop 6 0 rfl
set_option maxRecDepth 100000 in
set_option maxHeartbeats 4000000 in
theorem mX0_leave (l : Launch) (w : Fx) (S : St) (a b : Nat) (ha : a < 64) (hb : b < 64) : Ct l yX0_leave cX0_leave 4 none 2 w [.ref (aD w 8), .int (nI a), .int (nI b)] S (fun v S' => v = none ∧ S' = leaS S a b 6) := by
  refine Ct.of (by decide) (Nat.le_of_ble_eq_true rfl) (fun X h hr hl hw => ?_)
  subst hl hw
  have h : Ok X cX0_leave RX0 2 := h
  show Wx X S 0 [.ref (aD (xw X) 8), .int (nI a), .int (nI b), .null] []
  have loop : ∀ n i : Nat, i + n = 6 → Wx X (leaS S a b i) 2 [.ref (aD (xw X) 8), .int (nI a), .int (nI b), .int (nI i)] [] := by
    intro n
    induction n with
    | zero =>
      intro i hi
      have hi : i = 6 := by omega
      subst hi
      refine r_iload_n 3 h dX0_leave_2 rfl rfl ?_
      refine r_iconst 5 h dX0_leave_3 (by decide) ?_
      refine r_icmp_gt_t 28 h dX0_leave_4 (by decide) (gtT (a := 5) (by omega) (by omega)) ?_
      exact r_vret h hr dX0_leave_28 ⟨rfl, rfl⟩
    | succ n ih =>
      intro i hi
      have hq := ih (i + 1) (by omega)
      refine r_iload_n 3 h dX0_leave_2 rfl rfl ?_
      refine r_iconst 5 h dX0_leave_3 (by decide) ?_
      refine r_icmp_gt_f 28 h dX0_leave_4 (by decide) (gtF (a := 5) (by omega) (by omega)) ?_
      refine r_aload_n 0 h dX0_leave_7 rfl rfl ?_
      refine g8_1 h lf_X0_9 dX0_leave_8 ?_
      show Wx _ _ 11 _ _
      refine r_iload_n 3 h dX0_leave_11 rfl rfl ?_
      refine r_iload_n 1 h dX0_leave_12 rfl rfl ?_
      refine r_iload_n 2 h dX0_leave_13 rfl rfl ?_
      refine cS3 h (mX0_placeIndexN _ _ _ i a b (by omega) ha hb) kX0_placeIndex lm_X0_30 (by decide) (Nat.le_of_ble_eq_true rfl) dX0_leave_14 ?_
      have hpx := pix_lt (l := i) (by omega) ha hb
      refine r_dup2 h dX0_leave_17 rfl rfl ?_
      refine alN_9 h (by omega) dX0_leave_18 ?_
      show Wx _ _ 19 _ _
      refine r_iconst 1 h dX0_leave_19 (by decide) ?_
      refine r_isub h dX0_leave_20 ?_
      refine asN_9 h (by omega) dX0_leave_21 ?_
      refine r_iincN h dX0_leave_22 rfl ?_
      show Wx _ _ _ [_, _, _, _] _
      refine r_goto 2 h dX0_leave_25 (by decide) ?_
      exact hq
  refine r_iconst 0 h dX0_leave_0 (by decide) ?_
  refine r_istore_n 3 h dX0_leave_1 rfl (Nat.le_of_ble_eq_true rfl) ?_
  show Wx _ _ _ [_, _, _, _] _
  exact loop 6 0 rfl
set_option maxRecDepth 100000 in
set_option maxHeartbeats 4000000 in
theorem mX0_pointsIn (l : Launch) (w : Fx) (S : St) (k i j : Nat) (hk : k ≤ 5) (hi : i < 2 ^ k) (hj : j < 2 ^ k) : Ct l yX0_pointsIn cX0_pointsIn 4 (some .int) 1 w [.ref (aD w 8), .int (nI k), .int (nI i), .int (nI j)] S (fun v S' => v = some (.int (S.1 7 (bixN k i j))) ∧ S' = S) := by
  refine Ct.of (by decide) (Nat.le_of_ble_eq_true rfl) (fun X h hr hl hw => ?_)
  subst hl hw
  have h : Ok X cX0_pointsIn RX0 1 := h
  show Wx X S 0 [.ref (aD (xw X) 8), .int (nI k), .int (nI i), .int (nI j)] []
  refine r_aload_n 0 h dX0_pointsIn_0 rfl rfl ?_
  refine g8_1 h lf_X0_9 dX0_pointsIn_1 ?_
  refine r_iload_n 1 h dX0_pointsIn_4 rfl rfl ?_
  refine r_iload_n 2 h dX0_pointsIn_5 rfl rfl ?_
  refine r_iload_n 3 h dX0_pointsIn_6 rfl rfl ?_
  show Wx _ _ 7 _ _
  refine cS3 h (mX0_boxIndexN _ _ _ k i j hk hi hj) kX0_boxIndex lm_X0_34 (by decide) (Nat.le_of_ble_eq_true rfl) dX0_pointsIn_7 ?_
  have hbx := bix_lt hk hi hj
  refine alN_9 h (by omega) dX0_pointsIn_10 ?_
  exact r_iret h hr dX0_pointsIn_11 ⟨rfl, rfl⟩
set_option maxRecDepth 100000 in
set_option maxHeartbeats 4000000 in
theorem mX0_isSplit (l : Launch) (w : Fx) (S : St) (k i j : Nat) (hk : k ≤ 5) (hi : i < 2 ^ k) (hj : j < 2 ^ k) : Ct l yX0_isSplit cX0_isSplit 4 (some .boolean) 2 w [.ref (aD w 8), .int (nI k), .int (nI i), .int (nI j)] S (fun v S' => v = some (.int (splI S k i j)) ∧ S' = S) := by
  refine Ct.of (by decide) (Nat.le_of_ble_eq_true rfl) (fun X h hr hl hw => ?_)
  subst hl hw
  have h : Ok X cX0_isSplit RX0 2 := h
  show Wx X S 0 [.ref (aD (xw X) 8), .int (nI k), .int (nI i), .int (nI j)] []
  refine r_iload_n 1 h dX0_isSplit_0 rfl rfl ?_
  refine r_iconst 5 h dX0_isSplit_1 (by decide) ?_
  refine r_icmp_ge 23 h dX0_isSplit_2 (by decide) (fun c2 => ?_) (fun c2 => ?_)
  · refine r_iconst 0 h dX0_isSplit_23 (by decide) ?_
    exact r_zret h hr dX0_isSplit_24 rfl ⟨by simp only [splI, c2, ite_true, ite_false, if_true, if_false, not_true, not_false_iff], rfl⟩
  · refine r_aload_n 0 h dX0_isSplit_5 rfl rfl ?_
    refine r_iload_n 1 h dX0_isSplit_6 rfl rfl ?_
    refine r_iload_n 2 h dX0_isSplit_7 rfl rfl ?_
    refine r_iload_n 3 h dX0_isSplit_8 rfl rfl ?_
    refine cV3 h (mX0_pointsIn _ _ _ k i j hk hi hj) kX0_pointsIn lm_X0_37 (by decide) 8 (pl_8 _ _) rfl (Nat.le_of_ble_eq_true rfl) dX0_isSplit_9 ?_
    show Wx _ _ 12 _ _
    refine r_aload_n 0 h dX0_isSplit_12 rfl rfl ?_
    refine g8_2 h lf_X0_15 dX0_isSplit_13 ?_
    refine r_icmp_le 23 h dX0_isSplit_16 (by decide) (fun c16 => ?_) (fun c16 => ?_)
    · refine r_iconst 0 h dX0_isSplit_23 (by decide) ?_
      exact r_zret h hr dX0_isSplit_24 rfl ⟨by simp only [splI, c2, c16, ite_true, ite_false, if_true, if_false, not_true, not_false_iff], rfl⟩
    · refine r_iconst 1 h dX0_isSplit_19 (by decide) ?_
      refine r_goto 24 h dX0_isSplit_20 (by decide) ?_
      exact r_zret h hr dX0_isSplit_24 rfl ⟨by simp only [splI, c2, c16, ite_true, ite_false, if_true, if_false, not_true, not_false_iff], rfl⟩
set_option maxRecDepth 100000 in
set_option maxHeartbeats 4000000 in
theorem mX0_isThere (l : Launch) (w : Fx) (S : St) (q i j : Int32) : Ct l yX0_isThere cX0_isThere 5 (some .boolean) 2 w [.ref (aD w 8), .int q, .int i, .int j] S (fun v S' => v = some (.int (thrI S q i j)) ∧ S' = S) := by
  refine Ct.of (by decide) (Nat.le_of_ble_eq_true rfl) (fun X h hr hl hw => ?_)
  subst hl hw
  have h : Ok X cX0_isThere RX0 2 := h
  show Wx X S 0 [.ref (aD (xw X) 8), .int q, .int i, .int j, .null] []
  refine r_iload_n 1 h dX0_isThere_0 rfl rfl ?_
  refine r_if_lt 9 h dX0_isThere_1 (by decide) (fun c1 => ?_) (fun c1 => ?_)
  · refine r_iconst 0 h dX0_isThere_9 (by decide) ?_
    exact r_zret h hr dX0_isThere_10 rfl ⟨by simp only [thrI, c1, ite_true, ite_false, if_true, if_false, not_true, not_false_iff], rfl⟩
  · refine r_iload_n 1 h dX0_isThere_4 rfl rfl ?_
    refine r_iconst 5 h dX0_isThere_5 (by decide) ?_
    refine r_icmp_le 11 h dX0_isThere_6 (by decide) (fun c6 => ?_) (fun c6 => ?_)
    · refine r_iconst 1 h dX0_isThere_11 (by decide) ?_
      refine r_iload_n 1 h dX0_isThere_12 rfl rfl ?_
      refine r_ishl h dX0_isThere_13 ?_
      refine r_istore h dX0_isThere_14 (Nat.le_of_ble_eq_true rfl) ?_
      show Wx _ _ _ [_, _, _, _, _] _
      refine r_iload_n 2 h dX0_isThere_16 rfl rfl ?_
      show Wx _ _ 17 _ _
      refine r_if_lt 36 h dX0_isThere_17 (by decide) (fun c17 => ?_) (fun c17 => ?_)
      · refine r_iconst 0 h dX0_isThere_36 (by decide) ?_
        exact r_zret h hr dX0_isThere_37 rfl ⟨by simp only [thrI, c1, c6, c17, ite_true, ite_false, if_true, if_false, not_true, not_false_iff], rfl⟩
      · refine r_iload_n 2 h dX0_isThere_20 rfl rfl ?_
        refine r_iload h dX0_isThere_21 rfl ?_
        refine r_icmp_ge 36 h dX0_isThere_23 (by decide) (fun c23 => ?_) (fun c23 => ?_)
        · refine r_iconst 0 h dX0_isThere_36 (by decide) ?_
          exact r_zret h hr dX0_isThere_37 rfl ⟨by simp only [thrI, c1, c6, c17, c23, ite_true, ite_false, if_true, if_false, not_true, not_false_iff], rfl⟩
        · refine r_iload_n 3 h dX0_isThere_26 rfl rfl ?_
          refine r_if_lt 36 h dX0_isThere_27 (by decide) (fun c27 => ?_) (fun c27 => ?_)
          · refine r_iconst 0 h dX0_isThere_36 (by decide) ?_
            exact r_zret h hr dX0_isThere_37 rfl ⟨by simp only [thrI, c1, c6, c17, c23, c27, ite_true, ite_false, if_true, if_false, not_true, not_false_iff], rfl⟩
          · refine r_iload_n 3 h dX0_isThere_30 rfl rfl ?_
            refine r_iload h dX0_isThere_31 rfl ?_
            refine r_icmp_lt 38 h dX0_isThere_33 (by decide) (fun c33 => ?_) (fun c33 => ?_)
            · refine r_iload_n 1 h dX0_isThere_38 rfl rfl ?_
              refine r_if_eq 62 h dX0_isThere_39 (by decide) (fun c39 => ?_) (fun c39 => ?_)
              · refine r_iconst 1 h dX0_isThere_62 (by decide) ?_
                refine r_goto 67 h dX0_isThere_63 (by decide) ?_
                exact r_zret h hr dX0_isThere_67 rfl (by refine ⟨?_, rfl⟩; rw [thrI, if_neg c1, if_pos c6, if_neg c17, if_neg c23, if_neg c27, if_pos c33]; first | (rw [if_pos c39]; done) | (rw [if_neg c39, show (nI (k + 1)).toNatClampNeg - 1 = k by rw [ncl (by omega)]; rfl, ncl (show a < 2 ^ 31 by omega), ncl (show b < 2 ^ 31 by omega)]; first | (rw [if_pos c59]; done) | (rw [if_neg c59]; done)))
              · obtain ⟨k, a, b, hk, ha, hb, rfl, rfl, rfl⟩ := box_at c1 c6 c17 c23 c27 c33
                have hk0 : 0 < k := Nat.pos_of_ne_zero (fun z => c39 (by subst z; rfl))
                obtain ⟨k, rfl⟩ : ∃ z, k = z + 1 := ⟨k - 1, by omega⟩
                have hp := p2_lt hk
                refine r_aload_n 0 h dX0_isThere_42 rfl rfl ?_
                refine r_iload_n 1 h dX0_isThere_43 rfl rfl ?_
                refine r_iconst 1 h dX0_isThere_44 (by decide) ?_
                refine r_isub h dX0_isThere_45 ?_
                rw [nI_pred]
                refine r_iload_n 2 h dX0_isThere_46 rfl rfl ?_
                show Wx _ _ 47 _ _
                refine r_iconst 1 h dX0_isThere_47 (by decide) ?_
                refine r_ishr h dX0_isThere_48 ?_
                rw [shr1 (show a < 2 ^ 31 by omega)]
                refine r_iload_n 3 h dX0_isThere_49 rfl rfl ?_
                refine r_iconst 1 h dX0_isThere_50 (by decide) ?_
                refine r_ishr h dX0_isThere_51 ?_
                rw [shr1 (show b < 2 ^ 31 by omega)]
                refine cV3 h (mX0_pointsIn _ _ _ k (a / 2) (b / 2) (by omega) (half_lt ha) (half_lt hb)) kX0_pointsIn lm_X0_37 (by decide) 8 (pl_8 _ _) rfl (Nat.le_of_ble_eq_true rfl) dX0_isThere_52 ?_
                show Wx _ _ 55 _ _
                refine r_aload_n 0 h dX0_isThere_55 rfl rfl ?_
                refine g8_2 h lf_X0_15 dX0_isThere_56 ?_
                refine r_icmp_le 66 h dX0_isThere_59 (by decide) (fun c59 => ?_) (fun c59 => ?_)
                · refine r_iconst 0 h dX0_isThere_66 (by decide) ?_
                  exact r_zret h hr dX0_isThere_67 rfl (by refine ⟨?_, rfl⟩; rw [thrI, if_neg c1, if_pos c6, if_neg c17, if_neg c23, if_neg c27, if_pos c33]; first | (rw [if_pos c39]; done) | (rw [if_neg c39, show (nI (k + 1)).toNatClampNeg - 1 = k by rw [ncl (by omega)]; rfl, ncl (show a < 2 ^ 31 by omega), ncl (show b < 2 ^ 31 by omega)]; first | (rw [if_pos c59]; done) | (rw [if_neg c59]; done)))
                · refine r_iconst 1 h dX0_isThere_62 (by decide) ?_
                  refine r_goto 67 h dX0_isThere_63 (by decide) ?_
                  exact r_zret h hr dX0_isThere_67 rfl (by refine ⟨?_, rfl⟩; rw [thrI, if_neg c1, if_pos c6, if_neg c17, if_neg c23, if_neg c27, if_pos c33]; first | (rw [if_pos c39]; done) | (rw [if_neg c39, show (nI (k + 1)).toNatClampNeg - 1 = k by rw [ncl (by omega)]; rfl, ncl (show a < 2 ^ 31 by omega), ncl (show b < 2 ^ 31 by omega)]; first | (rw [if_pos c59]; done) | (rw [if_neg c59]; done)))
            · refine r_iconst 0 h dX0_isThere_36 (by decide) ?_
              exact r_zret h hr dX0_isThere_37 rfl ⟨by simp only [thrI, c1, c6, c17, c23, c27, c33, ite_true, ite_false, if_true, if_false, not_true, not_false_iff], rfl⟩
    · refine r_iconst 0 h dX0_isThere_9 (by decide) ?_
      exact r_zret h hr dX0_isThere_10 rfl ⟨by simp only [thrI, c1, c6, ite_true, ite_false, if_true, if_false, not_true, not_false_iff], rfl⟩
set_option maxRecDepth 100000 in
set_option maxHeartbeats 4000000 in
theorem mX0_splitBoxes (l : Launch) (w : Fx) (S : St) : Ct l yX0_splitBoxes cX0_splitBoxes 3 (some .int) 0 w [.ref (aD w 8)] S (fun v S' => v = some (.int (spbI S 341)) ∧ S' = S) := by
  refine Ct.of (by decide) (Nat.le_of_ble_eq_true rfl) (fun X h hr hl hw => ?_)
  subst hl hw
  have h : Ok X cX0_splitBoxes RX0 0 := h
  show Wx X S 0 [.ref (aD (xw X) 8), .null, .null] []
  have loop : ∀ n i : Nat, i + n = 341 → Wx X (S) 4 [.ref (aD (xw X) 8), .int (spbI S i), .int (nI i)] [] := by
    intro n
    induction n with
    | zero =>
      intro i hi
      have hi : i = 341 := by omega
      subst hi
      refine r_iload_n 2 h dX0_splitBoxes_4 rfl rfl ?_
      refine gs_1 h lf_X0_40 dX0_splitBoxes_5 ?_
      refine r_iconst 5 h dX0_splitBoxes_8 (by decide) ?_
      refine at_1 h (vin (i := 5) (by decide)) dX0_splitBoxes_9 ?_
      refine r_icmp_ge_t 35 h dX0_splitBoxes_10 (by decide) (bigT (a := 341) (by omega) (by omega)) ?_
      show Wx _ _ 35 _ _
      refine r_iload_n 1 h dX0_splitBoxes_35 rfl rfl ?_
      exact r_iret h hr dX0_splitBoxes_36 ⟨rfl, rfl⟩
    | succ n ih =>
      intro i hi
      have hq := ih (i + 1) (by omega)
      unfold spbI at hq
      refine r_iload_n 2 h dX0_splitBoxes_4 rfl rfl ?_
      refine gs_1 h lf_X0_40 dX0_splitBoxes_5 ?_
      refine r_iconst 5 h dX0_splitBoxes_8 (by decide) ?_
      refine at_1 h (vin (i := 5) (by decide)) dX0_splitBoxes_9 ?_
      refine r_icmp_ge_f 35 h dX0_splitBoxes_10 (by decide) (bigF (a := 341) (by omega) (by omega)) ?_
      show Wx _ _ 13 _ _
      refine r_aload_n 0 h dX0_splitBoxes_13 rfl rfl ?_
      refine g8_1 h lf_X0_9 dX0_splitBoxes_14 ?_
      refine r_iload_n 2 h dX0_splitBoxes_17 rfl rfl ?_
      refine alN_9 h (by omega) dX0_splitBoxes_18 ?_
      refine r_aload_n 0 h dX0_splitBoxes_19 rfl rfl ?_
      refine g8_2 h lf_X0_15 dX0_splitBoxes_20 ?_
      show Wx _ _ 23 _ _
      refine r_icmp_le 29 h dX0_splitBoxes_23 (by decide) (fun c23 => ?_) (fun c23 => ?_)
      · refine r_iincN h dX0_splitBoxes_29 rfl ?_
        show Wx _ _ _ [_, _, _] _
        refine r_goto 4 h dX0_splitBoxes_32 (by decide) ?_
        first | (rw [if_pos c23] at hq; exact hq) | (rw [if_neg c23] at hq; exact hq)
      · refine r_iinc 1 h dX0_splitBoxes_26 (by decide) rfl ?_
        show Wx _ _ _ [_, _, _] _
        refine r_iincN h dX0_splitBoxes_29 rfl ?_
        show Wx _ _ _ [_, _, _] _
        refine r_goto 4 h dX0_splitBoxes_32 (by decide) ?_
        first | (rw [if_pos c23] at hq; exact hq) | (rw [if_neg c23] at hq; exact hq)
  refine r_iconst 0 h dX0_splitBoxes_0 (by decide) ?_
  refine r_istore_n 1 h dX0_splitBoxes_1 rfl (Nat.le_of_ble_eq_true rfl) ?_
  show Wx _ _ _ [_, _, _] _
  refine r_iconst 0 h dX0_splitBoxes_2 (by decide) ?_
  refine r_istore_n 2 h dX0_splitBoxes_3 rfl (Nat.le_of_ble_eq_true rfl) ?_
  show Wx _ _ _ [_, _, _] _
  exact loop 341 0 rfl
set_option maxRecDepth 100000 in
set_option maxHeartbeats 4000000 in
theorem mX0_greatestLevel (l : Launch) (w : Fx) (S : St) : Ct l yX0_greatestLevel cX0_greatestLevel 3 (some .int) 0 w [.ref (aD w 8)] S (fun v S' => v = some (.int (grI S 5)) ∧ S' = S) := by
  refine Ct.of (by decide) (Nat.le_of_ble_eq_true rfl) (fun X h hr hl hw => ?_)
  subst hl hw
  have h : Ok X cX0_greatestLevel RX0 0 := h
  show Wx X S 0 [.ref (aD (xw X) 8), .null, .null] []
  have offs : ∀ m : Nat, m < 5 → offN m ≤ offN (m + 1) ∧ offN (m + 1) ≤ 341 := by decide
  have loop : ∀ m : Nat, m ≤ 5 → grI S m = grI S 5 → Wx X S 2 [.ref (aD (xw X) 8), .int (nI m), .null] [] := by
    intro m
    induction m with
    | zero =>
      intro hm he
      refine r_iload_n 1 h dX0_greatestLevel_2 rfl rfl ?_
      refine r_if_le_t 50 h dX0_greatestLevel_3 (by decide) (by decide) ?_
      refine r_iconst 0 h dX0_greatestLevel_50 (by decide) ?_
      exact r_iret h hr dX0_greatestLevel_51 ⟨by rw [← he]; rfl, rfl⟩
    | succ m ih =>
      intro hm he
      obtain ⟨o1, o2⟩ := offs m (by omega)
      rw [grI_s] at he
      have inner : ∀ c n : Nat, n + c = offN (m + 1) → srI S (nI (m + 1)) (grI S m) c n = grI S 5 → Wx X S 14 [.ref (aD (xw X) 8), .int (nI (m + 1)), .int (nI n)] [] := by
        intro c
        induction c with
        | zero =>
          intro n hn hs
          have hn : n = offN (m + 1) := by omega
          subst hn
          refine r_iload_n 2 h dX0_greatestLevel_14 rfl rfl ?_
          refine gs_1 h lf_X0_40 dX0_greatestLevel_15 ?_
          refine r_iload_n 1 h dX0_greatestLevel_18 rfl rfl ?_
          refine atN_1 h (by omega) dX0_greatestLevel_19 ?_
          rw [tabF_N (by omega)]
          refine r_icmp_ge_t 44 h dX0_greatestLevel_20 (by decide) (bigT (by omega) (by omega)) ?_
          refine r_iinc (-1) h dX0_greatestLevel_44 (by decide) rfl ?_
          show Wx _ _ _ [_, .int (nI (m + 1) + (-1)), _] _
          rw [pk_m1]
          refine r_goto 2 h dX0_greatestLevel_47 (by decide) ?_
          exact Wx.weak (lv' := [.ref (aD (xw X) 8), .int (nI m), .null]) (And.intro rfl (And.intro rfl trivial)) (ih (by omega) hs)
        | succ c ihc =>
          intro n hn hs
          rw [srI_s] at hs
          refine r_iload_n 2 h dX0_greatestLevel_14 rfl rfl ?_
          refine gs_1 h lf_X0_40 dX0_greatestLevel_15 ?_
          refine r_iload_n 1 h dX0_greatestLevel_18 rfl rfl ?_
          refine atN_1 h (by omega) dX0_greatestLevel_19 ?_
          rw [tabF_N (by omega)]
          refine r_icmp_ge_f 44 h dX0_greatestLevel_20 (by decide) (bigF (by omega) (by omega)) ?_
          show Wx _ _ 23 _ _
          refine r_aload_n 0 h dX0_greatestLevel_23 rfl rfl ?_
          refine g8_1 h lf_X0_9 dX0_greatestLevel_24 ?_
          refine r_iload_n 2 h dX0_greatestLevel_27 rfl rfl ?_
          refine alN_9 h (by omega) dX0_greatestLevel_28 ?_
          refine r_aload_n 0 h dX0_greatestLevel_29 rfl rfl ?_
          refine g8_2 h lf_X0_15 dX0_greatestLevel_30 ?_
          show Wx _ _ 33 _ _
          refine r_icmp_le 38 h dX0_greatestLevel_33 (by decide) (fun c33 => ?_) (fun c33 => ?_)
          · refine r_iincN h dX0_greatestLevel_38 rfl ?_
            show Wx _ _ _ [_, _, _] _
            refine r_goto 14 h dX0_greatestLevel_41 (by decide) ?_
            exact ihc (n + 1) (by omega) (by rw [← hs, if_pos c33])
          · refine r_iload_n 1 h dX0_greatestLevel_36 rfl rfl ?_
            exact r_iret h hr dX0_greatestLevel_37 ⟨by rw [← hs, if_neg c33], rfl⟩
      refine r_iload_n 1 h dX0_greatestLevel_2 rfl rfl ?_
      refine r_if_le_f 50 h dX0_greatestLevel_3 (by decide) (fun z => absurd z (nI_nle (by omega) (by omega))) ?_
      refine gs_1 h lf_X0_40 dX0_greatestLevel_6 ?_
      refine r_iload_n 1 h dX0_greatestLevel_9 rfl rfl ?_
      refine r_iconst 1 h dX0_greatestLevel_10 (by decide) ?_
      show Wx _ _ 11 _ _
      refine r_isub h dX0_greatestLevel_11 ?_
      rw [nI_pred]
      refine atN_1 h (by omega) dX0_greatestLevel_12 ?_
      rw [tabF_N (by omega)]
      refine r_istore_n 2 h dX0_greatestLevel_13 rfl (Nat.le_of_ble_eq_true rfl) ?_
      show Wx _ _ _ [_, _, _] _
      exact inner (offN (m + 1) - offN m) (offN m) (by omega) he
  refine r_iconst 5 h dX0_greatestLevel_0 (by decide) ?_
  refine r_istore_n 1 h dX0_greatestLevel_1 rfl (Nat.le_of_ble_eq_true rfl) ?_
  show Wx _ _ _ [_, _, _] _
  exact loop 5 (by omega) rfl
set_option maxRecDepth 100000 in
set_option maxHeartbeats 4000000 in
theorem mX0_leafLevel (l : Launch) (w : Fx) (S : St) (a b : Nat) (ha : a < 64) (hb : b < 64) : Ct l yX0_leafLevel cX0_leafLevel 4 (some .int) 2 w [.ref (aD w 8), .int (nI a), .int (nI b)] S (fun v S' => v = some (.int (lvI S a b 5 0)) ∧ S' = S) := by
  refine Ct.of (by decide) (Nat.le_of_ble_eq_true rfl) (fun X h hr hl hw => ?_)
  subst hl hw
  have h : Ok X cX0_leafLevel RX0 2 := h
  show Wx X S 0 [.ref (aD (xw X) 8), .int (nI a), .int (nI b), .null] []
  have loop : ∀ n i : Nat, i + n = 5 → lvI S a b n i = lvI S a b 5 0 → Wx X (S) 2 [.ref (aD (xw X) 8), .int (nI a), .int (nI b), .int (nI i)] [] := by
    intro n
    induction n with
    | zero =>
      intro i hi he
      have hi : i = 5 := by omega
      refine r_iload_n 3 h dX0_leafLevel_2 rfl rfl ?_
      refine r_iconst 5 h dX0_leafLevel_3 (by decide) ?_
      refine r_icmp_ge_t 33 h dX0_leafLevel_4 (by decide) (bigT (a := 5) (by omega) (by omega)) ?_
      refine r_iconst 5 h dX0_leafLevel_33 (by decide) ?_
      exact r_iret h hr dX0_leafLevel_34 ⟨by rw [← he]; rfl, rfl⟩
    | succ n ih =>
      intro i hi he
      rw [lvI_s (n := n) (i := i)] at he
      refine r_iload_n 3 h dX0_leafLevel_2 rfl rfl ?_
      refine r_iconst 5 h dX0_leafLevel_3 (by decide) ?_
      refine r_icmp_ge_f 33 h dX0_leafLevel_4 (by decide) (bigF (a := 5) (by omega) (by omega)) ?_
      refine r_aload_n 0 h dX0_leafLevel_7 rfl rfl ?_
      refine g8_1 h lf_X0_9 dX0_leafLevel_8 ?_
      show Wx _ _ 11 _ _
      refine r_iload_n 3 h dX0_leafLevel_11 rfl rfl ?_
      refine r_iload_n 1 h dX0_leafLevel_12 rfl rfl ?_
      refine r_iload_n 2 h dX0_leafLevel_13 rfl rfl ?_
      refine cS3 h (mX0_placeIndexN _ _ _ i a b (by omega) ha hb) kX0_placeIndex lm_X0_30 (by decide) (Nat.le_of_ble_eq_true rfl) dX0_leafLevel_14 ?_
      have hpx := pix_lt (l := i) (by omega) ha hb
      refine alN_9 h (by omega) dX0_leafLevel_17 ?_
      refine r_aload_n 0 h dX0_leafLevel_18 rfl rfl ?_
      show Wx _ _ 19 _ _
      refine g8_2 h lf_X0_15 dX0_leafLevel_19 ?_
      refine r_icmp_gt 27 h dX0_leafLevel_22 (by decide) (fun c22 => ?_) (fun c22 => ?_)
      · refine r_iincN h dX0_leafLevel_27 rfl ?_
        show Wx _ _ _ [_, _, _, _] _
        refine r_goto 2 h dX0_leafLevel_30 (by decide) ?_
        exact ih (i + 1) (by omega) (by rw [← he, if_pos c22])
      · refine r_iload_n 3 h dX0_leafLevel_25 rfl rfl ?_
        exact r_iret h hr dX0_leafLevel_26 ⟨by rw [← he, if_neg c22], rfl⟩
  refine r_iconst 0 h dX0_leafLevel_0 (by decide) ?_
  refine r_istore_n 3 h dX0_leafLevel_1 rfl (Nat.le_of_ble_eq_true rfl) ?_
  show Wx _ _ _ [_, _, _, _] _
  exact loop 5 0 rfl rfl
set_option maxRecDepth 100000 in
set_option maxHeartbeats 4000000 in
theorem mX0_holds (l : Launch) (w : Fx) (S : St) (q i j : Int32) (p : Nat) (hp : p < 40) : Ct l yX0_holds cX0_holds 5 (some .boolean) 1 w [.ref (aD w 8), .int q, .int i, .int j, .int (nI p)] S (fun v S' => v = some (.int (holI S q i j p)) ∧ S' = S) := by
  refine Ct.of (by decide) (Nat.le_of_ble_eq_true rfl) (fun X h hr hl hw => ?_)
  subst hl hw
  have h : Ok X cX0_holds RX0 1 := h
  show Wx X S 0 [.ref (aD (xw X) 8), .int q, .int i, .int j, .int (nI p)] []
  refine r_aload_n 0 h dX0_holds_0 rfl rfl ?_
  refine g8_0 h lf_X0_26 dX0_holds_1 ?_
  refine g1_0 h lf_X0_43 dX0_holds_4 ?_
  refine r_iload h dX0_holds_7 rfl ?_
  refine alN_2 h (by omega) dX0_holds_9 ?_
  show Wx _ _ 10 _ _
  refine r_if_eq 53 h dX0_holds_10 (by decide) (fun c10 => ?_) (fun c10 => ?_)
  · refine r_iconst 0 h dX0_holds_53 (by decide) ?_
    exact r_zret h hr dX0_holds_54 rfl ⟨by simp only [holI, c10, ite_true, ite_false, if_true, if_false, not_true, not_false_iff], rfl⟩
  · refine r_iload_n 1 h dX0_holds_13 rfl rfl ?_
    refine r_aload_n 0 h dX0_holds_14 rfl rfl ?_
    refine g8_0 h lf_X0_26 dX0_holds_15 ?_
    refine g1_1 h lf_X0_49 dX0_holds_18 ?_
    refine r_iload h dX0_holds_21 rfl ?_
    show Wx _ _ 23 _ _
    refine alN_3 h (by omega) dX0_holds_23 ?_
    refine cS2 h (mX0_numberAt _ _ _ q _) kX0_numberAt lm_X0_52 (by decide) (Nat.le_of_ble_eq_true rfl) dX0_holds_24 ?_
    refine r_iload_n 2 h dX0_holds_27 rfl rfl ?_
    refine r_icmp_ne 53 h dX0_holds_28 (by decide) (fun c28 => ?_) (fun c28 => ?_)
    · refine r_iconst 0 h dX0_holds_53 (by decide) ?_
      exact r_zret h hr dX0_holds_54 rfl ⟨by simp only [holI, c10, c28, ite_true, ite_false, if_true, if_false, not_true, not_false_iff], rfl⟩
    · refine r_iload_n 1 h dX0_holds_31 rfl rfl ?_
      refine r_aload_n 0 h dX0_holds_32 rfl rfl ?_
      refine g8_0 h lf_X0_26 dX0_holds_33 ?_
      refine g1_2 h lf_X0_56 dX0_holds_36 ?_
      refine r_iload h dX0_holds_39 rfl ?_
      show Wx _ _ 41 _ _
      refine alN_4 h (by omega) dX0_holds_41 ?_
      refine cS2 h (mX0_numberAt _ _ _ q _) kX0_numberAt lm_X0_52 (by decide) (Nat.le_of_ble_eq_true rfl) dX0_holds_42 ?_
      refine r_iload_n 3 h dX0_holds_45 rfl rfl ?_
      refine r_icmp_ne 53 h dX0_holds_46 (by decide) (fun c46 => ?_) (fun c46 => ?_)
      · refine r_iconst 0 h dX0_holds_53 (by decide) ?_
        exact r_zret h hr dX0_holds_54 rfl ⟨by simp only [holI, c10, c28, c46, ite_true, ite_false, if_true, if_false, not_true, not_false_iff], rfl⟩
      · refine r_iconst 1 h dX0_holds_49 (by decide) ?_
        refine r_goto 54 h dX0_holds_50 (by decide) ?_
        exact r_zret h hr dX0_holds_54 rfl ⟨by simp only [holI, c10, c28, c46, ite_true, ite_false, if_true, if_false, not_true, not_false_iff], rfl⟩
set_option maxRecDepth 100000 in
set_option maxHeartbeats 4000000 in
theorem mX0_addMoments (l : Launch) (w : Fx) (S : St) (q dx dy : Int32) : Ct l yX0_addMoments cX0_addMoments 10 none 1 w [.ref (aD w 8), .int q, .int dx, .int dy] S (fun v S' => v = none ∧ S' = amA S q.toInt64 dx.toInt64 dy.toInt64 5) := by
  refine Ct.of (by decide) (Nat.le_of_ble_eq_true rfl) (fun X h hr hl hw => ?_)
  subst hl hw
  have h : Ok X cX0_addMoments RX0 1 := h
  show Wx X S 0 [.ref (aD (xw X) 8), .int q, .int dx, .int dy, .null, .null, .null, .null, .null, .null] []
  have loop : ∀ n a : Nat, a + n = 5 → Wx X (amA S q.toInt64 dx.toInt64 dy.toInt64 a) 7 [.ref (aD (xw X) 8), .int q, .int dx, .int dy, .long (pw q.toInt64 dx.toInt64 a), .null, .int (nI a), .null, .null, .null] [] := by
    intro n
    induction n with
    | zero =>
      intro a ha
      have ha : a = 5 := by omega
      subst ha
      refine r_iload h dX0_addMoments_7 rfl ?_
      refine r_iconst 4 h dX0_addMoments_9 (by decide) ?_
      refine r_icmp_gt_t 72 h dX0_addMoments_10 (by decide) (gtT (a := 4) (by omega) (by omega)) ?_
      exact r_vret h hr dX0_addMoments_72 ⟨rfl, rfl⟩
    | succ n ih =>
      intro a ha
      have hq := ih (a + 1) (by omega)
      rw [amA_s] at hq
      generalize hT : amA S q.toInt64 dx.toInt64 dy.toInt64 a = T at hq ⊢
      have inner : ∀ n b : Nat, b + n = 5 - a → Wx X (amB T a (pw q.toInt64 dx.toInt64 a) dy.toInt64 b) 20 [.ref (aD (xw X) 8), .int q, .int dx, .int dy, .long (pw q.toInt64 dx.toInt64 a), .null, .int (nI a), .long (pw (pw q.toInt64 dx.toInt64 a) dy.toInt64 b), .null, .int (nI b)] [] := by
        intro n
        induction n with
        | zero =>
          intro b hb
          have hb : b = 5 - a := by omega
          subst hb
          refine r_iload h dX0_addMoments_20 rfl ?_
          refine r_iload h dX0_addMoments_22 rfl ?_
          refine r_iadd h dX0_addMoments_24 ?_
          refine r_iconst 4 h dX0_addMoments_25 (by decide) ?_
          refine r_icmp_gt_t 59 h dX0_addMoments_26 (by decide) (by rw [nI_add]; exact gtT (a := 4) (by omega) (by omega)) ?_
          show Wx _ _ 59 _ _
          refine r_lload h dX0_addMoments_59 rfl ?_
          refine r_iload_n 2 h dX0_addMoments_61 rfl rfl ?_
          refine r_i2l h dX0_addMoments_62 ?_
          refine r_lmul h dX0_addMoments_63 ?_
          refine r_lstore h dX0_addMoments_64 (Nat.le_of_ble_eq_true rfl) ?_
          show Wx _ _ _ [_, _, _, _, _, _, _, _, _, _] _
          refine r_iincN h dX0_addMoments_66 rfl ?_
          show Wx _ _ _ [_, _, _, _, _, _, _, _, _, _] _
          show Wx _ _ 69 _ _
          refine r_goto 7 h dX0_addMoments_69 (by decide) ?_
          exact Wx.weak (lv' := [.ref (aD (xw X) 8), .int q, .int dx, .int dy, .long (pw q.toInt64 dx.toInt64 (a + 1)), .null, .int (nI (a + 1)), .null, .null, .null]) (And.intro rfl (And.intro rfl (And.intro rfl (And.intro rfl (And.intro rfl (And.intro rfl trivial)))))) (hq)
        | succ n ihb =>
          intro b hb
          have hp := ihb (b + 1) (by omega)
          rw [amB_s] at hp
          refine r_iload h dX0_addMoments_20 rfl ?_
          refine r_iload h dX0_addMoments_22 rfl ?_
          refine r_iadd h dX0_addMoments_24 ?_
          refine r_iconst 4 h dX0_addMoments_25 (by decide) ?_
          refine r_icmp_gt_f 59 h dX0_addMoments_26 (by decide) (by rw [nI_add]; exact gtF (a := 4) (by omega) (by omega)) ?_
          show Wx _ _ 29 _ _
          refine r_aload_n 0 h dX0_addMoments_29 rfl rfl ?_
          refine g8_3 h lf_X0_19 dX0_addMoments_30 ?_
          refine r_iload h dX0_addMoments_33 rfl ?_
          refine r_iload h dX0_addMoments_35 rfl ?_
          refine cN2 h (mX6_slotN _ _ _ a b) kX6_slot ln_X0_79 (by decide) (Nat.le_of_ble_eq_true rfl) dX0_addMoments_37 ?_
          refine r_dup2 h dX0_addMoments_40 rfl rfl ?_
          show Wx _ _ 41 _ _
          refine alN_10 h (by omega) dX0_addMoments_41 ?_
          refine r_lload h dX0_addMoments_42 rfl ?_
          refine r_ladd h dX0_addMoments_44 ?_
          refine asN_10 h (by omega) dX0_addMoments_45 ?_
          refine r_lload h dX0_addMoments_46 rfl ?_
          refine r_iload_n 3 h dX0_addMoments_48 rfl rfl ?_
          show Wx _ _ 49 _ _
          refine r_i2l h dX0_addMoments_49 ?_
          refine r_lmul h dX0_addMoments_50 ?_
          refine r_lstore h dX0_addMoments_51 (Nat.le_of_ble_eq_true rfl) ?_
          show Wx _ _ _ [_, _, _, _, _, _, _, _, _, _] _
          refine r_iincN h dX0_addMoments_53 rfl ?_
          show Wx _ _ _ [_, _, _, _, _, _, _, _, _, _] _
          refine r_goto 20 h dX0_addMoments_56 (by decide) ?_
          exact hp
      refine r_iload h dX0_addMoments_7 rfl ?_
      refine r_iconst 4 h dX0_addMoments_9 (by decide) ?_
      refine r_icmp_gt_f 72 h dX0_addMoments_10 (by decide) (gtF (a := 4) (by omega) (by omega)) ?_
      refine r_lload h dX0_addMoments_13 rfl ?_
      refine r_lstore h dX0_addMoments_15 (Nat.le_of_ble_eq_true rfl) ?_
      show Wx _ _ _ [_, _, _, _, _, _, _, _, _, _] _
      show Wx _ _ 17 _ _
      refine r_iconst 0 h dX0_addMoments_17 (by decide) ?_
      refine r_istore h dX0_addMoments_18 (Nat.le_of_ble_eq_true rfl) ?_
      show Wx _ _ _ [_, _, _, _, _, _, _, _, _, _] _
      exact inner (5 - a) 0 (by omega)
  refine r_iload_n 1 h dX0_addMoments_0 rfl rfl ?_
  refine r_i2l h dX0_addMoments_1 ?_
  refine r_lstore h dX0_addMoments_2 (Nat.le_of_ble_eq_true rfl) ?_
  show Wx _ _ _ [_, _, _, _, _, _, _, _, _, _] _
  refine r_iconst 0 h dX0_addMoments_4 (by decide) ?_
  refine r_istore h dX0_addMoments_5 (Nat.le_of_ble_eq_true rfl) ?_
  show Wx _ _ _ [_, _, _, _, _, _, _, _, _, _] _
  exact loop 5 0 (by omega)
set_option maxRecDepth 100000 in
set_option maxHeartbeats 4000000 in
theorem mX0_gather (l : Launch) (w : Fx) (S : St) (q i j : Int32) : Ct l yX0_gather cX0_gather 5 none 2 w [.ref (aD w 8), .int q, .int i, .int j] S (fun v S' => v = none ∧ S' = gatS S q i j) := by
  refine Ct.of (by decide) (Nat.le_of_ble_eq_true rfl) (fun X h hr hl hw => ?_)
  subst hl hw
  have h : Ok X cX0_gather RX0 2 := h
  show Wx X S 0 [.ref (aD (xw X) 8), .int q, .int i, .int j, .null] []
  have loop2 : ∀ n p : Nat, p + n = 40 → Wx X (gaT S q i j p) 32 [.ref (aD (xw X) 8), .int q, .int i, .int j, .int (nI p)] [] := by
    intro n
    induction n with
    | zero =>
      intro p hi
      have hi : p = 40 := by omega
      subst hi
      refine r_iload h dX0_gather_32 rfl ?_
      refine r_bipush 40 h dX0_gather_34 (by decide) ?_
      refine r_icmp_ge_t 123 h dX0_gather_36 (by decide) (bigT (a := 40) (by omega) (by omega)) ?_
      exact r_vret h hr dX0_gather_123 ⟨rfl, rfl⟩
    | succ n ih =>
      intro p hi
      have hq := ih (p + 1) (by omega)
      rw [gaT_s] at hq
      refine r_iload h dX0_gather_32 rfl ?_
      refine r_bipush 40 h dX0_gather_34 (by decide) ?_
      refine r_icmp_ge_f 123 h dX0_gather_36 (by decide) (bigF (a := 40) (by omega) (by omega)) ?_
      refine r_aload_n 0 h dX0_gather_39 rfl rfl ?_
      refine r_iload_n 1 h dX0_gather_40 rfl rfl ?_
      show Wx _ _ 41 _ _
      refine r_iload_n 2 h dX0_gather_41 rfl rfl ?_
      refine r_iload_n 3 h dX0_gather_42 rfl rfl ?_
      refine r_iload h dX0_gather_43 rfl ?_
      refine cV4 h (mX0_holds _ _ _ q i j p (by omega)) kX0_holds lm_X0_59 (by decide) 8 (pl_8 _ _) rfl (Nat.le_of_ble_eq_true rfl) dX0_gather_45 ?_
      refine r_if_eq 117 h dX0_gather_48 (by decide) (fun c48 => ?_) (fun c48 => ?_)
      · refine r_iincN h dX0_gather_117 rfl ?_
        show Wx _ _ _ [_, _, _, _, _] _
        refine r_goto 32 h dX0_gather_120 (by decide) ?_
        first | (rw [if_pos c48] at hq; exact hq) | (rw [if_neg c48] at hq; exact hq)
      · refine r_aload_n 0 h dX0_gather_51 rfl rfl ?_
        refine r_aload_n 0 h dX0_gather_52 rfl rfl ?_
        refine g8_0 h lf_X0_26 dX0_gather_53 ?_
        refine g1_3 h lf_X0_63 dX0_gather_56 ?_
        refine r_iload h dX0_gather_59 rfl ?_
        show Wx _ _ 61 _ _
        refine alN_5 h (by omega) dX0_gather_61 ?_
        refine r_aload_n 0 h dX0_gather_62 rfl rfl ?_
        refine g8_0 h lf_X0_26 dX0_gather_63 ?_
        refine g1_1 h lf_X0_49 dX0_gather_66 ?_
        refine r_iload h dX0_gather_69 rfl ?_
        refine alN_3 h (by omega) dX0_gather_71 ?_
        show Wx _ _ 72 _ _
        refine r_iload_n 1 h dX0_gather_72 rfl rfl ?_
        refine r_iload_n 2 h dX0_gather_73 rfl rfl ?_
        refine cN3 h (mX6_fromMiddle _ _ _ _ q i) kX6_fromMiddle ln_X0_66 (by decide) (Nat.le_of_ble_eq_true rfl) dX0_gather_74 ?_
        refine r_aload_n 0 h dX0_gather_77 rfl rfl ?_
        refine g8_0 h lf_X0_26 dX0_gather_78 ?_
        refine g1_2 h lf_X0_56 dX0_gather_81 ?_
        show Wx _ _ 84 _ _
        refine r_iload h dX0_gather_84 rfl ?_
        refine alN_4 h (by omega) dX0_gather_86 ?_
        refine r_iload_n 1 h dX0_gather_87 rfl rfl ?_
        refine r_iload_n 3 h dX0_gather_88 rfl rfl ?_
        refine cN3 h (mX6_fromMiddle _ _ _ _ q j) kX6_fromMiddle ln_X0_66 (by decide) (Nat.le_of_ble_eq_true rfl) dX0_gather_89 ?_
        refine cV3v h (mX0_addMoments _ _ _ _ _ _) kX0_addMoments lm_X0_69 (by decide) 8 (pl_8 _ _) rfl (Nat.le_of_ble_eq_true rfl) dX0_gather_92 ?_
        show Wx _ _ 95 _ _
        refine r_aload_n 0 h dX0_gather_95 rfl rfl ?_
        refine r_dup h dX0_gather_96 rfl ?_
        refine g8_4 h lf_X0_23 dX0_gather_97 ?_
        refine r_aload_n 0 h dX0_gather_100 rfl rfl ?_
        refine g8_0 h lf_X0_26 dX0_gather_101 ?_
        refine g1_3 h lf_X0_63 dX0_gather_104 ?_
        show Wx _ _ 107 _ _
        refine r_iload h dX0_gather_107 rfl ?_
        refine alN_5 h (by omega) dX0_gather_109 ?_
        refine r_absI h lm_X0_73 (by decide) (Nat.le_of_ble_eq_true rfl) dX0_gather_110 ?_
        refine r_iadd h dX0_gather_113 ?_
        refine p8_4 h lf_X0_23 dX0_gather_114 ?_
        refine r_iincN h dX0_gather_117 rfl ?_
        show Wx _ _ _ [_, _, _, _, _] _
        show Wx _ _ 120 _ _
        refine r_goto 32 h dX0_gather_120 (by decide) ?_
        first | (rw [if_pos c48] at hq; exact hq) | (rw [if_neg c48] at hq; exact hq)
  have loop1 : ∀ n n2 : Nat, n2 + n = 25 → Wx X (clrS S 0 n2) 3 [.ref (aD (xw X) 8), .int q, .int i, .int j, .int (nI n2)] [] := by
    intro n
    induction n with
    | zero =>
      intro n2 hi
      have hi : n2 = 25 := by omega
      subst hi
      refine r_iload h dX0_gather_3 rfl ?_
      refine r_bipush 25 h dX0_gather_5 (by decide) ?_
      refine r_icmp_ge_t 24 h dX0_gather_7 (by decide) (bigT (a := 25) (by omega) (by omega)) ?_
      refine r_aload_n 0 h dX0_gather_24 rfl rfl ?_
      refine r_iconst 0 h dX0_gather_25 (by decide) ?_
      show Wx _ _ 26 _ _
      refine p8_4 h lf_X0_23 dX0_gather_26 ?_
      refine r_iconst 0 h dX0_gather_29 (by decide) ?_
      refine r_istore h dX0_gather_30 (Nat.le_of_ble_eq_true rfl) ?_
      show Wx _ _ _ [_, _, _, _, _] _
      exact loop2 40 0 rfl
    | succ n ih =>
      intro n2 hi
      have hq := ih (n2 + 1) (by omega)
      unfold clrS at hq
      refine r_iload h dX0_gather_3 rfl ?_
      refine r_bipush 25 h dX0_gather_5 (by decide) ?_
      refine r_icmp_ge_f 24 h dX0_gather_7 (by decide) (bigF (a := 25) (by omega) (by omega)) ?_
      refine r_aload_n 0 h dX0_gather_10 rfl rfl ?_
      refine g8_3 h lf_X0_19 dX0_gather_11 ?_
      show Wx _ _ 14 _ _
      refine r_iload h dX0_gather_14 rfl ?_
      refine r_lconst 0 h dX0_gather_16 (by decide) ?_
      refine asN_10 h (by omega) dX0_gather_17 ?_
      refine r_iincN h dX0_gather_18 rfl ?_
      show Wx _ _ _ [_, _, _, _, _] _
      refine r_goto 3 h dX0_gather_21 (by decide) ?_
      exact hq
  refine r_iconst 0 h dX0_gather_0 (by decide) ?_
  refine r_istore h dX0_gather_1 (Nat.le_of_ble_eq_true rfl) ?_
  show Wx _ _ _ [_, _, _, _, _] _
  exact loop1 25 0 rfl
