theorem plc_in {x y : Int32} (h : ¬ plcI x y = 0) : vp_in x 64 ∧ vp_in y 64 := by
  obtain ⟨a, b, ha, hb, rfl, rfl⟩ := plc_at h
  exact ⟨vin ha, vin hb⟩
theorem lf_at {S : St} : ∀ n i : Nat, i + n = 40 → lfI S n i = -1 ∨ ∃ j : Nat, j < 40 ∧ lfI S n i = nI j ∧ S.1 0 j = 0
  | 0, _, _ => Or.inl rfl
  | n + 1, i, h => by
    rw [lfI_s]
    split
    · rename_i q; exact Or.inr ⟨i, by omega, rfl, q⟩
    · exact lf_at n (i + 1) (by omega)
theorem lf_in {S : St} (h : ¬ lfI S 40 0 = -1) : vp_in (lfI S 40 0) 40 := by
  rcases lf_at (S := S) 40 0 rfl with q | ⟨j, hj, e, -⟩
  · exact absurd q h
  · rw [e]; exact vin hj
def ptR (S : St) (x y v : Int32) : Int32 := if plcI x y = 0 then -2 else if wgtI v = 0 then -2 else if lfI S 40 0 = -1 then -4 else lfI S 40 0
def ptT (S : St) (x y v : Int32) : St := if plcI x y = 0 then S else if wgtI v = 0 then S else if lfI S 40 0 = -1 then S else entI (addS S (lfI S 40 0) x y v) x y
def tkU (S : St) (p : Int32) : St := remS (leaI S (S.1 1 p.toNatClampNeg) (S.1 2 p.toNatClampNeg)) p
def tkR (S : St) (p : Int32) : Int32 := if hasI S p = 0 then -2 else (tkU S p).1 6 0
def tkT (S : St) (p : Int32) : St := if hasI S p = 0 then S else tkU S p
def mvR (S : St) (p x y : Int32) : Int32 := if hasI S p = 0 then -2 else if plcI x y = 0 then -2 else 1
def mvT (S : St) (p x y : Int32) : St := if hasI S p = 0 then S else if plcI x y = 0 then S else entI (putS (leaI S (S.1 1 p.toNatClampNeg) (S.1 2 p.toNatClampNeg)) p x y) x y
def wgR (S : St) (p v : Int32) : Int32 := if hasI S p = 0 then -2000 else if wgtI v = 0 then -2000 else S.1 3 p.toNatClampNeg
def wgT (S : St) (p v : Int32) : St := if hasI S p = 0 then S else if wgtI v = 0 then S else sI S 3 p.toNatClampNeg v
def pcR (S : St) (p x y : Int32) : Int32 := if hasI S p = 0 then -2 else if pacI x = 0 then -2 else if pacI y = 0 then -2 else 1
def pcT (S : St) (p x y : Int32) : St := if hasI S p = 0 then S else if pacI x = 0 then S else if pacI y = 0 then S else spcS S p x y
def aqR (S : St) (p q : Int32) : Int32 := if hasI S p = 0 then -2000 else readI S p q
def knR (S : St) (a b c : Int32) : Int32 := if pwrI a b = 0 then -2000 else if c < -9 then -2000 else if c ≤ 9 then (S.2 1 (a.toNatClampNeg * 5 + b.toNatClampNeg)).toInt32 else -2000
def knT (S : St) (a b c : Int32) : St := if pwrI a b = 0 then S else if c < -9 then S else if c ≤ 9 then sJ S 1 (a.toNatClampNeg * 5 + b.toNatClampNeg) c.toInt64 else S
def cpR (S : St) (m : Int32) : Int32 := if m < 1 then -2 else if m ≤ 8 then S.1 8 0 else -2
def cpT (S : St) (m : Int32) : St := if m < 1 then S else if m ≤ 8 then sI S 8 0 m else S
def pulL (S : St) (p x y : Int32) : Int64 := (16 * S.1 3 p.toNatClampNeg).toInt64 * valP (S.2 1) (x - S.1 1 p.toNatClampNeg).toInt64 (y - S.1 2 p.toNatClampNeg).toInt64
def suV (S : St) (x y : Int32) : Nat → Int64
  | 0 => 0
  | i + 1 => if S.1 0 i = 0 then suV S x y i else suV S x y i + pulL S (nI i) x y
theorem suV_s {S : St} {x y : Int32} {i : Nat} : suV S x y (i + 1) = if S.1 0 i = 0 then suV S x y i else suV S x y i + pulL S (nI i) x y := rfl
def suR (S : St) (x y : Int32) : Int64 := if plcI x y = 0 then -9000000000000000000 else suV S x y 40
def lfyR (S : St) (x y : Int32) : Int32 := if plcI x y = 0 then -2 else lvI S x.toNatClampNeg y.toNatClampNeg 5 0
def neV (S : St) (x y k : Int32) : Nat → Nat → Int32
  | 0, _ => -1
  | n + 1, p => if S.1 0 p = 0 then neV S x y k n (p + 1) else if nrI S (nI p) x y 40 = k then nI p else neV S x y k n (p + 1)
theorem neV_s {S : St} {x y k : Int32} {n p : Nat} : neV S x y k (n + 1) p = if S.1 0 p = 0 then neV S x y k n (p + 1) else if nrI S (nI p) x y 40 = k then nI p else neV S x y k n (p + 1) := rfl
def neR (S : St) (x y k : Int32) : Int32 := if plcI x y = 0 then -2 else if 0 ≤ k then neV S x y k 40 0 else -2
def bxR (S : St) (l i j q : Int32) : Int32 := if thrI S l i j = 0 then -2 else if q = 0 then S.1 7 (bixN l.toNatClampNeg i.toNatClampNeg j.toNatClampNeg) else if q = 1 then (gatS S l i j).1 9 0 else if q = 2 then splI S l.toNatClampNeg i.toNatClampNeg j.toNatClampNeg else -2
def bxT (S : St) (l i j q : Int32) : St := if thrI S l i j = 0 then S else if q = 1 then gatS S l i j else S
def moR (S : St) (l i j a b : Int32) : Int64 := if thrI S l i j = 0 then -9000000000000000000 else if pwrI a b = 0 then -9000000000000000000 else (gatS S l i j).2 0 (a.toNatClampNeg * 5 + b.toNatClampNeg)
def moT (S : St) (l i j a b : Int32) : St := if thrI S l i j = 0 then S else if pwrI a b = 0 then S else gatS S l i j
def cnI (S : St) (q : Int32) : Int32 := if q = 0 then S.1 6 0 else if q = 1 then 1 + 4 * spbI S 341 else if q = 2 then spbI S 341 else if q = 3 then grI S 5 else if q = 4 then S.1 19 0 else if q = 5 then blkI S 40 else -2
theorem cn_out {S : St} {q : Int32} (h : q < 0 ∨ 5 < q) : cnI S q = -2 := by
  unfold cnI
  rw [if_neg, if_neg, if_neg, if_neg, if_neg, if_neg] <;> (intro z; subst z; revert h; decide)
theorem q3_out {q : Int32} (h : q < 0 ∨ 2 < q) : ¬ q = 0 ∧ ¬ q = 1 ∧ ¬ q = 2 := by
  refine ⟨?_, ?_, ?_⟩ <;> (intro z; subst z; revert h; decide)
theorem spl_01 (S : St) (l i j : Nat) : splI S l i j = 0 ∨ splI S l i j = 1 := by
  unfold splI
  split
  · exact Or.inl rfl
  · split
    · exact Or.inl rfl
    · exact Or.inr rfl
theorem mX0_leafLevelI (l : Launch) (w : Fx) (S : St) (x y : Int32) (hx : vp_in x 64) (hy : vp_in y 64) : Ct l yX0_leafLevel cX0_leafLevel 4 (some .int) 2 w [.ref (aD w 8), .int x, .int y] S (fun v S' => v = some (.int (lvI S x.toNatClampNeg y.toNatClampNeg 5 0)) ∧ S' = S) := by
  obtain ⟨a, ha, rfl⟩ := vp_in_of hx (by decide)
  obtain ⟨b, hb, rfl⟩ := vp_in_of hy (by decide)
  rw [ncl (by omega), ncl (by omega)]
  exact mX0_leafLevel l w S a b ha hb
set_option maxRecDepth 100000 in
set_option maxHeartbeats 4000000 in
theorem mX6_point (l : Launch) (w : Fx) (S : St) (x y q : Int32) : Ct l yX6_point cX6_point 5 (some .int) 3 w [.ref (aD w 0), .int x, .int y, .int q] S (fun v S' => v = some (.int (ptR S x y q)) ∧ S' = ptT S x y q) := by
  refine Ct.of (by decide) (Nat.le_of_ble_eq_true rfl) (fun X h hr hl hw => ?_)
  subst hl hw
  have h : Ok X cX6_point RX6 3 := h
  show Wx X S 0 [.ref (aD (xw X) 0), .int x, .int y, .int q, .null] []
  refine r_iload_n 1 h dX6_point_0 rfl rfl ?_
  refine r_iload_n 2 h dX6_point_1 rfl rfl ?_
  refine cS2 h (mX6_isPlace _ _ _ x y) kX6_isPlace lm_X6_63 (by decide) (Nat.le_of_ble_eq_true rfl) dX6_point_2 ?_
  refine r_if_eq 15 h dX6_point_5 (by decide) (fun c5 => ?_) (fun c5 => ?_)
  · refine r_bipush (-2) h dX6_point_15 (by decide) ?_
    exact r_iret h hr dX6_point_17 ⟨by simp only [ptR, c5, ite_true, ite_false, if_true, if_false, not_true, not_false_iff], by simp only [ptT, c5, ite_true, ite_false, if_true, if_false, not_true, not_false_iff]⟩
  · refine r_iload_n 3 h dX6_point_8 rfl rfl ?_
    refine cS1 h (mX6_isWeight _ _ _ q) kX6_isWeight lm_X6_67 (by decide) (Nat.le_of_ble_eq_true rfl) dX6_point_9 ?_
    refine r_if_ne 18 h dX6_point_12 (by decide) (fun c12 => ?_) (fun c12 => ?_)
    · refine r_aload_n 0 h dX6_point_18 rfl rfl ?_
      refine g0_0 h lf_X6_10 dX6_point_19 ?_
      refine cV0 h (mX2_leastFree _ _ _) kX2_leastFree lm_X6_71 (by decide) 1 (pl_1 _ _) rfl (Nat.le_of_ble_eq_true rfl) dX6_point_22 ?_
      refine r_istore h dX6_point_25 (Nat.le_of_ble_eq_true rfl) ?_
      show Wx _ _ _ [_, _, _, _, _] _
      refine r_iload h dX6_point_27 rfl ?_
      show Wx _ _ 29 _ _
      refine r_iconst (-1) h dX6_point_29 (by decide) ?_
      refine r_icmp_ne 36 h dX6_point_30 (by decide) (fun c30 => ?_) (fun c30 => ?_)
      · refine r_aload_n 0 h dX6_point_36 rfl rfl ?_
        refine g0_0 h lf_X6_10 dX6_point_37 ?_
        refine r_iload h dX6_point_40 rfl ?_
        refine r_iload_n 1 h dX6_point_42 rfl rfl ?_
        refine r_iload_n 2 h dX6_point_43 rfl rfl ?_
        show Wx _ _ 44 _ _
        refine r_iload_n 3 h dX6_point_44 rfl rfl ?_
        refine cV4v h (mX2_add _ _ _ _ x y q (lf_in c30)) kX2_add lm_X6_75 (by decide) 1 (pl_1 _ _) rfl (Nat.le_of_ble_eq_true rfl) dX6_point_45 ?_
        refine r_aload_n 0 h dX6_point_48 rfl rfl ?_
        refine g0_1 h lf_X6_21 dX6_point_49 ?_
        refine r_iload_n 1 h dX6_point_52 rfl rfl ?_
        refine r_iload_n 2 h dX6_point_53 rfl rfl ?_
        show Wx _ _ 54 _ _
        refine cV2v h (mX0_enterI _ _ _ x y (plc_in c5).1 (plc_in c5).2) kX0_enter lm_X6_79 (by decide) 8 (pl_8 _ _) rfl (Nat.le_of_ble_eq_true rfl) dX6_point_54 ?_
        refine r_iload h dX6_point_57 rfl ?_
        exact r_iret h hr dX6_point_59 ⟨by simp only [ptR, c5, c12, c30, ite_true, ite_false, if_true, if_false, not_true, not_false_iff], by simp only [ptT, c5, c12, c30, ite_true, ite_false, if_true, if_false, not_true, not_false_iff]⟩
      · refine r_bipush (-4) h dX6_point_33 (by decide) ?_
        exact r_iret h hr dX6_point_35 ⟨by simp only [ptR, c5, c12, c30, ite_true, ite_false, if_true, if_false, not_true, not_false_iff], by simp only [ptT, c5, c12, c30, ite_true, ite_false, if_true, if_false, not_true, not_false_iff]⟩
    · refine r_bipush (-2) h dX6_point_15 (by decide) ?_
      exact r_iret h hr dX6_point_17 ⟨by simp only [ptR, c5, c12, ite_true, ite_false, if_true, if_false, not_true, not_false_iff], by simp only [ptT, c5, c12, ite_true, ite_false, if_true, if_false, not_true, not_false_iff]⟩
set_option maxRecDepth 100000 in
set_option maxHeartbeats 4000000 in
theorem mX6_take (l : Launch) (w : Fx) (S : St) (p : Int32) (hpl : plOk S) : Ct l yX6_take cX6_take 2 (some .int) 3 w [.ref (aD w 0), .int p] S (fun v S' => v = some (.int (tkR S p)) ∧ S' = tkT S p) := by
  refine Ct.of (by decide) (Nat.le_of_ble_eq_true rfl) (fun X h hr hl hw => ?_)
  subst hl hw
  have h : Ok X cX6_take RX6 3 := h
  show Wx X S 0 [.ref (aD (xw X) 0), .int p] []
  refine r_aload_n 0 h dX6_take_0 rfl rfl ?_
  refine g0_0 h lf_X6_10 dX6_take_1 ?_
  refine r_iload_n 1 h dX6_take_4 rfl rfl ?_
  refine cV1 h (mX2_has _ _ _ p) kX2_has lm_X6_83 (by decide) 1 (pl_1 _ _) rfl (Nat.le_of_ble_eq_true rfl) dX6_take_5 ?_
  refine r_if_ne 14 h dX6_take_8 (by decide) (fun c8 => ?_) (fun c8 => ?_)
  · have hix := has_in c8
    have hpp : vp_in (S.1 1 p.toNatClampNeg) 64 ∧ vp_in (S.1 2 p.toNatClampNeg) 64 := by
      obtain ⟨k, hk, rfl, hn⟩ := has_at c8
      rw [ncl (by omega)]
      exact hpl k hk hn
    refine r_aload_n 0 h dX6_take_14 rfl rfl ?_
    refine g0_1 h lf_X6_21 dX6_take_15 ?_
    refine r_aload_n 0 h dX6_take_18 rfl rfl ?_
    refine g0_0 h lf_X6_10 dX6_take_19 ?_
    refine g1_1 h lf_X6_86 dX6_take_22 ?_
    show Wx _ _ 25 _ _
    refine r_iload_n 1 h dX6_take_25 rfl rfl ?_
    refine al_3 h hix dX6_take_26 ?_
    refine r_aload_n 0 h dX6_take_27 rfl rfl ?_
    refine g0_0 h lf_X6_10 dX6_take_28 ?_
    refine g1_2 h lf_X6_90 dX6_take_31 ?_
    refine r_iload_n 1 h dX6_take_34 rfl rfl ?_
    show Wx _ _ 35 _ _
    refine al_4 h hix dX6_take_35 ?_
    refine cV2v h (mX0_leaveI _ _ _ _ _ hpp.1 hpp.2) kX0_leave lm_X6_93 (by decide) 8 (pl_8 _ _) rfl (Nat.le_of_ble_eq_true rfl) dX6_take_36 ?_
    refine r_aload_n 0 h dX6_take_39 rfl rfl ?_
    refine g0_0 h lf_X6_10 dX6_take_40 ?_
    refine r_iload_n 1 h dX6_take_43 rfl rfl ?_
    refine cV1v h (mX2_remove _ _ _ p hix) kX2_remove lm_X6_96 (by decide) 1 (pl_1 _ _) rfl (Nat.le_of_ble_eq_true rfl) dX6_take_44 ?_
    show Wx _ _ 47 _ _
    refine r_aload_n 0 h dX6_take_47 rfl rfl ?_
    refine g0_0 h lf_X6_10 dX6_take_48 ?_
    refine g1_6 h lf_X6_100 dX6_take_51 ?_
    exact r_iret h hr dX6_take_54 ⟨by rw [tkR, if_neg c8]; rfl, by rw [tkT, if_neg c8]; rfl⟩
  · refine r_bipush (-2) h dX6_take_11 (by decide) ?_
    exact r_iret h hr dX6_take_13 ⟨by simp only [tkR, c8, ite_true, ite_false, if_true, if_false, not_true, not_false_iff], by simp only [tkT, c8, ite_true, ite_false, if_true, if_false, not_true, not_false_iff]⟩
set_option maxRecDepth 100000 in
set_option maxHeartbeats 4000000 in
theorem mX6_move (l : Launch) (w : Fx) (S : St) (p x y : Int32) (hpl : plOk S) : Ct l yX6_move cX6_move 4 (some .int) 3 w [.ref (aD w 0), .int p, .int x, .int y] S (fun v S' => v = some (.int (mvR S p x y)) ∧ S' = mvT S p x y) := by
  refine Ct.of (by decide) (Nat.le_of_ble_eq_true rfl) (fun X h hr hl hw => ?_)
  subst hl hw
  have h : Ok X cX6_move RX6 3 := h
  show Wx X S 0 [.ref (aD (xw X) 0), .int p, .int x, .int y] []
  refine r_aload_n 0 h dX6_move_0 rfl rfl ?_
  refine g0_0 h lf_X6_10 dX6_move_1 ?_
  refine r_iload_n 1 h dX6_move_4 rfl rfl ?_
  refine cV1 h (mX2_has _ _ _ p) kX2_has lm_X6_83 (by decide) 1 (pl_1 _ _) rfl (Nat.le_of_ble_eq_true rfl) dX6_move_5 ?_
  refine r_if_eq 19 h dX6_move_8 (by decide) (fun c8 => ?_) (fun c8 => ?_)
  · refine r_bipush (-2) h dX6_move_19 (by decide) ?_
    exact r_iret h hr dX6_move_21 ⟨by simp only [mvR, c8, ite_true, ite_false, if_true, if_false, not_true, not_false_iff], by simp only [mvT, c8, ite_true, ite_false, if_true, if_false, not_true, not_false_iff]⟩
  · refine r_iload_n 2 h dX6_move_11 rfl rfl ?_
    refine r_iload_n 3 h dX6_move_12 rfl rfl ?_
    refine cS2 h (mX6_isPlace _ _ _ x y) kX6_isPlace lm_X6_63 (by decide) (Nat.le_of_ble_eq_true rfl) dX6_move_13 ?_
    refine r_if_ne 22 h dX6_move_16 (by decide) (fun c16 => ?_) (fun c16 => ?_)
    · have hix := has_in c8
      have hpp : vp_in (S.1 1 p.toNatClampNeg) 64 ∧ vp_in (S.1 2 p.toNatClampNeg) 64 := by
        obtain ⟨k, hk, rfl, hn⟩ := has_at c8
        rw [ncl (by omega)]
        exact hpl k hk hn
      refine r_aload_n 0 h dX6_move_22 rfl rfl ?_
      refine g0_1 h lf_X6_21 dX6_move_23 ?_
      refine r_aload_n 0 h dX6_move_26 rfl rfl ?_
      refine g0_0 h lf_X6_10 dX6_move_27 ?_
      refine g1_1 h lf_X6_86 dX6_move_30 ?_
      show Wx _ _ 33 _ _
      refine r_iload_n 1 h dX6_move_33 rfl rfl ?_
      refine al_3 h hix dX6_move_34 ?_
      refine r_aload_n 0 h dX6_move_35 rfl rfl ?_
      refine g0_0 h lf_X6_10 dX6_move_36 ?_
      refine g1_2 h lf_X6_90 dX6_move_39 ?_
      refine r_iload_n 1 h dX6_move_42 rfl rfl ?_
      show Wx _ _ 43 _ _
      refine al_4 h hix dX6_move_43 ?_
      refine cV2v h (mX0_leaveI _ _ _ _ _ hpp.1 hpp.2) kX0_leave lm_X6_93 (by decide) 8 (pl_8 _ _) rfl (Nat.le_of_ble_eq_true rfl) dX6_move_44 ?_
      refine r_aload_n 0 h dX6_move_47 rfl rfl ?_
      refine g0_0 h lf_X6_10 dX6_move_48 ?_
      refine r_iload_n 1 h dX6_move_51 rfl rfl ?_
      refine r_iload_n 2 h dX6_move_52 rfl rfl ?_
      show Wx _ _ 53 _ _
      refine r_iload_n 3 h dX6_move_53 rfl rfl ?_
      refine cV3v h (mX2_put _ _ _ p x y hix) kX2_put lm_X6_104 (by decide) 1 (pl_1 _ _) rfl (Nat.le_of_ble_eq_true rfl) dX6_move_54 ?_
      refine r_aload_n 0 h dX6_move_57 rfl rfl ?_
      refine g0_1 h lf_X6_21 dX6_move_58 ?_
      refine r_iload_n 2 h dX6_move_61 rfl rfl ?_
      refine r_iload_n 3 h dX6_move_62 rfl rfl ?_
      show Wx _ _ 63 _ _
      refine cV2v h (mX0_enterI _ _ _ x y (plc_in c16).1 (plc_in c16).2) kX0_enter lm_X6_79 (by decide) 8 (pl_8 _ _) rfl (Nat.le_of_ble_eq_true rfl) dX6_move_63 ?_
      refine r_iconst 1 h dX6_move_66 (by decide) ?_
      exact r_iret h hr dX6_move_67 ⟨by simp only [mvR, c8, c16, ite_true, ite_false, if_true, if_false, not_true, not_false_iff], by simp only [mvT, c8, c16, ite_true, ite_false, if_true, if_false, not_true, not_false_iff]⟩
    · refine r_bipush (-2) h dX6_move_19 (by decide) ?_
      exact r_iret h hr dX6_move_21 ⟨by simp only [mvR, c8, c16, ite_true, ite_false, if_true, if_false, not_true, not_false_iff], by simp only [mvT, c8, c16, ite_true, ite_false, if_true, if_false, not_true, not_false_iff]⟩
set_option maxRecDepth 100000 in
set_option maxHeartbeats 4000000 in
theorem mX6_weigh (l : Launch) (w : Fx) (S : St) (p q : Int32) : Ct l yX6_weigh cX6_weigh 4 (some .int) 1 w [.ref (aD w 0), .int p, .int q] S (fun v S' => v = some (.int (wgR S p q)) ∧ S' = wgT S p q) := by
  refine Ct.of (by decide) (Nat.le_of_ble_eq_true rfl) (fun X h hr hl hw => ?_)
  subst hl hw
  have h : Ok X cX6_weigh RX6 1 := h
  show Wx X S 0 [.ref (aD (xw X) 0), .int p, .int q, .null] []
  refine r_aload_n 0 h dX6_weigh_0 rfl rfl ?_
  refine g0_0 h lf_X6_10 dX6_weigh_1 ?_
  refine r_iload_n 1 h dX6_weigh_4 rfl rfl ?_
  refine cV1 h (mX2_has _ _ _ p) kX2_has lm_X6_83 (by decide) 1 (pl_1 _ _) rfl (Nat.le_of_ble_eq_true rfl) dX6_weigh_5 ?_
  refine r_if_eq 18 h dX6_weigh_8 (by decide) (fun c8 => ?_) (fun c8 => ?_)
  · refine r_sipush (-2000) h dX6_weigh_18 (by decide) ?_
    exact r_iret h hr dX6_weigh_21 ⟨by simp only [wgR, c8, ite_true, ite_false, if_true, if_false, not_true, not_false_iff], by simp only [wgT, c8, ite_true, ite_false, if_true, if_false, not_true, not_false_iff]⟩
  · refine r_iload_n 2 h dX6_weigh_11 rfl rfl ?_
    refine cS1 h (mX6_isWeight _ _ _ q) kX6_isWeight lm_X6_67 (by decide) (Nat.le_of_ble_eq_true rfl) dX6_weigh_12 ?_
    refine r_if_ne 22 h dX6_weigh_15 (by decide) (fun c15 => ?_) (fun c15 => ?_)
    · refine r_aload_n 0 h dX6_weigh_22 rfl rfl ?_
      refine g0_0 h lf_X6_10 dX6_weigh_23 ?_
      refine g1_3 h lf_X6_108 dX6_weigh_26 ?_
      refine r_iload_n 1 h dX6_weigh_29 rfl rfl ?_
      refine al_5 h (has_in c8) dX6_weigh_30 ?_
      show Wx _ _ 31 _ _
      refine r_istore_n 3 h dX6_weigh_31 rfl (Nat.le_of_ble_eq_true rfl) ?_
      show Wx _ _ _ [_, _, _, _] _
      refine r_aload_n 0 h dX6_weigh_32 rfl rfl ?_
      refine g0_0 h lf_X6_10 dX6_weigh_33 ?_
      refine g1_3 h lf_X6_108 dX6_weigh_36 ?_
      refine r_iload_n 1 h dX6_weigh_39 rfl rfl ?_
      refine r_iload_n 2 h dX6_weigh_40 rfl rfl ?_
      show Wx _ _ 41 _ _
      refine as_5 h (has_in c8) dX6_weigh_41 ?_
      refine r_iload_n 3 h dX6_weigh_42 rfl rfl ?_
      exact r_iret h hr dX6_weigh_43 ⟨by simp only [wgR, c8, c15, ite_true, ite_false, if_true, if_false, not_true, not_false_iff], by simp only [wgT, c8, c15, ite_true, ite_false, if_true, if_false, not_true, not_false_iff]⟩
    · refine r_sipush (-2000) h dX6_weigh_18 (by decide) ?_
      exact r_iret h hr dX6_weigh_21 ⟨by simp only [wgR, c8, c15, ite_true, ite_false, if_true, if_false, not_true, not_false_iff], by simp only [wgT, c8, c15, ite_true, ite_false, if_true, if_false, not_true, not_false_iff]⟩
set_option maxRecDepth 100000 in
set_option maxHeartbeats 4000000 in
theorem mX6_pace (l : Launch) (w : Fx) (S : St) (p x y : Int32) : Ct l yX6_pace cX6_pace 4 (some .int) 1 w [.ref (aD w 0), .int p, .int x, .int y] S (fun v S' => v = some (.int (pcR S p x y)) ∧ S' = pcT S p x y) := by
  refine Ct.of (by decide) (Nat.le_of_ble_eq_true rfl) (fun X h hr hl hw => ?_)
  subst hl hw
  have h : Ok X cX6_pace RX6 1 := h
  show Wx X S 0 [.ref (aD (xw X) 0), .int p, .int x, .int y] []
  refine r_aload_n 0 h dX6_pace_0 rfl rfl ?_
  refine g0_0 h lf_X6_10 dX6_pace_1 ?_
  refine r_iload_n 1 h dX6_pace_4 rfl rfl ?_
  refine cV1 h (mX2_has _ _ _ p) kX2_has lm_X6_83 (by decide) 1 (pl_1 _ _) rfl (Nat.le_of_ble_eq_true rfl) dX6_pace_5 ?_
  refine r_if_eq 25 h dX6_pace_8 (by decide) (fun c8 => ?_) (fun c8 => ?_)
  · refine r_bipush (-2) h dX6_pace_25 (by decide) ?_
    exact r_iret h hr dX6_pace_27 ⟨by simp only [pcR, c8, ite_true, ite_false, if_true, if_false, not_true, not_false_iff], by simp only [pcT, c8, ite_true, ite_false, if_true, if_false, not_true, not_false_iff]⟩
  · refine r_iload_n 2 h dX6_pace_11 rfl rfl ?_
    refine cS1 h (mX6_isPaceNumber _ _ _ x) kX6_isPaceNumber lm_X6_111 (by decide) (Nat.le_of_ble_eq_true rfl) dX6_pace_12 ?_
    refine r_if_eq 25 h dX6_pace_15 (by decide) (fun c15 => ?_) (fun c15 => ?_)
    · refine r_bipush (-2) h dX6_pace_25 (by decide) ?_
      exact r_iret h hr dX6_pace_27 ⟨by simp only [pcR, c8, c15, ite_true, ite_false, if_true, if_false, not_true, not_false_iff], by simp only [pcT, c8, c15, ite_true, ite_false, if_true, if_false, not_true, not_false_iff]⟩
    · refine r_iload_n 3 h dX6_pace_18 rfl rfl ?_
      refine cS1 h (mX6_isPaceNumber _ _ _ y) kX6_isPaceNumber lm_X6_111 (by decide) (Nat.le_of_ble_eq_true rfl) dX6_pace_19 ?_
      refine r_if_ne 28 h dX6_pace_22 (by decide) (fun c22 => ?_) (fun c22 => ?_)
      · refine r_aload_n 0 h dX6_pace_28 rfl rfl ?_
        refine g0_0 h lf_X6_10 dX6_pace_29 ?_
        refine r_iload_n 1 h dX6_pace_32 rfl rfl ?_
        refine r_iload_n 2 h dX6_pace_33 rfl rfl ?_
        refine r_iload_n 3 h dX6_pace_34 rfl rfl ?_
        show Wx _ _ 35 _ _
        refine cV3v h (mX2_setPace _ _ _ p x y (has_in c8)) kX2_setPace lm_X6_114 (by decide) 1 (pl_1 _ _) rfl (Nat.le_of_ble_eq_true rfl) dX6_pace_35 ?_
        refine r_iconst 1 h dX6_pace_38 (by decide) ?_
        exact r_iret h hr dX6_pace_39 ⟨by simp only [pcR, c8, c15, c22, ite_true, ite_false, if_true, if_false, not_true, not_false_iff], by simp only [pcT, c8, c15, c22, ite_true, ite_false, if_true, if_false, not_true, not_false_iff]⟩
      · refine r_bipush (-2) h dX6_pace_25 (by decide) ?_
        exact r_iret h hr dX6_pace_27 ⟨by simp only [pcR, c8, c15, c22, ite_true, ite_false, if_true, if_false, not_true, not_false_iff], by simp only [pcT, c8, c15, c22, ite_true, ite_false, if_true, if_false, not_true, not_false_iff]⟩
set_option maxRecDepth 100000 in
set_option maxHeartbeats 4000000 in
theorem mX6_at (l : Launch) (w : Fx) (S : St) (p q : Int32) : Ct l yX6_at cX6_at 3 (some .int) 1 w [.ref (aD w 0), .int p, .int q] S (fun v S' => v = some (.int (aqR S p q)) ∧ S' = S) := by
  refine Ct.of (by decide) (Nat.le_of_ble_eq_true rfl) (fun X h hr hl hw => ?_)
  subst hl hw
  have h : Ok X cX6_at RX6 1 := h
  show Wx X S 0 [.ref (aD (xw X) 0), .int p, .int q] []
  refine r_aload_n 0 h dX6_at_0 rfl rfl ?_
  refine g0_0 h lf_X6_10 dX6_at_1 ?_
  refine r_iload_n 1 h dX6_at_4 rfl rfl ?_
  refine cV1 h (mX2_has _ _ _ p) kX2_has lm_X6_83 (by decide) 1 (pl_1 _ _) rfl (Nat.le_of_ble_eq_true rfl) dX6_at_5 ?_
  refine r_if_ne 15 h dX6_at_8 (by decide) (fun c8 => ?_) (fun c8 => ?_)
  · refine r_aload_n 0 h dX6_at_15 rfl rfl ?_
    refine g0_0 h lf_X6_10 dX6_at_16 ?_
    refine r_iload_n 1 h dX6_at_19 rfl rfl ?_
    refine r_iload_n 2 h dX6_at_20 rfl rfl ?_
    refine cV2 h (mX2_read _ _ _ p q (has_in c8)) kX2_read lm_X6_117 (by decide) 1 (pl_1 _ _) rfl (Nat.le_of_ble_eq_true rfl) dX6_at_21 ?_
    show Wx _ _ 24 _ _
    exact r_iret h hr dX6_at_24 ⟨by simp only [aqR, c8, ite_true, ite_false, if_true, if_false, not_true, not_false_iff], rfl⟩
  · refine r_sipush (-2000) h dX6_at_11 (by decide) ?_
    exact r_iret h hr dX6_at_14 ⟨by simp only [aqR, c8, ite_true, ite_false, if_true, if_false, not_true, not_false_iff], rfl⟩
set_option maxRecDepth 100000 in
set_option maxHeartbeats 4000000 in
theorem mX6_kernel (l : Launch) (w : Fx) (S : St) (a b c : Int32) : Ct l yX6_kernel cX6_kernel 5 (some .int) 2 w [.ref (aD w 0), .int a, .int b, .int c] S (fun v S' => v = some (.int (knR S a b c)) ∧ S' = knT S a b c) := by
  refine Ct.of (by decide) (Nat.le_of_ble_eq_true rfl) (fun X h hr hl hw => ?_)
  subst hl hw
  have h : Ok X cX6_kernel RX6 2 := h
  show Wx X S 0 [.ref (aD (xw X) 0), .int a, .int b, .int c, .null] []
  refine r_iload_n 1 h dX6_kernel_0 rfl rfl ?_
  refine r_iload_n 2 h dX6_kernel_1 rfl rfl ?_
  refine cS2 h (mX6_isPowers _ _ _ a b) kX6_isPowers lm_X6_121 (by decide) (Nat.le_of_ble_eq_true rfl) dX6_kernel_2 ?_
  refine r_if_eq 20 h dX6_kernel_5 (by decide) (fun c5 => ?_) (fun c5 => ?_)
  · refine r_sipush (-2000) h dX6_kernel_20 (by decide) ?_
    exact r_iret h hr dX6_kernel_23 ⟨by simp only [knR, c5, ite_true, ite_false, if_true, if_false, not_true, not_false_iff], by simp only [knT, c5, ite_true, ite_false, if_true, if_false, not_true, not_false_iff]⟩
  · refine r_iload_n 3 h dX6_kernel_8 rfl rfl ?_
    refine r_bipush (-9) h dX6_kernel_9 (by decide) ?_
    refine r_icmp_lt 20 h dX6_kernel_11 (by decide) (fun c11 => ?_) (fun c11 => ?_)
    · refine r_sipush (-2000) h dX6_kernel_20 (by decide) ?_
      exact r_iret h hr dX6_kernel_23 ⟨by simp only [knR, c5, c11, ite_true, ite_false, if_true, if_false, not_true, not_false_iff], by simp only [knT, c5, c11, ite_true, ite_false, if_true, if_false, not_true, not_false_iff]⟩
    · refine r_iload_n 3 h dX6_kernel_14 rfl rfl ?_
      refine r_bipush 9 h dX6_kernel_15 (by decide) ?_
      refine r_icmp_le 24 h dX6_kernel_17 (by decide) (fun c17 => ?_) (fun c17 => ?_)
      · obtain ⟨i, j, hij, rfl, rfl⟩ := pwr_at c5
        refine r_aload_n 0 h dX6_kernel_24 rfl rfl ?_
        refine g0_2 h lf_X6_28 dX6_kernel_25 ?_
        refine r_iload_n 1 h dX6_kernel_28 rfl rfl ?_
        refine r_iload_n 2 h dX6_kernel_29 rfl rfl ?_
        refine cV2 h (mX3_get _ _ _ i j (by omega)) kX3_get lm_X6_124 (by decide) 11 (pl_11 _ _) rfl (Nat.le_of_ble_eq_true rfl) dX6_kernel_30 ?_
        show Wx _ _ 33 _ _
        refine r_l2i h dX6_kernel_33 ?_
        refine r_istore h dX6_kernel_34 (Nat.le_of_ble_eq_true rfl) ?_
        show Wx _ _ _ [_, _, _, _, _] _
        refine r_aload_n 0 h dX6_kernel_36 rfl rfl ?_
        refine g0_2 h lf_X6_28 dX6_kernel_37 ?_
        refine r_iload_n 1 h dX6_kernel_40 rfl rfl ?_
        refine r_iload_n 2 h dX6_kernel_41 rfl rfl ?_
        show Wx _ _ 42 _ _
        refine r_iload_n 3 h dX6_kernel_42 rfl rfl ?_
        refine r_i2l h dX6_kernel_43 ?_
        refine cV3v h (mX3_set _ _ _ i j _ (by omega)) kX3_set lm_X6_32 (by decide) 11 (pl_11 _ _) rfl (Nat.le_of_ble_eq_true rfl) dX6_kernel_44 ?_
        refine r_iload h dX6_kernel_47 rfl ?_
        exact r_iret h hr dX6_kernel_49 ⟨by rw [knR, if_neg c5, if_neg c11, if_pos c17, ncl (by omega), ncl (by omega)], by rw [knT, if_neg c5, if_neg c11, if_pos c17, ncl (by omega), ncl (by omega)]⟩
      · refine r_sipush (-2000) h dX6_kernel_20 (by decide) ?_
        exact r_iret h hr dX6_kernel_23 ⟨by simp only [knR, c5, c11, c17, ite_true, ite_false, if_true, if_false, not_true, not_false_iff], by simp only [knT, c5, c11, c17, ite_true, ite_false, if_true, if_false, not_true, not_false_iff]⟩
set_option maxRecDepth 100000 in
set_option maxHeartbeats 4000000 in
theorem mX6_capacity (l : Launch) (w : Fx) (S : St) (m : Int32) : Ct l yX6_capacity cX6_capacity 3 (some .int) 0 w [.ref (aD w 0), .int m] S (fun v S' => v = some (.int (cpR S m)) ∧ S' = cpT S m) := by
  refine Ct.of (by decide) (Nat.le_of_ble_eq_true rfl) (fun X h hr hl hw => ?_)
  subst hl hw
  have h : Ok X cX6_capacity RX6 0 := h
  show Wx X S 0 [.ref (aD (xw X) 0), .int m, .null] []
  refine r_iload_n 1 h dX6_capacity_0 rfl rfl ?_
  refine r_iconst 1 h dX6_capacity_1 (by decide) ?_
  refine r_icmp_lt 11 h dX6_capacity_2 (by decide) (fun c2 => ?_) (fun c2 => ?_)
  · refine r_bipush (-2) h dX6_capacity_11 (by decide) ?_
    exact r_iret h hr dX6_capacity_13 ⟨by simp only [cpR, c2, ite_true, ite_false, if_true, if_false, not_true, not_false_iff], by simp only [cpT, c2, ite_true, ite_false, if_true, if_false, not_true, not_false_iff]⟩
  · refine r_iload_n 1 h dX6_capacity_5 rfl rfl ?_
    refine r_bipush 8 h dX6_capacity_6 (by decide) ?_
    refine r_icmp_le 14 h dX6_capacity_8 (by decide) (fun c8 => ?_) (fun c8 => ?_)
    · refine r_aload_n 0 h dX6_capacity_14 rfl rfl ?_
      refine g0_1 h lf_X6_21 dX6_capacity_15 ?_
      refine g8_2 h lf_X6_128 dX6_capacity_18 ?_
      refine r_istore_n 2 h dX6_capacity_21 rfl (Nat.le_of_ble_eq_true rfl) ?_
      show Wx _ _ _ [_, _, _] _
      refine r_aload_n 0 h dX6_capacity_22 rfl rfl ?_
      show Wx _ _ 23 _ _
      refine g0_1 h lf_X6_21 dX6_capacity_23 ?_
      refine r_iload_n 1 h dX6_capacity_26 rfl rfl ?_
      refine p8_2 h lf_X6_128 dX6_capacity_27 ?_
      refine r_iload_n 2 h dX6_capacity_30 rfl rfl ?_
      exact r_iret h hr dX6_capacity_31 ⟨by simp only [cpR, c2, c8, ite_true, ite_false, if_true, if_false, not_true, not_false_iff], by simp only [cpT, c2, c8, ite_true, ite_false, if_true, if_false, not_true, not_false_iff]⟩
    · refine r_bipush (-2) h dX6_capacity_11 (by decide) ?_
      exact r_iret h hr dX6_capacity_13 ⟨by simp only [cpR, c2, c8, ite_true, ite_false, if_true, if_false, not_true, not_false_iff], by simp only [cpT, c2, c8, ite_true, ite_false, if_true, if_false, not_true, not_false_iff]⟩
set_option maxRecDepth 100000 in
set_option maxHeartbeats 4000000 in
theorem mX6_pullOf (l : Launch) (w : Fx) (S : St) (p x y : Int32) (hp : vp_in p 40) : Ct l yX6_pullOf cX6_pullOf 6 (some .long) 2 w [.ref (aD w 0), .int p, .int x, .int y] S (fun v S' => v = some (.long (pulL S p x y)) ∧ S' = S) := by
  refine Ct.of (by decide) (Nat.le_of_ble_eq_true rfl) (fun X h hr hl hw => ?_)
  subst hl hw
  have h : Ok X cX6_pullOf RX6 2 := h
  show Wx X S 0 [.ref (aD (xw X) 0), .int p, .int x, .int y, .null, .null] []
  refine r_aload_n 0 h dX6_pullOf_0 rfl rfl ?_
  refine g0_2 h lf_X6_28 dX6_pullOf_1 ?_
  refine r_iload_n 2 h dX6_pullOf_4 rfl rfl ?_
  refine r_aload_n 0 h dX6_pullOf_5 rfl rfl ?_
  refine g0_0 h lf_X6_10 dX6_pullOf_6 ?_
  show Wx _ _ 9 _ _
  refine g1_1 h lf_X6_86 dX6_pullOf_9 ?_
  refine r_iload_n 1 h dX6_pullOf_12 rfl rfl ?_
  refine al_3 h hp dX6_pullOf_13 ?_
  refine r_isub h dX6_pullOf_14 ?_
  refine r_i2l h dX6_pullOf_15 ?_
  refine r_iload_n 3 h dX6_pullOf_16 rfl rfl ?_
  show Wx _ _ 17 _ _
  refine r_aload_n 0 h dX6_pullOf_17 rfl rfl ?_
  refine g0_0 h lf_X6_10 dX6_pullOf_18 ?_
  refine g1_2 h lf_X6_90 dX6_pullOf_21 ?_
  refine r_iload_n 1 h dX6_pullOf_24 rfl rfl ?_
  refine al_4 h hp dX6_pullOf_25 ?_
  refine r_isub h dX6_pullOf_26 ?_
  show Wx _ _ 27 _ _
  refine r_i2l h dX6_pullOf_27 ?_
  refine cV2 h (mX3_valueAt11 _ _ _ _ _) kX3_valueAt lm_X6_227 (by decide) 11 (pl_11 _ _) rfl (Nat.le_of_ble_eq_true rfl) dX6_pullOf_28 ?_
  refine r_lstore h dX6_pullOf_31 (Nat.le_of_ble_eq_true rfl) ?_
  show Wx _ _ _ [_, _, _, _, _, _] _
  refine r_bipush 16 h dX6_pullOf_33 (by decide) ?_
  refine r_aload_n 0 h dX6_pullOf_35 rfl rfl ?_
  refine g0_0 h lf_X6_10 dX6_pullOf_36 ?_
  show Wx _ _ 39 _ _
  refine g1_3 h lf_X6_108 dX6_pullOf_39 ?_
  refine r_iload_n 1 h dX6_pullOf_42 rfl rfl ?_
  refine al_5 h hp dX6_pullOf_43 ?_
  refine r_imul h dX6_pullOf_44 ?_
  refine r_i2l h dX6_pullOf_45 ?_
  refine r_lload h dX6_pullOf_46 rfl ?_
  show Wx _ _ 48 _ _
  refine r_lmul h dX6_pullOf_48 ?_
  exact r_lret h hr dX6_pullOf_49 ⟨rfl, rfl⟩
set_option maxRecDepth 100000 in
set_option maxHeartbeats 4000000 in
theorem mX6_sum (l : Launch) (w : Fx) (S : St) (x y : Int32) : Ct l yX6_sum cX6_sum 6 (some .long) 3 w [.ref (aD w 0), .int x, .int y] S (fun v S' => v = some (.long (suR S x y)) ∧ S' = S) := by
  refine Ct.of (by decide) (Nat.le_of_ble_eq_true rfl) (fun X h hr hl hw => ?_)
  subst hl hw
  have h : Ok X cX6_sum RX6 3 := h
  show Wx X S 0 [.ref (aD (xw X) 0), .int x, .int y, .null, .null, .null] []
  have loop : ¬ plcI x y = 0 → ∀ n i : Nat, i + n = 40 → Wx X (S) 17 [.ref (aD (xw X) 0), .int x, .int y, .long (suV S x y i), .null, .int (nI i)] [] := by
    intro hpl n
    induction n with
    | zero =>
      intro i hi
      have hi : i = 40 := by omega
      subst hi
      refine r_iload h dX6_sum_17 rfl ?_
      refine r_bipush 40 h dX6_sum_19 (by decide) ?_
      refine r_icmp_ge_t 54 h dX6_sum_21 (by decide) (bigT (a := 40) (by omega) (by omega)) ?_
      refine r_lload_n 3 h dX6_sum_54 rfl rfl ?_
      exact r_lret h hr dX6_sum_55 ⟨by rw [suR, if_neg hpl], rfl⟩
    | succ n ih =>
      intro i hi
      have hq := ih (i + 1) (by omega)
      rw [suV_s] at hq
      refine r_iload h dX6_sum_17 rfl ?_
      refine r_bipush 40 h dX6_sum_19 (by decide) ?_
      refine r_icmp_ge_f 54 h dX6_sum_21 (by decide) (bigF (a := 40) (by omega) (by omega)) ?_
      refine r_aload_n 0 h dX6_sum_24 rfl rfl ?_
      refine g0_0 h lf_X6_10 dX6_sum_25 ?_
      show Wx _ _ 28 _ _
      refine g1_0 h lf_X6_133 dX6_sum_28 ?_
      refine r_iload h dX6_sum_31 rfl ?_
      refine alN_2 h (by omega) dX6_sum_33 ?_
      refine r_if_eq 48 h dX6_sum_34 (by decide) (fun c34 => ?_) (fun c34 => ?_)
      · refine r_iincN h dX6_sum_48 rfl ?_
        show Wx _ _ _ [_, _, _, _, _, _] _
        refine r_goto 17 h dX6_sum_51 (by decide) ?_
        first | (rw [if_pos c34] at hq; exact hq) | (rw [if_neg c34] at hq; exact hq)
      · refine r_lload_n 3 h dX6_sum_37 rfl rfl ?_
        refine r_aload_n 0 h dX6_sum_38 rfl rfl ?_
        refine r_iload h dX6_sum_39 rfl ?_
        refine r_iload_n 1 h dX6_sum_41 rfl rfl ?_
        refine r_iload_n 2 h dX6_sum_42 rfl rfl ?_
        show Wx _ _ 43 _ _
        refine cV3 h (mX6_pullOf _ _ _ (nI i) x y (vin (by omega))) kX6_pullOf lm_X6_137 (by decide) 0 (pl_0 _ _) rfl (Nat.le_of_ble_eq_true rfl) dX6_sum_43 ?_
        refine r_ladd h dX6_sum_46 ?_
        refine r_lstore_n 3 h dX6_sum_47 rfl (Nat.le_of_ble_eq_true rfl) ?_
        show Wx _ _ _ [_, _, _, _, _, _] _
        refine r_iincN h dX6_sum_48 rfl ?_
        show Wx _ _ _ [_, _, _, _, _, _] _
        refine r_goto 17 h dX6_sum_51 (by decide) ?_
        first | (rw [if_pos c34] at hq; exact hq) | (rw [if_neg c34] at hq; exact hq)
  refine r_iload_n 1 h dX6_sum_0 rfl rfl ?_
  refine r_iload_n 2 h dX6_sum_1 rfl rfl ?_
  refine cS2 h (mX6_isPlace _ _ _ x y) kX6_isPlace lm_X6_63 (by decide) (Nat.le_of_ble_eq_true rfl) dX6_sum_2 ?_
  refine r_if_ne 12 h dX6_sum_5 (by decide) (fun c5 => ?_) (fun c5 => ?_)
  · refine r_lconst 0 h dX6_sum_12 (by decide) ?_
    refine r_lstore_n 3 h dX6_sum_13 rfl (Nat.le_of_ble_eq_true rfl) ?_
    show Wx _ _ _ [_, _, _, _, _, _] _
    refine r_iconst 0 h dX6_sum_14 (by decide) ?_
    refine r_istore h dX6_sum_15 (Nat.le_of_ble_eq_true rfl) ?_
    show Wx _ _ _ [_, _, _, _, _, _] _
    exact loop c5 40 0 rfl
  · refine r_ldc2 h lc_X6_131 dX6_sum_8 ?_
    exact r_lret h hr dX6_sum_11 ⟨by simp only [suR, c5, ite_true, ite_false, if_true, if_false, not_true, not_false_iff], rfl⟩
set_option maxRecDepth 100000 in
set_option maxHeartbeats 4000000 in
theorem mX6_leaf (l : Launch) (w : Fx) (S : St) (x y : Int32) : Ct l yX6_leaf cX6_leaf 3 (some .int) 3 w [.ref (aD w 0), .int x, .int y] S (fun v S' => v = some (.int (lfyR S x y)) ∧ S' = S) := by
  refine Ct.of (by decide) (Nat.le_of_ble_eq_true rfl) (fun X h hr hl hw => ?_)
  subst hl hw
  have h : Ok X cX6_leaf RX6 3 := h
  show Wx X S 0 [.ref (aD (xw X) 0), .int x, .int y] []
  refine r_iload_n 1 h dX6_leaf_0 rfl rfl ?_
  refine r_iload_n 2 h dX6_leaf_1 rfl rfl ?_
  refine cS2 h (mX6_isPlace _ _ _ x y) kX6_isPlace lm_X6_63 (by decide) (Nat.le_of_ble_eq_true rfl) dX6_leaf_2 ?_
  refine r_if_ne 11 h dX6_leaf_5 (by decide) (fun c5 => ?_) (fun c5 => ?_)
  · refine r_aload_n 0 h dX6_leaf_11 rfl rfl ?_
    refine g0_1 h lf_X6_21 dX6_leaf_12 ?_
    refine r_iload_n 1 h dX6_leaf_15 rfl rfl ?_
    refine r_iload_n 2 h dX6_leaf_16 rfl rfl ?_
    refine cV2 h (mX0_leafLevelI _ _ _ x y (plc_in c5).1 (plc_in c5).2) kX0_leafLevel lm_X6_181 (by decide) 8 (pl_8 _ _) rfl (Nat.le_of_ble_eq_true rfl) dX6_leaf_17 ?_
    show Wx _ _ 20 _ _
    exact r_iret h hr dX6_leaf_20 ⟨by simp only [lfyR, c5, ite_true, ite_false, if_true, if_false, not_true, not_false_iff], rfl⟩
  · refine r_bipush (-2) h dX6_leaf_8 (by decide) ?_
    exact r_iret h hr dX6_leaf_10 ⟨by simp only [lfyR, c5, ite_true, ite_false, if_true, if_false, not_true, not_false_iff], rfl⟩
set_option maxRecDepth 100000 in
set_option maxHeartbeats 4000000 in
theorem mX6_nearest (l : Launch) (w : Fx) (S : St) (x y k : Int32) : Ct l yX6_nearest cX6_nearest 5 (some .int) 2 w [.ref (aD w 0), .int x, .int y, .int k] S (fun v S' => v = some (.int (neR S x y k)) ∧ S' = S) := by
  refine Ct.of (by decide) (Nat.le_of_ble_eq_true rfl) (fun X h hr hl hw => ?_)
  subst hl hw
  have h : Ok X cX6_nearest RX6 2 := h
  show Wx X S 0 [.ref (aD (xw X) 0), .int x, .int y, .int k, .null] []
  have loop : ¬ plcI x y = 0 → 0 ≤ k → ∀ n p : Nat, p + n = 40 → neV S x y k n p = neV S x y k 40 0 → Wx X (S) 18 [.ref (aD (xw X) 0), .int x, .int y, .int k, .int (nI p)] [] := by
    intro h1 h2 n
    induction n with
    | zero =>
      intro p hi he
      have hi : p = 40 := by omega
      refine r_iload h dX6_nearest_18 rfl ?_
      refine r_bipush 40 h dX6_nearest_20 (by decide) ?_
      refine r_icmp_ge_t 62 h dX6_nearest_22 (by decide) (bigT (a := 40) (by omega) (by omega)) ?_
      refine r_iconst (-1) h dX6_nearest_62 (by decide) ?_
      exact r_iret h hr dX6_nearest_63 ⟨by rw [neR, if_neg h1, if_pos h2, ← he]; rfl, rfl⟩
    | succ n ih =>
      intro p hi he
      rw [neV_s (n := n) (p := p)] at he
      refine r_iload h dX6_nearest_18 rfl ?_
      refine r_bipush 40 h dX6_nearest_20 (by decide) ?_
      refine r_icmp_ge_f 62 h dX6_nearest_22 (by decide) (bigF (a := 40) (by omega) (by omega)) ?_
      refine r_aload_n 0 h dX6_nearest_25 rfl rfl ?_
      refine g0_0 h lf_X6_10 dX6_nearest_26 ?_
      show Wx _ _ 29 _ _
      refine g1_0 h lf_X6_133 dX6_nearest_29 ?_
      refine r_iload h dX6_nearest_32 rfl ?_
      refine alN_2 h (by omega) dX6_nearest_34 ?_
      refine r_if_eq 56 h dX6_nearest_35 (by decide) (fun c35 => ?_) (fun c35 => ?_)
      · refine r_iincN h dX6_nearest_56 rfl ?_
        show Wx _ _ _ [_, _, _, _, _] _
        refine r_goto 18 h dX6_nearest_59 (by decide) ?_
        refine ih (p + 1) (by omega) ?_
        rw [← he]
        first | (rw [if_pos c35]; done) | (rw [if_neg c35, if_neg c50]; done)
      · refine r_aload_n 0 h dX6_nearest_38 rfl rfl ?_
        refine g0_0 h lf_X6_10 dX6_nearest_39 ?_
        refine r_iload h dX6_nearest_42 rfl ?_
        refine r_iload_n 1 h dX6_nearest_44 rfl rfl ?_
        refine r_iload_n 2 h dX6_nearest_45 rfl rfl ?_
        show Wx _ _ 46 _ _
        refine cV3 h (mX2_nearerThan _ _ _ (nI p) x y (vin (by omega))) kX2_nearerThan lm_X6_184 (by decide) 1 (pl_1 _ _) rfl (Nat.le_of_ble_eq_true rfl) dX6_nearest_46 ?_
        refine r_iload_n 3 h dX6_nearest_49 rfl rfl ?_
        refine r_icmp_ne 56 h dX6_nearest_50 (by decide) (fun c50 => ?_) (fun c50 => ?_)
        · refine r_iincN h dX6_nearest_56 rfl ?_
          show Wx _ _ _ [_, _, _, _, _] _
          refine r_goto 18 h dX6_nearest_59 (by decide) ?_
          refine ih (p + 1) (by omega) ?_
          rw [← he]
          first | (rw [if_pos c35]; done) | (rw [if_neg c35, if_neg c50]; done)
        · refine r_iload h dX6_nearest_53 rfl ?_
          exact r_iret h hr dX6_nearest_55 ⟨by rw [neR, if_neg h1, if_pos h2, ← he, if_neg c35, if_pos c50], rfl⟩
  refine r_iload_n 1 h dX6_nearest_0 rfl rfl ?_
  refine r_iload_n 2 h dX6_nearest_1 rfl rfl ?_
  refine cS2 h (mX6_isPlace _ _ _ x y) kX6_isPlace lm_X6_63 (by decide) (Nat.le_of_ble_eq_true rfl) dX6_nearest_2 ?_
  refine r_if_eq 12 h dX6_nearest_5 (by decide) (fun c5 => ?_) (fun c5 => ?_)
  · refine r_bipush (-2) h dX6_nearest_12 (by decide) ?_
    exact r_iret h hr dX6_nearest_14 ⟨by simp only [neR, c5, ite_true, ite_false, if_true, if_false, not_true, not_false_iff], rfl⟩
  · refine r_iload_n 3 h dX6_nearest_8 rfl rfl ?_
    refine r_if_ge 15 h dX6_nearest_9 (by decide) (fun c9 => ?_) (fun c9 => ?_)
    · refine r_iconst 0 h dX6_nearest_15 (by decide) ?_
      refine r_istore h dX6_nearest_16 (Nat.le_of_ble_eq_true rfl) ?_
      show Wx _ _ _ [_, _, _, _, _] _
      exact loop c5 c9 40 0 rfl rfl
    · refine r_bipush (-2) h dX6_nearest_12 (by decide) ?_
      exact r_iret h hr dX6_nearest_14 ⟨by simp only [neR, c5, c9, ite_true, ite_false, if_true, if_false, not_true, not_false_iff], rfl⟩
set_option maxRecDepth 100000 in
set_option maxHeartbeats 4000000 in
theorem mX6_box (l : Launch) (w : Fx) (S : St) (q i j z : Int32) : Ct l yX6_box cX6_box 5 (some .int) 3 w [.ref (aD w 0), .int q, .int i, .int j, .int z] S (fun v S' => v = some (.int (bxR S q i j z)) ∧ S' = bxT S q i j z) := by
  refine Ct.of (by decide) (Nat.le_of_ble_eq_true rfl) (fun X h hr hl hw => ?_)
  subst hl hw
  have h : Ok X cX6_box RX6 3 := h
  show Wx X S 0 [.ref (aD (xw X) 0), .int q, .int i, .int j, .int z] []
  refine r_aload_n 0 h dX6_box_0 rfl rfl ?_
  refine g0_1 h lf_X6_21 dX6_box_1 ?_
  refine r_iload_n 1 h dX6_box_4 rfl rfl ?_
  refine r_iload_n 2 h dX6_box_5 rfl rfl ?_
  refine r_iload_n 3 h dX6_box_6 rfl rfl ?_
  show Wx _ _ 7 _ _
  refine cV3 h (mX0_isThere _ _ _ q i j) kX0_isThere lm_X6_157 (by decide) 8 (pl_8 _ _) rfl (Nat.le_of_ble_eq_true rfl) dX6_box_7 ?_
  refine r_if_ne 16 h dX6_box_10 (by decide) (fun c10 => ?_) (fun c10 => ?_)
  · refine r_iload h dX6_box_16 rfl ?_
    refine r_sw3 92 44 55 73 h dX6_box_18 (by decide) (by decide) (by decide) (by decide)  (fun c18 => ?_) (fun c18 => ?_) (fun c18 => ?_) (fun c18 => ?_) 
    · refine r_bipush (-2) h dX6_box_92 (by decide) ?_
      exact r_iret h hr dX6_box_94 ⟨by rw [bxR, if_neg c10, if_neg (q3_out c18).1, if_neg (q3_out c18).2.1, if_neg (q3_out c18).2.2], by rw [bxT, if_neg c10, if_neg (q3_out c18).2.1]⟩
    · obtain ⟨k, a, b, hk, ha, hb, rfl, rfl, rfl⟩ := thr_at c10
      have hp2 := p2_lt hk
      subst c18
      refine r_aload_n 0 h dX6_box_44 rfl rfl ?_
      refine g0_1 h lf_X6_21 dX6_box_45 ?_
      refine r_iload_n 1 h dX6_box_48 rfl rfl ?_
      refine r_iload_n 2 h dX6_box_49 rfl rfl ?_
      refine r_iload_n 3 h dX6_box_50 rfl rfl ?_
      show Wx _ _ 51 _ _
      refine cV3 h (mX0_pointsIn _ _ _ k a b hk ha hb) kX0_pointsIn lm_X6_161 (by decide) 8 (pl_8 _ _) rfl (Nat.le_of_ble_eq_true rfl) dX6_box_51 ?_
      exact r_iret h hr dX6_box_54 ⟨by rw [bxR, if_neg c10, if_pos rfl, ncl (by omega), ncl (by omega), ncl (by omega)], by rw [bxT, if_neg c10, if_neg (by decide)]⟩
    · subst c18
      refine r_aload_n 0 h dX6_box_55 rfl rfl ?_
      refine g0_1 h lf_X6_21 dX6_box_56 ?_
      refine r_iload_n 1 h dX6_box_59 rfl rfl ?_
      refine r_iload_n 2 h dX6_box_60 rfl rfl ?_
      refine r_iload_n 3 h dX6_box_61 rfl rfl ?_
      show Wx _ _ 62 _ _
      refine cV3v h (mX0_gather _ _ _ q i j) kX0_gather lm_X6_165 (by decide) 8 (pl_8 _ _) rfl (Nat.le_of_ble_eq_true rfl) dX6_box_62 ?_
      refine r_aload_n 0 h dX6_box_65 rfl rfl ?_
      refine g0_1 h lf_X6_21 dX6_box_66 ?_
      refine g8_4 h lf_X6_168 dX6_box_69 ?_
      exact r_iret h hr dX6_box_72 ⟨by rw [bxR, if_neg c10, if_neg (by decide), if_pos rfl], by rw [bxT, if_neg c10, if_pos rfl]⟩
    · obtain ⟨k, a, b, hk, ha, hb, rfl, rfl, rfl⟩ := thr_at c10
      have hp2 := p2_lt hk
      subst c18
      refine r_aload_n 0 h dX6_box_73 rfl rfl ?_
      refine g0_1 h lf_X6_21 dX6_box_74 ?_
      refine r_iload_n 1 h dX6_box_77 rfl rfl ?_
      refine r_iload_n 2 h dX6_box_78 rfl rfl ?_
      refine r_iload_n 3 h dX6_box_79 rfl rfl ?_
      show Wx _ _ 80 _ _
      refine cV3 h (mX0_isSplit _ _ _ k a b hk ha hb) kX0_isSplit lm_X6_171 (by decide) 8 (pl_8 _ _) rfl (Nat.le_of_ble_eq_true rfl) dX6_box_80 ?_
      refine r_if_eq 90 h dX6_box_83 (by decide) (fun c83 => ?_) (fun c83 => ?_)
      · refine r_iconst 0 h dX6_box_90 (by decide) ?_
        exact r_iret h hr dX6_box_91 ⟨by rw [bxR, if_neg c10, if_neg (by decide), if_neg (by decide), if_pos rfl, ncl (by omega), ncl (by omega), ncl (by omega)]; rcases spl_01 S k a b with z | z <;> first | (rw [z]; done) | exact absurd z c83 | (rw [z] at c83; exact absurd c83 (by decide)), by rw [bxT, if_neg c10, if_neg (by decide)]⟩
      · refine r_iconst 1 h dX6_box_86 (by decide) ?_
        refine r_goto 91 h dX6_box_87 (by decide) ?_
        exact r_iret h hr dX6_box_91 ⟨by rw [bxR, if_neg c10, if_neg (by decide), if_neg (by decide), if_pos rfl, ncl (by omega), ncl (by omega), ncl (by omega)]; rcases spl_01 S k a b with z | z <;> first | (rw [z]; done) | exact absurd z c83 | (rw [z] at c83; exact absurd c83 (by decide)), by rw [bxT, if_neg c10, if_neg (by decide)]⟩
  · refine r_bipush (-2) h dX6_box_13 (by decide) ?_
    exact r_iret h hr dX6_box_15 ⟨by simp only [bxR, c10, ite_true, ite_false, if_true, if_false, not_true, not_false_iff], by simp only [bxT, c10, ite_true, ite_false, if_true, if_false, not_true, not_false_iff]⟩
set_option maxRecDepth 100000 in
set_option maxHeartbeats 4000000 in
theorem mX6_moment (l : Launch) (w : Fx) (S : St) (q i j a b : Int32) : Ct l yX6_moment cX6_moment 6 (some .long) 3 w [.ref (aD w 0), .int q, .int i, .int j, .int a, .int b] S (fun v S' => v = some (.long (moR S q i j a b)) ∧ S' = moT S q i j a b) := by
  refine Ct.of (by decide) (Nat.le_of_ble_eq_true rfl) (fun X h hr hl hw => ?_)
  subst hl hw
  have h : Ok X cX6_moment RX6 3 := h
  show Wx X S 0 [.ref (aD (xw X) 0), .int q, .int i, .int j, .int a, .int b] []
  refine r_aload_n 0 h dX6_moment_0 rfl rfl ?_
  refine g0_1 h lf_X6_21 dX6_moment_1 ?_
  refine r_iload_n 1 h dX6_moment_4 rfl rfl ?_
  refine r_iload_n 2 h dX6_moment_5 rfl rfl ?_
  refine r_iload_n 3 h dX6_moment_6 rfl rfl ?_
  show Wx _ _ 7 _ _
  refine cV3 h (mX0_isThere _ _ _ q i j) kX0_isThere lm_X6_157 (by decide) 8 (pl_8 _ _) rfl (Nat.le_of_ble_eq_true rfl) dX6_moment_7 ?_
  refine r_if_eq 23 h dX6_moment_10 (by decide) (fun c10 => ?_) (fun c10 => ?_)
  · refine r_ldc2 h lc_X6_131 dX6_moment_23 ?_
    exact r_lret h hr dX6_moment_26 ⟨by simp only [moR, c10, ite_true, ite_false, if_true, if_false, not_true, not_false_iff], by simp only [moT, c10, ite_true, ite_false, if_true, if_false, not_true, not_false_iff]⟩
  · refine r_iload h dX6_moment_13 rfl ?_
    refine r_iload h dX6_moment_15 rfl ?_
    refine cS2 h (mX6_isPowers _ _ _ a b) kX6_isPowers lm_X6_121 (by decide) (Nat.le_of_ble_eq_true rfl) dX6_moment_17 ?_
    refine r_if_ne 27 h dX6_moment_20 (by decide) (fun c20 => ?_) (fun c20 => ?_)
    · obtain ⟨u, t, hut, rfl, rfl⟩ := pwr_at c20
      refine r_aload_n 0 h dX6_moment_27 rfl rfl ?_
      refine g0_1 h lf_X6_21 dX6_moment_28 ?_
      refine r_iload_n 1 h dX6_moment_31 rfl rfl ?_
      refine r_iload_n 2 h dX6_moment_32 rfl rfl ?_
      refine r_iload_n 3 h dX6_moment_33 rfl rfl ?_
      show Wx _ _ 34 _ _
      refine cV3v h (mX0_gather _ _ _ q i j) kX0_gather lm_X6_165 (by decide) 8 (pl_8 _ _) rfl (Nat.le_of_ble_eq_true rfl) dX6_moment_34 ?_
      refine r_aload_n 0 h dX6_moment_37 rfl rfl ?_
      refine g0_1 h lf_X6_21 dX6_moment_38 ?_
      refine g8_3 h lf_X6_174 dX6_moment_41 ?_
      refine r_iload h dX6_moment_44 rfl ?_
      refine r_iload h dX6_moment_46 rfl ?_
      show Wx _ _ 48 _ _
      refine cS2 h (mX6_slotN _ _ _ u t) kX6_slot lm_X6_178 (by decide) (Nat.le_of_ble_eq_true rfl) dX6_moment_48 ?_
      refine alN_10 h (by omega) dX6_moment_51 ?_
      exact r_lret h hr dX6_moment_52 ⟨by rw [moR, if_neg c10, if_neg c20, ncl (by omega), ncl (by omega)], by rw [moT, if_neg c10, if_neg c20]⟩
    · refine r_ldc2 h lc_X6_131 dX6_moment_23 ?_
      exact r_lret h hr dX6_moment_26 ⟨by simp only [moR, c10, c20, ite_true, ite_false, if_true, if_false, not_true, not_false_iff], by simp only [moT, c10, c20, ite_true, ite_false, if_true, if_false, not_true, not_false_iff]⟩
set_option maxRecDepth 100000 in
set_option maxHeartbeats 4000000 in
theorem mX6_count (l : Launch) (w : Fx) (S : St) (q : Int32) : Ct l yX6_count cX6_count 2 (some .int) 2 w [.ref (aD w 0), .int q] S (fun v S' => v = some (.int (cnI S q)) ∧ S' = S) := by
  refine Ct.of (by decide) (Nat.le_of_ble_eq_true rfl) (fun X h hr hl hw => ?_)
  subst hl hw
  have h : Ok X cX6_count RX6 2 := h
  show Wx X S 0 [.ref (aD (xw X) 0), .int q] []
  refine r_iload_n 1 h dX6_count_0 rfl rfl ?_
  refine r_sw6 92 40 48 60 68 76 84 h dX6_count_1 (by decide) (by decide) (by decide) (by decide) (by decide) (by decide) (by decide)  (fun c1 => ?_) (fun c1 => ?_) (fun c1 => ?_) (fun c1 => ?_) (fun c1 => ?_) (fun c1 => ?_) (fun c1 => ?_) 
  · refine r_bipush (-2) h dX6_count_92 (by decide) ?_
    exact r_iret h hr dX6_count_94 ⟨by rw [cn_out c1], rfl⟩
  · refine r_aload_n 0 h dX6_count_40 rfl rfl ?_
    refine g0_0 h lf_X6_10 dX6_count_41 ?_
    refine g1_6 h lf_X6_100 dX6_count_44 ?_
    exact r_iret h hr dX6_count_47 ⟨by subst c1; rfl, rfl⟩
  · refine r_iconst 1 h dX6_count_48 (by decide) ?_
    refine r_iconst 4 h dX6_count_49 (by decide) ?_
    refine r_aload_n 0 h dX6_count_50 rfl rfl ?_
    refine g0_1 h lf_X6_21 dX6_count_51 ?_
    refine cV0 h (mX0_splitBoxes _ _ _) kX0_splitBoxes lm_X6_196 (by decide) 8 (pl_8 _ _) rfl (Nat.le_of_ble_eq_true rfl) dX6_count_54 ?_
    show Wx _ _ 57 _ _
    refine r_imul h dX6_count_57 ?_
    refine r_iadd h dX6_count_58 ?_
    exact r_iret h hr dX6_count_59 ⟨by subst c1; rfl, rfl⟩
  · refine r_aload_n 0 h dX6_count_60 rfl rfl ?_
    refine g0_1 h lf_X6_21 dX6_count_61 ?_
    refine cV0 h (mX0_splitBoxes _ _ _) kX0_splitBoxes lm_X6_196 (by decide) 8 (pl_8 _ _) rfl (Nat.le_of_ble_eq_true rfl) dX6_count_64 ?_
    exact r_iret h hr dX6_count_67 ⟨by subst c1; rfl, rfl⟩
  · refine r_aload_n 0 h dX6_count_68 rfl rfl ?_
    refine g0_1 h lf_X6_21 dX6_count_69 ?_
    refine cV0 h (mX0_greatestLevel _ _ _) kX0_greatestLevel lm_X6_199 (by decide) 8 (pl_8 _ _) rfl (Nat.le_of_ble_eq_true rfl) dX6_count_72 ?_
    exact r_iret h hr dX6_count_75 ⟨by subst c1; rfl, rfl⟩
  · refine r_aload_n 0 h dX6_count_76 rfl rfl ?_
    refine g0_5 h lf_X6_59 dX6_count_77 ?_
    refine g20_5 h lf_X6_193 dX6_count_80 ?_
    exact r_iret h hr dX6_count_83 ⟨by subst c1; rfl, rfl⟩
  · refine r_aload_n 0 h dX6_count_84 rfl rfl ?_
    refine g0_0 h lf_X6_10 dX6_count_85 ?_
    refine cV0 h (mX2_wholeBulk _ _ _) kX2_wholeBulk lm_X6_202 (by decide) 1 (pl_1 _ _) rfl (Nat.le_of_ble_eq_true rfl) dX6_count_88 ?_
    exact r_iret h hr dX6_count_91 ⟨by subst c1; rfl, rfl⟩
