set_option maxRecDepth 100000 in
set_option maxHeartbeats 4000000 in
theorem mX6_digestPoints (l : Launch) (w : Fx) (S : St) (z : Int64) : Ct l yX6_digestPoints cX6_digestPoints 7 (some .long) 1 w [.ref (aD w 0), .long z] S (fun v S' => v = some (.long (dpV S z 40)) ∧ S' = S) := by
  refine Ct.of (by decide) (Nat.le_of_ble_eq_true rfl) (fun X h hr hl hw => ?_)
  subst hl hw
  have h : Ok X cX6_digestPoints RX6 1 := h
  show Wx X S 0 [.ref (aD (xw X) 0), .long z, .null, .null, .null, .null, .null] []
  have loop : ∀ n p : Nat, p + n = 40 → Wx X S 5 [.ref (aD (xw X) 0), .long z, .null, .long (dpV S z p), .null, .int (nI p), .null] [] := by
    intro n
    induction n with
    | zero =>
      intro p hp
      have hp : p = 40 := by omega
      subst hp
      refine r_iload h dX6_digestPoints_5 rfl ?_
      refine r_bipush 40 h dX6_digestPoints_7 (by decide) ?_
      refine r_icmp_ge_t 75 h dX6_digestPoints_9 (by decide) (bigT (a := 40) (by omega) (by omega)) ?_
      refine r_lload_n 3 h dX6_digestPoints_75 rfl rfl ?_
      exact r_lret h hr dX6_digestPoints_76 ⟨rfl, rfl⟩
    | succ n ih =>
      intro p hp
      have hq := ih (p + 1) (by omega)
      rw [dpV_s] at hq
      have inner : ¬ S.1 0 p = 0 → ∀ n q : Nat, q + n = 5 → Wx X S 38 [.ref (aD (xw X) 0), .long z, .null, .long (dqV S p (31 * dpV S z p + (nI p).toInt64) q), .null, .int (nI p), .int (nI q)] [] := by
        intro hz n
        rw [if_neg hz] at hq
        induction n with
        | zero =>
          intro q hq5
          have hq5 : q = 5 := by omega
          subst hq5
          refine r_iload h dX6_digestPoints_38 rfl ?_
          refine r_iconst 4 h dX6_digestPoints_40 (by decide) ?_
          refine r_icmp_gt_t 69 h dX6_digestPoints_41 (by decide) (gtT (a := 4) (by omega) (by omega)) ?_
          refine r_iincN h dX6_digestPoints_69 rfl ?_
          show Wx _ _ _ [_, _, _, _, _, _, _] _
          refine r_goto 5 h dX6_digestPoints_72 (by decide) ?_
          exact Wx.weak (lv' := [.ref (aD (xw X) 0), .long z, .null, .long (dqV S p (31 * dpV S z p + (nI p).toInt64) 5), .null, .int (nI (p + 1)), .null]) (And.intro rfl (And.intro rfl (And.intro rfl (And.intro rfl trivial)))) (hq)
        | succ n ihq =>
          intro q hq5
          have hs := ihq (q + 1) (by omega)
          refine r_iload h dX6_digestPoints_38 rfl ?_
          refine r_iconst 4 h dX6_digestPoints_40 (by decide) ?_
          refine r_icmp_gt_f 69 h dX6_digestPoints_41 (by decide) (gtF (a := 4) (by omega) (by omega)) ?_
          refine r_ldc2 h lc_X6_207 dX6_digestPoints_44 ?_
          refine r_lload_n 3 h dX6_digestPoints_47 rfl rfl ?_
          show Wx _ _ 48 _ _
          refine r_lmul h dX6_digestPoints_48 ?_
          refine r_aload_n 0 h dX6_digestPoints_49 rfl rfl ?_
          refine g0_0 h lf_X6_10 dX6_digestPoints_50 ?_
          refine r_iload h dX6_digestPoints_53 rfl ?_
          refine r_iload h dX6_digestPoints_55 rfl ?_
          refine cV2 h (mX2_read _ _ _ (nI p) (nI q) (vin (by omega))) kX2_read lm_X6_117 (by decide) 1 (pl_1 _ _) rfl (Nat.le_of_ble_eq_true rfl) dX6_digestPoints_57 ?_
          show Wx _ _ 60 _ _
          refine r_i2l h dX6_digestPoints_60 ?_
          refine r_ladd h dX6_digestPoints_61 ?_
          refine r_lstore_n 3 h dX6_digestPoints_62 rfl (Nat.le_of_ble_eq_true rfl) ?_
          show Wx _ _ _ [_, _, _, _, _, _, _] _
          refine r_iincN h dX6_digestPoints_63 rfl ?_
          show Wx _ _ _ [_, _, _, _, _, _, _] _
          refine r_goto 38 h dX6_digestPoints_66 (by decide) ?_
          exact hs
      refine r_iload h dX6_digestPoints_5 rfl ?_
      refine r_bipush 40 h dX6_digestPoints_7 (by decide) ?_
      refine r_icmp_ge_f 75 h dX6_digestPoints_9 (by decide) (bigF (a := 40) (by omega) (by omega)) ?_
      refine r_aload_n 0 h dX6_digestPoints_12 rfl rfl ?_
      refine g0_0 h lf_X6_10 dX6_digestPoints_13 ?_
      show Wx _ _ 16 _ _
      refine g1_0 h lf_X6_133 dX6_digestPoints_16 ?_
      refine r_iload h dX6_digestPoints_19 rfl ?_
      refine alN_2 h (by omega) dX6_digestPoints_21 ?_
      refine r_if_eq 69 h dX6_digestPoints_22 (by decide) (fun c22 => ?_) (fun c22 => ?_)
      · refine r_iincN h dX6_digestPoints_69 rfl ?_
        show Wx _ _ _ [_, _, _, _, _, _, _] _
        refine r_goto 5 h dX6_digestPoints_72 (by decide) ?_
        rw [if_pos c22] at hq; exact hq
      · refine r_ldc2 h lc_X6_207 dX6_digestPoints_25 ?_
        refine r_lload_n 3 h dX6_digestPoints_28 rfl rfl ?_
        refine r_lmul h dX6_digestPoints_29 ?_
        refine r_iload h dX6_digestPoints_30 rfl ?_
        refine r_i2l h dX6_digestPoints_32 ?_
        show Wx _ _ 33 _ _
        refine r_ladd h dX6_digestPoints_33 ?_
        refine r_lstore_n 3 h dX6_digestPoints_34 rfl (Nat.le_of_ble_eq_true rfl) ?_
        show Wx _ _ _ [_, _, _, _, _, _, _] _
        refine r_iconst 0 h dX6_digestPoints_35 (by decide) ?_
        refine r_istore h dX6_digestPoints_36 (Nat.le_of_ble_eq_true rfl) ?_
        show Wx _ _ _ [_, _, _, _, _, _, _] _
        exact inner c22 5 0 (by omega)
  refine r_lload_n 1 h dX6_digestPoints_0 rfl rfl ?_
  refine r_lstore_n 3 h dX6_digestPoints_1 rfl (Nat.le_of_ble_eq_true rfl) ?_
  show Wx _ _ _ [_, _, _, _, _, _, _] _
  refine r_iconst 0 h dX6_digestPoints_2 (by decide) ?_
  refine r_istore h dX6_digestPoints_3 (Nat.le_of_ble_eq_true rfl) ?_
  show Wx _ _ _ [_, _, _, _, _, _, _] _
  exact loop 40 0 rfl
set_option maxRecDepth 100000 in
set_option maxHeartbeats 4000000 in
theorem mX6_digestFactors (l : Launch) (w : Fx) (S : St) (z : Int64) : Ct l yX6_digestFactors cX6_digestFactors 7 (some .long) 2 w [.ref (aD w 0), .long z] S (fun v S' => v = some (.long (dfA S z 5)) ∧ S' = S) := by
  refine Ct.of (by decide) (Nat.le_of_ble_eq_true rfl) (fun X h hr hl hw => ?_)
  subst hl hw
  have h : Ok X cX6_digestFactors RX6 2 := h
  show Wx X S 0 [.ref (aD (xw X) 0), .long z, .null, .null, .null, .null, .null] []
  have loop : ∀ n a : Nat, a + n = 5 → Wx X S 5 [.ref (aD (xw X) 0), .long z, .null, .long (dfA S z a), .null, .int (nI a), .null] [] := by
    intro n
    induction n with
    | zero =>
      intro a ha
      have ha : a = 5 := by omega
      subst ha
      refine r_iload h dX6_digestFactors_5 rfl ?_
      refine r_iconst 4 h dX6_digestFactors_7 (by decide) ?_
      refine r_icmp_gt_t 53 h dX6_digestFactors_8 (by decide) (gtT (a := 4) (by omega) (by omega)) ?_
      refine r_lload_n 3 h dX6_digestFactors_53 rfl rfl ?_
      exact r_lret h hr dX6_digestFactors_54 ⟨rfl, rfl⟩
    | succ n ih =>
      intro a ha
      have hq := ih (a + 1) (by omega)
      have inner : ∀ n b : Nat, b + n = 5 - a → Wx X S 14 [.ref (aD (xw X) 0), .long z, .null, .long (dfB S a (dfA S z a) b), .null, .int (nI a), .int (nI b)] [] := by
        intro n
        induction n with
        | zero =>
          intro b hb
          have hb : b = 5 - a := by omega
          subst hb
          refine r_iload h dX6_digestFactors_14 rfl ?_
          refine r_iload h dX6_digestFactors_16 rfl ?_
          refine r_iadd h dX6_digestFactors_18 ?_
          refine r_iconst 4 h dX6_digestFactors_19 (by decide) ?_
          refine r_icmp_gt_t 47 h dX6_digestFactors_20 (by decide) (by rw [nI_add]; exact gtT (a := 4) (by omega) (by omega)) ?_
          show Wx _ _ 47 _ _
          refine r_iincN h dX6_digestFactors_47 rfl ?_
          show Wx _ _ _ [_, _, _, _, _, _, _] _
          refine r_goto 5 h dX6_digestFactors_50 (by decide) ?_
          exact Wx.weak (lv' := [.ref (aD (xw X) 0), .long z, .null, .long (dfB S a (dfA S z a) (5 - a)), .null, .int (nI (a + 1)), .null]) (And.intro rfl (And.intro rfl (And.intro rfl (And.intro rfl trivial)))) (hq)
        | succ n ihb =>
          intro b hb
          have hp := ihb (b + 1) (by omega)
          refine r_iload h dX6_digestFactors_14 rfl ?_
          refine r_iload h dX6_digestFactors_16 rfl ?_
          refine r_iadd h dX6_digestFactors_18 ?_
          refine r_iconst 4 h dX6_digestFactors_19 (by decide) ?_
          refine r_icmp_gt_f 47 h dX6_digestFactors_20 (by decide) (by rw [nI_add]; exact gtF (a := 4) (by omega) (by omega)) ?_
          show Wx _ _ 23 _ _
          refine r_ldc2 h lc_X6_207 dX6_digestFactors_23 ?_
          refine r_lload_n 3 h dX6_digestFactors_26 rfl rfl ?_
          refine r_lmul h dX6_digestFactors_27 ?_
          refine r_aload_n 0 h dX6_digestFactors_28 rfl rfl ?_
          refine g0_2 h lf_X6_28 dX6_digestFactors_29 ?_
          refine r_iload h dX6_digestFactors_32 rfl ?_
          show Wx _ _ 34 _ _
          refine r_iload h dX6_digestFactors_34 rfl ?_
          refine cV2 h (mX3_get _ _ _ a b (by omega)) kX3_get lm_X6_124 (by decide) 11 (pl_11 _ _) rfl (Nat.le_of_ble_eq_true rfl) dX6_digestFactors_36 ?_
          refine r_ladd h dX6_digestFactors_39 ?_
          refine r_lstore_n 3 h dX6_digestFactors_40 rfl (Nat.le_of_ble_eq_true rfl) ?_
          show Wx _ _ _ [_, _, _, _, _, _, _] _
          refine r_iincN h dX6_digestFactors_41 rfl ?_
          show Wx _ _ _ [_, _, _, _, _, _, _] _
          refine r_goto 14 h dX6_digestFactors_44 (by decide) ?_
          exact hp
      refine r_iload h dX6_digestFactors_5 rfl ?_
      refine r_iconst 4 h dX6_digestFactors_7 (by decide) ?_
      refine r_icmp_gt_f 53 h dX6_digestFactors_8 (by decide) (gtF (a := 4) (by omega) (by omega)) ?_
      refine r_iconst 0 h dX6_digestFactors_11 (by decide) ?_
      refine r_istore h dX6_digestFactors_12 (Nat.le_of_ble_eq_true rfl) ?_
      show Wx _ _ _ [_, _, _, _, _, _, _] _
      exact inner (5 - a) 0 (by omega)
  refine r_lload_n 1 h dX6_digestFactors_0 rfl rfl ?_
  refine r_lstore_n 3 h dX6_digestFactors_1 rfl (Nat.le_of_ble_eq_true rfl) ?_
  show Wx _ _ _ [_, _, _, _, _, _, _] _
  refine r_iconst 0 h dX6_digestFactors_2 (by decide) ?_
  refine r_istore h dX6_digestFactors_3 (Nat.le_of_ble_eq_true rfl) ?_
  show Wx _ _ _ [_, _, _, _, _, _, _] _
  exact loop 5 0 rfl
set_option maxRecDepth 100000 in
set_option maxHeartbeats 4000000 in
theorem mX6_digestMoments (l : Launch) (w : Fx) (S : St) (z : Int64) (q i j : Int32) : Ct l yX6_digestMoments cX6_digestMoments 8 (some .long) 3 w [.ref (aD w 0), .long z, .int q, .int i, .int j] S (fun v S' => v = some (.long (dmV S z q i j)) ∧ S' = gatS S q i j) := by
  refine Ct.of (by decide) (Nat.le_of_ble_eq_true rfl) (fun X h hr hl hw => ?_)
  subst hl hw
  have h : Ok X cX6_digestMoments RX6 3 := h
  show Wx X S 0 [.ref (aD (xw X) 0), .long z, .null, .int q, .int i, .int j, .null, .null] []
  refine r_aload_n 0 h dX6_digestMoments_0 rfl rfl ?_
  refine g0_1 h lf_X6_21 dX6_digestMoments_1 ?_
  refine r_iload_n 3 h dX6_digestMoments_4 rfl rfl ?_
  refine r_iload h dX6_digestMoments_5 rfl ?_
  refine r_iload h dX6_digestMoments_7 rfl ?_
  show Wx _ _ 9 _ _
  refine cV3v h (mX0_gather _ _ _ q i j) kX0_gather lm_X6_165 (by decide) 8 (pl_8 _ _) rfl (Nat.le_of_ble_eq_true rfl) dX6_digestMoments_9 ?_
  generalize hG : gatS S q i j = G at hr ⊢
  refine r_ldc2 h lc_X6_207 dX6_digestMoments_12 ?_
  refine r_lload_n 1 h dX6_digestMoments_15 rfl rfl ?_
  refine r_lmul h dX6_digestMoments_16 ?_
  refine r_aload_n 0 h dX6_digestMoments_17 rfl rfl ?_
  refine g0_1 h lf_X6_21 dX6_digestMoments_18 ?_
  show Wx _ _ 21 _ _
  refine g8_3 h lf_X6_174 dX6_digestMoments_21 ?_
  refine r_iconst 0 h dX6_digestMoments_24 (by decide) ?_
  refine r_iconst 0 h dX6_digestMoments_25 (by decide) ?_
  refine cS2 h (mX6_slotN _ _ _ 0 0) kX6_slot lm_X6_178 (by decide) (Nat.le_of_ble_eq_true rfl) dX6_digestMoments_26 ?_
  refine alN_10 h (by omega) dX6_digestMoments_29 ?_
  refine r_ladd h dX6_digestMoments_30 ?_
  show Wx _ _ 31 _ _
  refine r_lstore h dX6_digestMoments_31 (Nat.le_of_ble_eq_true rfl) ?_
  show Wx _ _ _ [_, _, _, _, _, _, _, _] _
  refine r_ldc2 h lc_X6_207 dX6_digestMoments_33 ?_
  refine r_lload h dX6_digestMoments_36 rfl ?_
  refine r_lmul h dX6_digestMoments_38 ?_
  refine r_aload_n 0 h dX6_digestMoments_39 rfl rfl ?_
  refine g0_1 h lf_X6_21 dX6_digestMoments_40 ?_
  show Wx _ _ 43 _ _
  refine g8_3 h lf_X6_174 dX6_digestMoments_43 ?_
  refine r_iconst 1 h dX6_digestMoments_46 (by decide) ?_
  refine r_iconst 0 h dX6_digestMoments_47 (by decide) ?_
  refine cS2 h (mX6_slotN _ _ _ 1 0) kX6_slot lm_X6_178 (by decide) (Nat.le_of_ble_eq_true rfl) dX6_digestMoments_48 ?_
  refine alN_10 h (by omega) dX6_digestMoments_51 ?_
  refine r_ladd h dX6_digestMoments_52 ?_
  show Wx _ _ 53 _ _
  refine r_lstore h dX6_digestMoments_53 (Nat.le_of_ble_eq_true rfl) ?_
  show Wx _ _ _ [_, _, _, _, _, _, _, _] _
  refine r_ldc2 h lc_X6_207 dX6_digestMoments_55 ?_
  refine r_lload h dX6_digestMoments_58 rfl ?_
  refine r_lmul h dX6_digestMoments_60 ?_
  refine r_aload_n 0 h dX6_digestMoments_61 rfl rfl ?_
  refine g0_1 h lf_X6_21 dX6_digestMoments_62 ?_
  show Wx _ _ 65 _ _
  refine g8_3 h lf_X6_174 dX6_digestMoments_65 ?_
  refine r_iconst 0 h dX6_digestMoments_68 (by decide) ?_
  refine r_iconst 1 h dX6_digestMoments_69 (by decide) ?_
  refine cS2 h (mX6_slotN _ _ _ 0 1) kX6_slot lm_X6_178 (by decide) (Nat.le_of_ble_eq_true rfl) dX6_digestMoments_70 ?_
  refine alN_10 h (by omega) dX6_digestMoments_73 ?_
  refine r_ladd h dX6_digestMoments_74 ?_
  show Wx _ _ 75 _ _
  exact r_lret h hr dX6_digestMoments_75 ⟨by rw [dmV, hG], rfl⟩
set_option maxRecDepth 100000 in
set_option maxHeartbeats 4000000 in
theorem mX6_digestBoxes (l : Launch) (w : Fx) (S : St) (z : Int64) : Ct l yX6_digestBoxes cX6_digestBoxes 9 (some .long) 4 w [.ref (aD w 0), .long z] S (fun v S' => v = some (.long (dbL (S, z) 6).2) ∧ S' = (dbL (S, z) 6).1) := by
  refine Ct.of (by decide) (Nat.le_of_ble_eq_true rfl) (fun X h hr hl hw => ?_)
  subst hl hw
  have h : Ok X cX6_digestBoxes RX6 4 := h
  show Wx X S 0 [.ref (aD (xw X) 0), .long z, .null, .null, .null, .null, .null, .null, .null] []
  have loop : ∀ n l : Nat, l + n = 6 → Wx X (dbL (S, z) l).1 5 [.ref (aD (xw X) 0), .long z, .null, .long (dbL (S, z) l).2, .null, .int (nI l), .null, .null, .null] [] := by
    intro n
    induction n with
    | zero =>
      intro l hl
      have hl : l = 6 := by omega
      subst hl
      refine r_iload h dX6_digestBoxes_5 rfl ?_
      refine r_iconst 5 h dX6_digestBoxes_7 (by decide) ?_
      refine r_icmp_gt_t 83 h dX6_digestBoxes_8 (by decide) (gtT (a := 5) (by omega) (by omega)) ?_
      refine r_lload_n 3 h dX6_digestBoxes_83 rfl rfl ?_
      exact r_lret h hr dX6_digestBoxes_84 ⟨rfl, rfl⟩
    | succ n ih =>
      intro l hl
      have hq := ih (l + 1) (by omega)
      rw [dbL_s] at hq
      generalize dbL (S, z) l = T at hq ⊢
      have hp2 := p2_lt (l := l) (by omega)
      have mid : ∀ n j : Nat, j + n = 2 ^ l → Wx X (dbJ T l j).1 20 [.ref (aD (xw X) 0), .long z, .null, .long (dbJ T l j).2, .null, .int (nI l), .int (nI (2 ^ l)), .int (nI j), .null] [] := by
        intro n
        induction n with
        | zero =>
          intro j hj
          have hj : j = 2 ^ l := by omega
          subst hj
          refine r_iload h dX6_digestBoxes_20 rfl ?_
          refine r_iload h dX6_digestBoxes_22 rfl ?_
          refine r_icmp_ge_t 77 h dX6_digestBoxes_24 (by decide) (bigT (by omega) (by omega)) ?_
          refine r_iincN h dX6_digestBoxes_77 rfl ?_
          show Wx _ _ _ [_, _, _, _, _, _, _, _, _] _
          refine r_goto 5 h dX6_digestBoxes_80 (by decide) ?_
          exact Wx.weak (lv' := [.ref (aD (xw X) 0), .long z, .null, .long (dbJ T l (2 ^ l)).2, .null, .int (nI (l + 1)), .null, .null, .null]) (And.intro rfl (And.intro rfl (And.intro rfl (And.intro rfl trivial)))) (hq)
        | succ n ihj =>
          intro j hj
          have hm := ihj (j + 1) (by omega)
          rw [dbJ_s] at hm
          generalize dbJ T l j = U at hm ⊢
          have inn : ∀ n i : Nat, i + n = 2 ^ l → Wx X (dbI U l j i).1 30 [.ref (aD (xw X) 0), .long z, .null, .long (dbI U l j i).2, .null, .int (nI l), .int (nI (2 ^ l)), .int (nI j), .int (nI i)] [] := by
            intro n
            induction n with
            | zero =>
              intro i hi
              have hi : i = 2 ^ l := by omega
              subst hi
              refine r_iload h dX6_digestBoxes_30 rfl ?_
              refine r_iload h dX6_digestBoxes_32 rfl ?_
              refine r_icmp_ge_t 71 h dX6_digestBoxes_34 (by decide) (bigT (by omega) (by omega)) ?_
              refine r_iincN h dX6_digestBoxes_71 rfl ?_
              show Wx _ _ _ [_, _, _, _, _, _, _, _, _] _
              refine r_goto 20 h dX6_digestBoxes_74 (by decide) ?_
              exact Wx.weak (lv' := [.ref (aD (xw X) 0), .long z, .null, .long (dbI U l j (2 ^ l)).2, .null, .int (nI l), .int (nI (2 ^ l)), .int (nI (j + 1)), .null]) (And.intro rfl (And.intro rfl (And.intro rfl (And.intro rfl (And.intro rfl (And.intro rfl trivial)))))) (hm)
            | succ n ihi =>
              intro i hi
              have hs := ihi (i + 1) (by omega)
              rw [dbI_s] at hs
              refine r_iload h dX6_digestBoxes_30 rfl ?_
              refine r_iload h dX6_digestBoxes_32 rfl ?_
              refine r_icmp_ge_f 71 h dX6_digestBoxes_34 (by decide) (bigF (by omega) (by omega)) ?_
              refine r_aload_n 0 h dX6_digestBoxes_37 rfl rfl ?_
              refine g0_1 h lf_X6_21 dX6_digestBoxes_38 ?_
              show Wx _ _ 41 _ _
              refine r_iload h dX6_digestBoxes_41 rfl ?_
              refine r_iload h dX6_digestBoxes_43 rfl ?_
              refine r_iload h dX6_digestBoxes_45 rfl ?_
              refine cV3 h (mX0_isThere _ _ _ _ _ _) kX0_isThere lm_X6_157 (by decide) 8 (pl_8 _ _) rfl (Nat.le_of_ble_eq_true rfl) dX6_digestBoxes_47 ?_
              refine r_if_eq 65 h dX6_digestBoxes_50 (by decide) (fun c50 => ?_) (fun c50 => ?_)
              · refine r_iincN h dX6_digestBoxes_65 rfl ?_
                show Wx _ _ _ [_, _, _, _, _, _, _, _, _] _
                refine r_goto 30 h dX6_digestBoxes_68 (by decide) ?_
                first | (rw [if_pos c50] at hs; exact hs) | (rw [if_neg c50] at hs; dsimp only at hs; exact hs)
              · refine r_aload_n 0 h dX6_digestBoxes_53 rfl rfl ?_
                refine r_lload_n 3 h dX6_digestBoxes_54 rfl rfl ?_
                refine r_iload h dX6_digestBoxes_55 rfl ?_
                refine r_iload h dX6_digestBoxes_57 rfl ?_
                refine r_iload h dX6_digestBoxes_59 rfl ?_
                show Wx _ _ 61 _ _
                refine cV4 h (mX6_digestMoments _ _ _ _ _ _ _) kX6_digestMoments lm_X6_223 (by decide) 0 (pl_0 _ _) rfl (Nat.le_of_ble_eq_true rfl) dX6_digestBoxes_61 ?_
                refine r_lstore_n 3 h dX6_digestBoxes_64 rfl (Nat.le_of_ble_eq_true rfl) ?_
                show Wx _ _ _ [_, _, _, _, _, _, _, _, _] _
                refine r_iincN h dX6_digestBoxes_65 rfl ?_
                show Wx _ _ _ [_, _, _, _, _, _, _, _, _] _
                refine r_goto 30 h dX6_digestBoxes_68 (by decide) ?_
                first | (rw [if_pos c50] at hs; exact hs) | (rw [if_neg c50] at hs; dsimp only at hs; exact hs)
          refine r_iload h dX6_digestBoxes_20 rfl ?_
          refine r_iload h dX6_digestBoxes_22 rfl ?_
          refine r_icmp_ge_f 77 h dX6_digestBoxes_24 (by decide) (bigF (by omega) (by omega)) ?_
          refine r_iconst 0 h dX6_digestBoxes_27 (by decide) ?_
          refine r_istore h dX6_digestBoxes_28 (Nat.le_of_ble_eq_true rfl) ?_
          show Wx _ _ _ [_, _, _, _, _, _, _, _, _] _
          exact inn (2 ^ l) 0 (by omega)
      refine r_iload h dX6_digestBoxes_5 rfl ?_
      refine r_iconst 5 h dX6_digestBoxes_7 (by decide) ?_
      refine r_icmp_gt_f 83 h dX6_digestBoxes_8 (by decide) (gtF (a := 5) (by omega) (by omega)) ?_
      refine r_iconst 1 h dX6_digestBoxes_11 (by decide) ?_
      refine r_iload h dX6_digestBoxes_12 rfl ?_
      show Wx _ _ 14 _ _
      refine r_ishl h dX6_digestBoxes_14 ?_
      rw [one_shl (by omega)]
      refine r_istore h dX6_digestBoxes_15 (Nat.le_of_ble_eq_true rfl) ?_
      show Wx _ _ _ [_, _, _, _, _, _, _, _, _] _
      refine r_iconst 0 h dX6_digestBoxes_17 (by decide) ?_
      refine r_istore h dX6_digestBoxes_18 (Nat.le_of_ble_eq_true rfl) ?_
      show Wx _ _ _ [_, _, _, _, _, _, _, _, _] _
      exact mid (2 ^ l) 0 (by omega)
  refine r_lload_n 1 h dX6_digestBoxes_0 rfl rfl ?_
  refine r_lstore_n 3 h dX6_digestBoxes_1 rfl (Nat.le_of_ble_eq_true rfl) ?_
  show Wx _ _ _ [_, _, _, _, _, _, _, _, _] _
  refine r_iconst 0 h dX6_digestBoxes_2 (by decide) ?_
  refine r_istore h dX6_digestBoxes_3 (Nat.le_of_ble_eq_true rfl) ?_
  show Wx _ _ _ [_, _, _, _, _, _, _, _, _] _
  exact loop 6 0 rfl
set_option maxRecDepth 100000 in
set_option maxHeartbeats 4000000 in
theorem mX6_digest (l : Launch) (w : Fx) (S : St) : Ct l yX6_digest cX6_digest 4 (some .long) 5 w [.ref (aD w 0)] S (fun v S' => v = some (.long (dgR S)) ∧ S' = dgT S) := by
  refine Ct.of (by decide) (Nat.le_of_ble_eq_true rfl) (fun X h hr hl hw => ?_)
  subst hl hw
  have h : Ok X cX6_digest RX6 5 := h
  show Wx X S 0 [.ref (aD (xw X) 0), .null, .null, .null] []
  have loop : ∀ n i : Nat, i + n = 6 → Wx X (S) 6 [.ref (aD (xw X) 0), .long (dcV S i), .null, .int (nI i)] [] := by
    intro n
    induction n with
    | zero =>
      intro i hi
      have hi : i = 6 := by omega
      subst hi
      refine r_iload_n 3 h dX6_digest_6 rfl rfl ?_
      refine r_iconst 5 h dX6_digest_7 (by decide) ?_
      refine r_icmp_gt_t 30 h dX6_digest_8 (by decide) (gtT (a := 5) (by omega) (by omega)) ?_
      refine r_aload_n 0 h dX6_digest_30 rfl rfl ?_
      refine r_lload_n 1 h dX6_digest_31 rfl rfl ?_
      show Wx _ _ 32 _ _
      refine cV1 h (mX6_digestPoints _ _ _ _) kX6_digestPoints lm_X6_213 (by decide) 0 (pl_0 _ _) rfl (Nat.le_of_ble_eq_true rfl) dX6_digest_32 ?_
      refine r_lstore_n 1 h dX6_digest_35 rfl (Nat.le_of_ble_eq_true rfl) ?_
      show Wx _ _ _ [_, _, _, _] _
      refine r_aload_n 0 h dX6_digest_36 rfl rfl ?_
      refine r_lload_n 1 h dX6_digest_37 rfl rfl ?_
      refine cV1 h (mX6_digestFactors _ _ _ _) kX6_digestFactors lm_X6_217 (by decide) 0 (pl_0 _ _) rfl (Nat.le_of_ble_eq_true rfl) dX6_digest_38 ?_
      refine r_lstore_n 1 h dX6_digest_41 rfl (Nat.le_of_ble_eq_true rfl) ?_
      show Wx _ _ _ [_, _, _, _] _
      show Wx _ _ 42 _ _
      refine r_ldc2 h lc_X6_207 dX6_digest_42 ?_
      refine r_lload_n 1 h dX6_digest_45 rfl rfl ?_
      refine r_lmul h dX6_digest_46 ?_
      refine r_aload_n 0 h dX6_digest_47 rfl rfl ?_
      refine g0_1 h lf_X6_21 dX6_digest_48 ?_
      refine g8_2 h lf_X6_128 dX6_digest_51 ?_
      show Wx _ _ 54 _ _
      refine r_i2l h dX6_digest_54 ?_
      refine r_ladd h dX6_digest_55 ?_
      refine r_lstore_n 1 h dX6_digest_56 rfl (Nat.le_of_ble_eq_true rfl) ?_
      show Wx _ _ _ [_, _, _, _] _
      refine r_aload_n 0 h dX6_digest_57 rfl rfl ?_
      refine r_lload_n 1 h dX6_digest_58 rfl rfl ?_
      refine cV1 h (mX6_digestBoxes _ _ _ _) kX6_digestBoxes lm_X6_220 (by decide) 0 (pl_0 _ _) rfl (Nat.le_of_ble_eq_true rfl) dX6_digest_59 ?_
      show Wx _ _ 62 _ _
      exact r_lret h hr dX6_digest_62 ⟨rfl, rfl⟩
    | succ n ih =>
      intro i hi
      have hq := ih (i + 1) (by omega)
      refine r_iload_n 3 h dX6_digest_6 rfl rfl ?_
      refine r_iconst 5 h dX6_digest_7 (by decide) ?_
      refine r_icmp_gt_f 30 h dX6_digest_8 (by decide) (gtF (a := 5) (by omega) (by omega)) ?_
      refine r_ldc2 h lc_X6_207 dX6_digest_11 ?_
      refine r_lload_n 1 h dX6_digest_14 rfl rfl ?_
      show Wx _ _ 15 _ _
      refine r_lmul h dX6_digest_15 ?_
      refine r_aload_n 0 h dX6_digest_16 rfl rfl ?_
      refine r_iload_n 3 h dX6_digest_17 rfl rfl ?_
      refine cV1 h (mX6_count _ _ _ (nI i)) kX6_count lm_X6_209 (by decide) 0 (pl_0 _ _) rfl (Nat.le_of_ble_eq_true rfl) dX6_digest_18 ?_
      refine r_i2l h dX6_digest_21 ?_
      refine r_ladd h dX6_digest_22 ?_
      show Wx _ _ 23 _ _
      refine r_lstore_n 1 h dX6_digest_23 rfl (Nat.le_of_ble_eq_true rfl) ?_
      show Wx _ _ _ [_, _, _, _] _
      refine r_iincN h dX6_digest_24 rfl ?_
      show Wx _ _ _ [_, _, _, _] _
      refine r_goto 6 h dX6_digest_27 (by decide) ?_
      exact hq
  refine r_ldc2 h lc_X6_205 dX6_digest_0 ?_
  refine r_lstore_n 1 h dX6_digest_3 rfl (Nat.le_of_ble_eq_true rfl) ?_
  show Wx _ _ _ [_, _, _, _] _
  refine r_iconst 0 h dX6_digest_4 (by decide) ?_
  refine r_istore_n 3 h dX6_digest_5 rfl (Nat.le_of_ble_eq_true rfl) ?_
  show Wx _ _ _ [_, _, _, _] _
  exact loop 6 0 rfl
