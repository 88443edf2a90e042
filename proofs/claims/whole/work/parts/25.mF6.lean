set_option maxRecDepth 100000 in
set_option maxHeartbeats 4000000 in
theorem mX5_visit (l : Launch) (w : Fx) : ∀ (d : Nat) (S : St) (k i j : Nat), k + d = 6 → i < 2 ^ k → j < 2 ^ k → lenOk S → Ct l yX5_visit cX5_visit 4 none (3 + d) w [.ref (aD w 16), .int (nI k), .int (nI i), .int (nI j)] S (fun v S' => v = none ∧ S' = visS d S k i j) := by
  intro d
  induction d with
  | zero =>
    intro S k i j hk hi hj hlen
    have hk : k = 6 := by omega
    subst hk
    refine Ct.of (by decide) (Nat.le_of_ble_eq_true rfl) (fun X h hr hl hw => ?_)
    subst hl hw
    have h : Ok X cX5_visit RX5 (3 + 0) := h
    show Wx X S 0 [.ref (aD (xw X) 16), .int (nI 6), .int (nI i), .int (nI j)] []
    refine r_iload_n 1 h dX5_visit_0 rfl rfl ?_
    refine r_iconst 5 h dX5_visit_1 (by decide) ?_
    refine r_icmp_gt_t 18 h dX5_visit_2 (by decide) (by decide) ?_
    exact r_vret h hr dX5_visit_18 ⟨rfl, rfl⟩
  | succ d ih =>
    intro S k i j hk hi hj hlen
    refine Ct.of (by decide) (Nat.le_of_ble_eq_true rfl) (fun X h hr hl hw => ?_)
    subst hl hw
    have h : Ok X cX5_visit RX5 (3 + (d + 1)) := h
    have hp2 := p2_lt (l := k) (by omega)
    have hV := visS_s (d := d) (S := S) (l := k) (i := i) (j := j)
    rw [if_neg (show ¬ (5 : Int32) < nI k from gtF (a := 5) (by omega) (by omega))] at hV
    generalize visS (d + 1) S k i j = Z at hV hr
    show Wx X S 0 [.ref (aD (xw X) 16), .int (nI k), .int (nI i), .int (nI j)] []
    refine r_iload_n 1 h dX5_visit_0 rfl rfl ?_
    refine r_iconst 5 h dX5_visit_1 (by decide) ?_
    refine r_icmp_gt_f 18 h dX5_visit_2 (by decide) (gtF (a := 5) (by omega) (by omega)) ?_
    refine r_aload_n 0 h dX5_visit_5 rfl rfl ?_
    refine g16_1 h lf_X5_38 dX5_visit_6 ?_
    show Wx _ _ 9 _ _
    refine r_iload_n 1 h dX5_visit_9 rfl rfl ?_
    refine r_iload_n 2 h dX5_visit_10 rfl rfl ?_
    refine r_iload_n 3 h dX5_visit_11 rfl rfl ?_
    refine cV3 h (mX0_pointsIn _ _ _ k i j (by omega) hi hj) kX0_pointsIn lm_X5_46 (by omega) 8 (pl_8 _ _) rfl (Nat.le_of_ble_eq_true rfl) dX5_visit_12 ?_
    refine r_if_ne 19 h dX5_visit_15 (by decide) (fun c15 => ?_) (fun c15 => ?_)
    · refine r_aload_n 0 h dX5_visit_19 rfl rfl ?_
      refine r_iload_n 1 h dX5_visit_20 rfl rfl ?_
      refine r_iload_n 2 h dX5_visit_21 rfl rfl ?_
      refine r_iload_n 3 h dX5_visit_22 rfl rfl ?_
      refine cV3 h (mX5_isFar _ _ _ _ _ _) kX5_isFar lm_X5_52 (by omega) 16 (pl_16 _ _) rfl (Nat.le_of_ble_eq_true rfl) dX5_visit_23 ?_
      show Wx _ _ 26 _ _
      refine r_if_eq 39 h dX5_visit_26 (by decide) (fun c26 => ?_) (fun c26 => ?_)
      · refine r_aload_n 0 h dX5_visit_39 rfl rfl ?_
        refine g16_1 h lf_X5_38 dX5_visit_40 ?_
        refine r_iload_n 1 h dX5_visit_43 rfl rfl ?_
        refine r_iload_n 2 h dX5_visit_44 rfl rfl ?_
        refine r_iload_n 3 h dX5_visit_45 rfl rfl ?_
        show Wx _ _ 46 _ _
        refine cV3 h (mX0_isSplit _ _ _ k i j (by omega) hi hj) kX0_isSplit lm_X5_59 (by omega) 8 (pl_8 _ _) rfl (Nat.le_of_ble_eq_true rfl) dX5_visit_46 ?_
        refine r_if_eq 115 h dX5_visit_49 (by decide) (fun c49 => ?_) (fun c49 => ?_)
        · refine r_aload_n 0 h dX5_visit_115 rfl rfl ?_
          refine r_iload_n 1 h dX5_visit_116 rfl rfl ?_
          refine r_iload_n 2 h dX5_visit_117 rfl rfl ?_
          refine r_iload_n 3 h dX5_visit_118 rfl rfl ?_
          refine cV3v h (mX5_notePoints _ _ _ _ _ _ hlen) kX5_notePoints lm_X5_62 (by omega) 16 (pl_16 _ _) rfl (Nat.le_of_ble_eq_true rfl) dX5_visit_119 ?_
          show Wx _ _ 122 _ _
          exact r_vret h hr dX5_visit_122 ⟨rfl, by rw [hV]; first | (rw [if_pos c15]; done) | (rw [if_neg c15, if_neg c26]; done) | (rw [if_neg c15, if_pos c26, if_pos c49]; done) | (rw [if_neg c15, if_pos c26, if_neg c49]; done)⟩
        · have hk5 := spl_lt (show k ≤ 5 by omega) c49
          refine r_aload_n 0 h dX5_visit_52 rfl rfl ?_
          refine r_iload_n 1 h dX5_visit_53 rfl rfl ?_
          refine r_iconst 1 h dX5_visit_54 (by decide) ?_
          refine r_iadd h dX5_visit_55 ?_
          refine r_iconst 2 h dX5_visit_56 (by decide) ?_
          show Wx _ _ 57 _ _
          refine r_iload_n 2 h dX5_visit_57 rfl rfl ?_
          refine r_imul h dX5_visit_58 ?_
          refine r_iconst 2 h dX5_visit_59 (by decide) ?_
          refine r_iload_n 3 h dX5_visit_60 rfl rfl ?_
          refine r_imul h dX5_visit_61 ?_
          rw [nI_1, nI_2, nI_2]
          refine cV3v h (ih _ (k + 1) (2 * i) (2 * j) (by omega) (dbl hi) (dbl hj) (hlen)) kX5_visit lm_X5_42 (by omega) 16 (pl_16 _ _) rfl (Nat.le_of_ble_eq_true rfl) dX5_visit_62 ?_
          show Wx _ _ 65 _ _
          refine r_aload_n 0 h dX5_visit_65 rfl rfl ?_
          refine r_iload_n 1 h dX5_visit_66 rfl rfl ?_
          refine r_iconst 1 h dX5_visit_67 (by decide) ?_
          refine r_iadd h dX5_visit_68 ?_
          refine r_iconst 2 h dX5_visit_69 (by decide) ?_
          refine r_iload_n 2 h dX5_visit_70 rfl rfl ?_
          show Wx _ _ 71 _ _
          refine r_imul h dX5_visit_71 ?_
          refine r_iconst 1 h dX5_visit_72 (by decide) ?_
          refine r_iadd h dX5_visit_73 ?_
          refine r_iconst 2 h dX5_visit_74 (by decide) ?_
          refine r_iload_n 3 h dX5_visit_75 rfl rfl ?_
          refine r_imul h dX5_visit_76 ?_
          show Wx _ _ 77 _ _
          rw [nI_1, nI_2, nI_2, nI_1]
          refine cV3v h (ih _ (k + 1) (2 * i + 1) (2 * j) (by omega) (dbl1 hi) (dbl hj) (visS_ok d hlen)) kX5_visit lm_X5_42 (by omega) 16 (pl_16 _ _) rfl (Nat.le_of_ble_eq_true rfl) dX5_visit_77 ?_
          refine r_aload_n 0 h dX5_visit_80 rfl rfl ?_
          refine r_iload_n 1 h dX5_visit_81 rfl rfl ?_
          refine r_iconst 1 h dX5_visit_82 (by decide) ?_
          refine r_iadd h dX5_visit_83 ?_
          refine r_iconst 2 h dX5_visit_84 (by decide) ?_
          show Wx _ _ 85 _ _
          refine r_iload_n 2 h dX5_visit_85 rfl rfl ?_
          refine r_imul h dX5_visit_86 ?_
          refine r_iconst 2 h dX5_visit_87 (by decide) ?_
          refine r_iload_n 3 h dX5_visit_88 rfl rfl ?_
          refine r_imul h dX5_visit_89 ?_
          refine r_iconst 1 h dX5_visit_90 (by decide) ?_
          show Wx _ _ 91 _ _
          refine r_iadd h dX5_visit_91 ?_
          rw [nI_1, nI_2, nI_2, nI_1]
          refine cV3v h (ih _ (k + 1) (2 * i) (2 * j + 1) (by omega) (dbl hi) (dbl1 hj) (visS_ok d (visS_ok d hlen))) kX5_visit lm_X5_42 (by omega) 16 (pl_16 _ _) rfl (Nat.le_of_ble_eq_true rfl) dX5_visit_92 ?_
          refine r_aload_n 0 h dX5_visit_95 rfl rfl ?_
          refine r_iload_n 1 h dX5_visit_96 rfl rfl ?_
          refine r_iconst 1 h dX5_visit_97 (by decide) ?_
          refine r_iadd h dX5_visit_98 ?_
          show Wx _ _ 99 _ _
          refine r_iconst 2 h dX5_visit_99 (by decide) ?_
          refine r_iload_n 2 h dX5_visit_100 rfl rfl ?_
          refine r_imul h dX5_visit_101 ?_
          refine r_iconst 1 h dX5_visit_102 (by decide) ?_
          refine r_iadd h dX5_visit_103 ?_
          refine r_iconst 2 h dX5_visit_104 (by decide) ?_
          show Wx _ _ 105 _ _
          refine r_iload_n 3 h dX5_visit_105 rfl rfl ?_
          refine r_imul h dX5_visit_106 ?_
          refine r_iconst 1 h dX5_visit_107 (by decide) ?_
          refine r_iadd h dX5_visit_108 ?_
          rw [nI_1, nI_2, nI_2, nI_1, nI_1]
          refine cV3v h (ih _ (k + 1) (2 * i + 1) (2 * j + 1) (by omega) (dbl1 hi) (dbl1 hj) (visS_ok d (visS_ok d (visS_ok d hlen)))) kX5_visit lm_X5_42 (by omega) 16 (pl_16 _ _) rfl (Nat.le_of_ble_eq_true rfl) dX5_visit_109 ?_
          refine r_goto 122 h dX5_visit_112 (by decide) ?_
          show Wx _ _ 122 _ _
          exact r_vret h hr dX5_visit_122 ⟨rfl, by rw [hV]; first | (rw [if_pos c15]; done) | (rw [if_neg c15, if_neg c26]; done) | (rw [if_neg c15, if_pos c26, if_pos c49]; done) | (rw [if_neg c15, if_pos c26, if_neg c49]; done)⟩
      · refine r_aload_n 0 h dX5_visit_29 rfl rfl ?_
        refine r_iload_n 1 h dX5_visit_30 rfl rfl ?_
        refine r_iload_n 2 h dX5_visit_31 rfl rfl ?_
        refine r_iload_n 3 h dX5_visit_32 rfl rfl ?_
        refine cV3v h (mX5_note _ _ _ _ _ _ hlen) kX5_note lm_X5_56 (by omega) 16 (pl_16 _ _) rfl (Nat.le_of_ble_eq_true rfl) dX5_visit_33 ?_
        show Wx _ _ 36 _ _
        refine r_goto 122 h dX5_visit_36 (by decide) ?_
        exact r_vret h hr dX5_visit_122 ⟨rfl, by rw [hV]; first | (rw [if_pos c15]; done) | (rw [if_neg c15, if_neg c26]; done) | (rw [if_neg c15, if_pos c26, if_pos c49]; done) | (rw [if_neg c15, if_pos c26, if_neg c49]; done)⟩
    · exact r_vret h hr dX5_visit_18 ⟨rfl, by rw [hV]; first | (rw [if_pos c15]; done) | (rw [if_neg c15, if_neg c26]; done) | (rw [if_neg c15, if_pos c26, if_pos c49]; done) | (rw [if_neg c15, if_pos c26, if_neg c49]; done)⟩
