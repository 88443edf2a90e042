set_option maxRecDepth 100000 in
set_option maxHeartbeats 4000000 in
theorem mX7_count (l : Launch) (w : Fx) (S : St) (q : Int32) : Ct l yX7_count cX7_count 9 (some .int) 4 w [.ref (aD w 23), .int q] S (fun v S' => v = some (.int (mcnR S q)) ∧ S' = S) := by
  refine Ct.of (by decide) (Nat.le_of_ble_eq_true rfl) (fun X h hr hl hw => ?_)
  subst hl hw
  have h : Ok X cX7_count RX7 4 := h
  show Wx X S 0 [.ref (aD (xw X) 23), .int q, .null, .null, .null, .null, .null, .null, .null] []
  have loop : ∀ n l : Nat, l + n = 6 → Wx X S 10 [.ref (aD (xw X) 23), .int q, .int (ckL (S.1 20) (S.1 21) (S.1 22) (S.1 27 0) l).1, .int (ckL (S.1 20) (S.1 21) (S.1 22) (S.1 27 0) l).2.1, .int (ckL (S.1 20) (S.1 21) (S.1 22) (S.1 27 0) l).2.2, .int (nI l), .null, .null, .null] [] := by
    intro n
    induction n with
    | zero =>
      intro l hl
      have hl : l = 6 := by omega
      subst hl
      refine r_iload h dX7_count_10 rfl ?_
      refine r_bipush 6 h dX7_count_12 (by decide) ?_
      refine r_icmp_ge_t 103 h dX7_count_14 (by decide) (bigT (a := 6) (by omega) (by omega)) ?_
      refine r_iload_n 1 h dX7_count_103 rfl rfl ?_
      refine r_sw6 170 144 149 151 154 156 161 h dX7_count_104 (by decide) (by decide) (by decide) (by decide) (by decide) (by decide) (by decide)  (fun c104 => ?_) (fun c104 => ?_) (fun c104 => ?_) (fun c104 => ?_) (fun c104 => ?_) (fun c104 => ?_) (fun c104 => ?_) 
      · refine r_bipush (-2) h dX7_count_170 (by decide) ?_
        exact r_iret h hr dX7_count_172 ⟨by rw [mcn_out c104], rfl⟩
      · refine r_aload_n 0 h dX7_count_144 rfl rfl ?_
        refine cV0 h (mX7_many _ _ _) kX7_many lm_X7_80 (by decide) 23 (pl_23 _ _) rfl (Nat.le_of_ble_eq_true rfl) dX7_count_145 ?_
        exact r_iret h hr dX7_count_148 (by refine ⟨?_, rfl⟩; subst c104; rw [mcnR]; first | (rw [if_pos rfl]; done) | (rw [if_neg (by decide), if_pos rfl]; done) | (rw [if_neg (by decide), if_neg (by decide), if_pos rfl]; done) | (rw [if_neg (by decide), if_neg (by decide), if_neg (by decide), if_pos rfl]; done) | (rw [if_neg (by decide), if_neg (by decide), if_neg (by decide), if_neg (by decide), if_pos rfl]; done) | (rw [if_neg (by decide), if_neg (by decide), if_neg (by decide), if_neg (by decide), if_neg (by decide), if_pos rfl]; done))
      · refine r_iload_n 2 h dX7_count_149 rfl rfl ?_
        exact r_iret h hr dX7_count_150 (by refine ⟨?_, rfl⟩; subst c104; rw [mcnR]; first | (rw [if_pos rfl]; done) | (rw [if_neg (by decide), if_pos rfl]; done) | (rw [if_neg (by decide), if_neg (by decide), if_pos rfl]; done) | (rw [if_neg (by decide), if_neg (by decide), if_neg (by decide), if_pos rfl]; done) | (rw [if_neg (by decide), if_neg (by decide), if_neg (by decide), if_neg (by decide), if_pos rfl]; done) | (rw [if_neg (by decide), if_neg (by decide), if_neg (by decide), if_neg (by decide), if_neg (by decide), if_pos rfl]; done))
      · refine r_iload h dX7_count_151 rfl ?_
        exact r_iret h hr dX7_count_153 (by refine ⟨?_, rfl⟩; subst c104; rw [mcnR]; first | (rw [if_pos rfl]; done) | (rw [if_neg (by decide), if_pos rfl]; done) | (rw [if_neg (by decide), if_neg (by decide), if_pos rfl]; done) | (rw [if_neg (by decide), if_neg (by decide), if_neg (by decide), if_pos rfl]; done) | (rw [if_neg (by decide), if_neg (by decide), if_neg (by decide), if_neg (by decide), if_pos rfl]; done) | (rw [if_neg (by decide), if_neg (by decide), if_neg (by decide), if_neg (by decide), if_neg (by decide), if_pos rfl]; done))
      · refine r_iload_n 3 h dX7_count_154 rfl rfl ?_
        exact r_iret h hr dX7_count_155 (by refine ⟨?_, rfl⟩; subst c104; rw [mcnR]; first | (rw [if_pos rfl]; done) | (rw [if_neg (by decide), if_pos rfl]; done) | (rw [if_neg (by decide), if_neg (by decide), if_pos rfl]; done) | (rw [if_neg (by decide), if_neg (by decide), if_neg (by decide), if_pos rfl]; done) | (rw [if_neg (by decide), if_neg (by decide), if_neg (by decide), if_neg (by decide), if_pos rfl]; done) | (rw [if_neg (by decide), if_neg (by decide), if_neg (by decide), if_neg (by decide), if_neg (by decide), if_pos rfl]; done))
      · refine r_aload_n 0 h dX7_count_156 rfl rfl ?_
        refine g23_8 h lf_X7_201 dX7_count_157 ?_
        exact r_iret h hr dX7_count_160 (by refine ⟨?_, rfl⟩; subst c104; rw [mcnR]; first | (rw [if_pos rfl]; done) | (rw [if_neg (by decide), if_pos rfl]; done) | (rw [if_neg (by decide), if_neg (by decide), if_pos rfl]; done) | (rw [if_neg (by decide), if_neg (by decide), if_neg (by decide), if_pos rfl]; done) | (rw [if_neg (by decide), if_neg (by decide), if_neg (by decide), if_neg (by decide), if_pos rfl]; done) | (rw [if_neg (by decide), if_neg (by decide), if_neg (by decide), if_neg (by decide), if_neg (by decide), if_pos rfl]; done))
      · refine r_aload_n 0 h dX7_count_161 rfl rfl ?_
        refine r_iconst 0 h dX7_count_162 (by decide) ?_
        refine r_iconst 0 h dX7_count_163 (by decide) ?_
        refine r_iconst 0 h dX7_count_164 (by decide) ?_
        refine cV3 h (mX7_bulk _ _ _ 0 0 0) kX7_bulk lm_X7_136 (by decide) 23 (pl_23 _ _) rfl (Nat.le_of_ble_eq_true rfl) dX7_count_165 ?_
        show Wx _ _ 168 _ _
        refine r_l2i h dX7_count_168 ?_
        exact r_iret h hr dX7_count_169 (by refine ⟨?_, rfl⟩; subst c104; rw [mcnR]; first | (rw [if_pos rfl]; done) | (rw [if_neg (by decide), if_pos rfl]; done) | (rw [if_neg (by decide), if_neg (by decide), if_pos rfl]; done) | (rw [if_neg (by decide), if_neg (by decide), if_neg (by decide), if_pos rfl]; done) | (rw [if_neg (by decide), if_neg (by decide), if_neg (by decide), if_neg (by decide), if_pos rfl]; done) | (rw [if_neg (by decide), if_neg (by decide), if_neg (by decide), if_neg (by decide), if_neg (by decide), if_pos rfl]; done))
    | succ n ih =>
      intro l hl
      have hq := ih (l + 1) (by omega)
      rw [ckL_s] at hq
      generalize ckL (S.1 20) (S.1 21) (S.1 22) (S.1 27 0) l = C at hq ⊢
      have hp4 := p4_lt (l := l) (by omega)
      have inner : ∀ n k : Nat, k + n = 4 ^ l → Wx X S 20 [.ref (aD (xw X) 23), .int q, .int (ckK (S.1 20) (S.1 21) (S.1 22) (S.1 27 0) l C k).1, .int (ckK (S.1 20) (S.1 21) (S.1 22) (S.1 27 0) l C k).2.1, .int (ckK (S.1 20) (S.1 21) (S.1 22) (S.1 27 0) l C k).2.2, .int (nI l), .int (nI k), .null, .null] [] := by
        intro n
        induction n with
        | zero =>
          intro k hk
          have hk : k = 4 ^ l := by omega
          subst hk
          refine r_iload h dX7_count_20 rfl ?_
          refine r_iconst 1 h dX7_count_22 (by decide) ?_
          refine r_iconst 2 h dX7_count_23 (by decide) ?_
          refine r_iload h dX7_count_24 rfl ?_
          refine r_imul h dX7_count_26 ?_
          show Wx _ _ 27 _ _
          refine r_ishl h dX7_count_27 ?_
          rw [p4_N (by omega)]
          refine r_icmp_ge_t 97 h dX7_count_28 (by decide) (bigT (by omega) (by omega)) ?_
          refine r_iincN h dX7_count_97 rfl ?_
          show Wx _ _ _ [_, _, _, _, _, _, _, _, _] _
          refine r_goto 10 h dX7_count_100 (by decide) ?_
          exact Wx.weak (lv' := [.ref (aD (xw X) 23), .int q, .int (ckK (S.1 20) (S.1 21) (S.1 22) (S.1 27 0) l C (4 ^ l)).1, .int (ckK (S.1 20) (S.1 21) (S.1 22) (S.1 27 0) l C (4 ^ l)).2.1, .int (ckK (S.1 20) (S.1 21) (S.1 22) (S.1 27 0) l C (4 ^ l)).2.2, .int (nI (l + 1)), .null, .null, .null]) (And.intro rfl (And.intro rfl (And.intro rfl (And.intro rfl (And.intro rfl (And.intro rfl trivial)))))) (hq)
        | succ n ihk =>
          intro k hk
          have hs := ihk (k + 1) (by omega)
          rw [ckK_s] at hs
          refine r_iload h dX7_count_20 rfl ?_
          refine r_iconst 1 h dX7_count_22 (by decide) ?_
          refine r_iconst 2 h dX7_count_23 (by decide) ?_
          refine r_iload h dX7_count_24 rfl ?_
          refine r_imul h dX7_count_26 ?_
          show Wx _ _ 27 _ _
          refine r_ishl h dX7_count_27 ?_
          rw [p4_N (by omega)]
          refine r_icmp_ge_f 97 h dX7_count_28 (by decide) (bigF (by omega) (by omega)) ?_
          refine r_iload h dX7_count_31 rfl ?_
          refine r_iconst 1 h dX7_count_33 (by decide) ?_
          refine r_iload h dX7_count_34 rfl ?_
          refine r_ishl h dX7_count_36 ?_
          show Wx _ _ 37 _ _
          refine r_iconst 1 h dX7_count_37 (by decide) ?_
          refine r_isub h dX7_count_38 ?_
          refine r_iand h dX7_count_39 ?_
          show Wx _ _ _ _ (.int (ckI l k) :: _)
          refine r_istore h dX7_count_40 (Nat.le_of_ble_eq_true rfl) ?_
          show Wx _ _ _ [_, _, _, _, _, _, _, _, _] _
          refine r_iload h dX7_count_42 rfl ?_
          refine r_iload h dX7_count_44 rfl ?_
          show Wx _ _ 46 _ _
          refine r_ishr h dX7_count_46 ?_
          show Wx _ _ _ _ (.int (ckJ l k) :: _)
          refine r_istore h dX7_count_47 (Nat.le_of_ble_eq_true rfl) ?_
          show Wx _ _ _ [_, _, _, _, _, _, _, _, _] _
          refine r_aload_n 0 h dX7_count_49 rfl rfl ?_
          refine r_iload h dX7_count_50 rfl ?_
          refine r_iload h dX7_count_52 rfl ?_
          refine r_iload h dX7_count_54 rfl ?_
          show Wx _ _ 56 _ _
          refine cV3 h (mX7_isBox _ _ _ (nI l) (ckI l k) (ckJ l k)) kX7_isBox lm_X7_131 (by decide) 23 (pl_23 _ _) rfl (Nat.le_of_ble_eq_true rfl) dX7_count_56 ?_
          refine r_if_eq 91 h dX7_count_59 (by decide) (fun c59 => ?_) (fun c59 => ?_)
          · refine r_iincN h dX7_count_91 rfl ?_
            show Wx _ _ _ [_, _, _, _, _, _, _, _, _] _
            refine r_goto 20 h dX7_count_94 (by decide) ?_
            first
              | (rw [if_pos c59] at hs; exact Wx.weak (lv' := [.ref (aD (xw X) 23), .int q, .int (ckK (S.1 20) (S.1 21) (S.1 22) (S.1 27 0) l C k).1, .int (ckK (S.1 20) (S.1 21) (S.1 22) (S.1 27 0) l C k).2.1, .int (ckK (S.1 20) (S.1 21) (S.1 22) (S.1 27 0) l C k).2.2, .int (nI l), .int (nI (k + 1)), .null, .null]) (And.intro rfl (And.intro rfl (And.intro rfl (And.intro rfl (And.intro rfl (And.intro rfl (And.intro rfl trivial))))))) (hs))
              | (rw [if_neg c59, if_pos c80] at hs; dsimp only at hs; exact Wx.weak (lv' := [.ref (aD (xw X) 23), .int q, .int ((ckK (S.1 20) (S.1 21) (S.1 22) (S.1 27 0) l C k).1 + 1), .int (nI l), .int ((ckK (S.1 20) (S.1 21) (S.1 22) (S.1 27 0) l C k).2.2 + 0), .int (nI l), .int (nI (k + 1)), .null, .null]) (And.intro rfl (And.intro rfl (And.intro rfl (And.intro rfl (And.intro rfl (And.intro rfl (And.intro rfl trivial))))))) (hs))
              | (rw [if_neg c59, if_neg c80] at hs; dsimp only at hs; exact Wx.weak (lv' := [.ref (aD (xw X) 23), .int q, .int ((ckK (S.1 20) (S.1 21) (S.1 22) (S.1 27 0) l C k).1 + 1), .int (nI l), .int ((ckK (S.1 20) (S.1 21) (S.1 22) (S.1 27 0) l C k).2.2 + 1), .int (nI l), .int (nI (k + 1)), .null, .null]) (And.intro rfl (And.intro rfl (And.intro rfl (And.intro rfl (And.intro rfl (And.intro rfl (And.intro rfl trivial))))))) (hs))
          · refine r_iinc 1 h dX7_count_62 (by decide) rfl ?_
            show Wx _ _ _ [_, _, _, _, _, _, _, _, _] _
            refine r_iload h dX7_count_65 rfl ?_
            refine r_istore_n 3 h dX7_count_67 rfl (Nat.le_of_ble_eq_true rfl) ?_
            show Wx _ _ _ [_, _, _, _, _, _, _, _, _] _
            refine r_iload h dX7_count_68 rfl ?_
            refine r_aload_n 0 h dX7_count_70 rfl rfl ?_
            show Wx _ _ 71 _ _
            refine r_iload h dX7_count_71 rfl ?_
            refine r_iload h dX7_count_73 rfl ?_
            refine r_iload h dX7_count_75 rfl ?_
            refine cV3 h (mX7_isSplit _ _ _ (nI l) (ckI l k) (ckJ l k)) kX7_isSplit lm_X7_123 (by decide) 23 (pl_23 _ _) rfl (Nat.le_of_ble_eq_true rfl) dX7_count_77 ?_
            refine r_if_eq 87 h dX7_count_80 (by decide) (fun c80 => ?_) (fun c80 => ?_)
            · refine r_iconst 0 h dX7_count_87 (by decide) ?_
              refine r_iadd h dX7_count_88 ?_
              refine r_istore h dX7_count_89 (Nat.le_of_ble_eq_true rfl) ?_
              show Wx _ _ _ [_, _, _, _, _, _, _, _, _] _
              refine r_iincN h dX7_count_91 rfl ?_
              show Wx _ _ _ [_, _, _, _, _, _, _, _, _] _
              refine r_goto 20 h dX7_count_94 (by decide) ?_
              first
                | (rw [if_pos c59] at hs; exact Wx.weak (lv' := [.ref (aD (xw X) 23), .int q, .int (ckK (S.1 20) (S.1 21) (S.1 22) (S.1 27 0) l C k).1, .int (ckK (S.1 20) (S.1 21) (S.1 22) (S.1 27 0) l C k).2.1, .int (ckK (S.1 20) (S.1 21) (S.1 22) (S.1 27 0) l C k).2.2, .int (nI l), .int (nI (k + 1)), .null, .null]) (And.intro rfl (And.intro rfl (And.intro rfl (And.intro rfl (And.intro rfl (And.intro rfl (And.intro rfl trivial))))))) (hs))
                | (rw [if_neg c59, if_pos c80] at hs; dsimp only at hs; exact Wx.weak (lv' := [.ref (aD (xw X) 23), .int q, .int ((ckK (S.1 20) (S.1 21) (S.1 22) (S.1 27 0) l C k).1 + 1), .int (nI l), .int ((ckK (S.1 20) (S.1 21) (S.1 22) (S.1 27 0) l C k).2.2 + 0), .int (nI l), .int (nI (k + 1)), .null, .null]) (And.intro rfl (And.intro rfl (And.intro rfl (And.intro rfl (And.intro rfl (And.intro rfl (And.intro rfl trivial))))))) (hs))
                | (rw [if_neg c59, if_neg c80] at hs; dsimp only at hs; exact Wx.weak (lv' := [.ref (aD (xw X) 23), .int q, .int ((ckK (S.1 20) (S.1 21) (S.1 22) (S.1 27 0) l C k).1 + 1), .int (nI l), .int ((ckK (S.1 20) (S.1 21) (S.1 22) (S.1 27 0) l C k).2.2 + 1), .int (nI l), .int (nI (k + 1)), .null, .null]) (And.intro rfl (And.intro rfl (And.intro rfl (And.intro rfl (And.intro rfl (And.intro rfl (And.intro rfl trivial))))))) (hs))
            · refine r_iconst 1 h dX7_count_83 (by decide) ?_
              refine r_goto 88 h dX7_count_84 (by decide) ?_
              refine r_iadd h dX7_count_88 ?_
              refine r_istore h dX7_count_89 (Nat.le_of_ble_eq_true rfl) ?_
              show Wx _ _ _ [_, _, _, _, _, _, _, _, _] _
              refine r_iincN h dX7_count_91 rfl ?_
              show Wx _ _ _ [_, _, _, _, _, _, _, _, _] _
              show Wx _ _ 94 _ _
              refine r_goto 20 h dX7_count_94 (by decide) ?_
              first
                | (rw [if_pos c59] at hs; exact Wx.weak (lv' := [.ref (aD (xw X) 23), .int q, .int (ckK (S.1 20) (S.1 21) (S.1 22) (S.1 27 0) l C k).1, .int (ckK (S.1 20) (S.1 21) (S.1 22) (S.1 27 0) l C k).2.1, .int (ckK (S.1 20) (S.1 21) (S.1 22) (S.1 27 0) l C k).2.2, .int (nI l), .int (nI (k + 1)), .null, .null]) (And.intro rfl (And.intro rfl (And.intro rfl (And.intro rfl (And.intro rfl (And.intro rfl (And.intro rfl trivial))))))) (hs))
                | (rw [if_neg c59, if_pos c80] at hs; dsimp only at hs; exact Wx.weak (lv' := [.ref (aD (xw X) 23), .int q, .int ((ckK (S.1 20) (S.1 21) (S.1 22) (S.1 27 0) l C k).1 + 1), .int (nI l), .int ((ckK (S.1 20) (S.1 21) (S.1 22) (S.1 27 0) l C k).2.2 + 0), .int (nI l), .int (nI (k + 1)), .null, .null]) (And.intro rfl (And.intro rfl (And.intro rfl (And.intro rfl (And.intro rfl (And.intro rfl (And.intro rfl trivial))))))) (hs))
                | (rw [if_neg c59, if_neg c80] at hs; dsimp only at hs; exact Wx.weak (lv' := [.ref (aD (xw X) 23), .int q, .int ((ckK (S.1 20) (S.1 21) (S.1 22) (S.1 27 0) l C k).1 + 1), .int (nI l), .int ((ckK (S.1 20) (S.1 21) (S.1 22) (S.1 27 0) l C k).2.2 + 1), .int (nI l), .int (nI (k + 1)), .null, .null]) (And.intro rfl (And.intro rfl (And.intro rfl (And.intro rfl (And.intro rfl (And.intro rfl (And.intro rfl trivial))))))) (hs))
      refine r_iload h dX7_count_10 rfl ?_
      refine r_bipush 6 h dX7_count_12 (by decide) ?_
      refine r_icmp_ge_f 103 h dX7_count_14 (by decide) (bigF (a := 6) (by omega) (by omega)) ?_
      refine r_iconst 0 h dX7_count_17 (by decide) ?_
      refine r_istore h dX7_count_18 (Nat.le_of_ble_eq_true rfl) ?_
      show Wx _ _ _ [_, _, _, _, _, _, _, _, _] _
      exact inner (4 ^ l) 0 (by omega)
  refine r_iconst 0 h dX7_count_0 (by decide) ?_
  refine r_istore_n 2 h dX7_count_1 rfl (Nat.le_of_ble_eq_true rfl) ?_
  show Wx _ _ _ [_, _, _, _, _, _, _, _, _] _
  refine r_iconst 0 h dX7_count_2 (by decide) ?_
  refine r_istore_n 3 h dX7_count_3 rfl (Nat.le_of_ble_eq_true rfl) ?_
  show Wx _ _ _ [_, _, _, _, _, _, _, _, _] _
  refine r_iconst 0 h dX7_count_4 (by decide) ?_
  show Wx _ _ 5 _ _
  refine r_istore h dX7_count_5 (Nat.le_of_ble_eq_true rfl) ?_
  show Wx _ _ _ [_, _, _, _, _, _, _, _, _] _
  refine r_iconst 0 h dX7_count_7 (by decide) ?_
  refine r_istore h dX7_count_8 (Nat.le_of_ble_eq_true rfl) ?_
  show Wx _ _ _ [_, _, _, _, _, _, _, _, _] _
  exact loop 6 0 rfl
set_option maxRecDepth 100000 in
set_option maxHeartbeats 4000000 in
theorem mX7_digest (l : Launch) (w : Fx) (S : St) : Ct l yX7_digest cX7_digest 7 (some .long) 5 w [.ref (aD w 23)] S (fun v S' => v = some (.long (mdgR S)) ∧ S' = S) := by
  refine Ct.of (by decide) (Nat.le_of_ble_eq_true rfl) (fun X h hr hl hw => ?_)
  subst hl hw
  have h : Ok X cX7_digest RX7 5 := h
  show Wx X S 0 [.ref (aD (xw X) 23), .null, .null, .null, .null, .null, .null] []
  have l4 : ∀ n l : Nat, l + n = 6 → Wx X S 156 [.ref (aD (xw X) 23), .long (mdlV S (31 * mdfA S (mdpV S (mdcV S 6) 40) 5 + (S.1 27 0).toInt64) l), .null, .int (nI l), .null, .null, .null] [] := by
    intro n
    induction n with
    | zero =>
      intro l hl
      have hl : l = 6 := by omega
      subst hl
      refine r_iload_n 3 h dX7_digest_156 rfl rfl ?_
      refine r_bipush 6 h dX7_digest_157 (by decide) ?_
      refine r_icmp_ge_t 269 h dX7_digest_159 (by decide) (bigT (a := 6) (by omega) (by omega)) ?_
      refine r_lload_n 1 h dX7_digest_269 rfl rfl ?_
      exact r_lret h hr dX7_digest_270 ⟨rfl, rfl⟩
    | succ n ih =>
      intro l hl
      have hq := ih (l + 1) (by omega)
      have hp4 := p4_lt (l := l) (by omega)
      have inner : ∀ n k : Nat, k + n = 4 ^ l → Wx X S 165 [.ref (aD (xw X) 23), .long (mdkV S l (mdlV S (31 * mdfA S (mdpV S (mdcV S 6) 40) 5 + (S.1 27 0).toInt64) l) k), .null, .int (nI l), .int (nI k), .null, .null] [] := by
        intro n
        induction n with
        | zero =>
          intro k hk
          have hk : k = 4 ^ l := by omega
          subst hk
          refine r_iload h dX7_digest_165 rfl ?_
          refine r_iconst 1 h dX7_digest_167 (by decide) ?_
          refine r_iconst 2 h dX7_digest_168 (by decide) ?_
          refine r_iload_n 3 h dX7_digest_169 rfl rfl ?_
          refine r_imul h dX7_digest_170 ?_
          show Wx _ _ 171 _ _
          refine r_ishl h dX7_digest_171 ?_
          rw [p4_N (by omega)]
          refine r_icmp_ge_t 263 h dX7_digest_172 (by decide) (bigT (by omega) (by omega)) ?_
          refine r_iincN h dX7_digest_263 rfl ?_
          show Wx _ _ _ [_, _, _, _, _, _, _] _
          refine r_goto 156 h dX7_digest_266 (by decide) ?_
          exact Wx.weak (lv' := [.ref (aD (xw X) 23), .long (mdkV S l (mdlV S (31 * mdfA S (mdpV S (mdcV S 6) 40) 5 + (S.1 27 0).toInt64) l) (4 ^ l)), .null, .int (nI (l + 1)), .null, .null, .null]) (And.intro rfl (And.intro rfl (And.intro rfl trivial))) (hq)
        | succ n ihk =>
          intro k hk
          have hs := ihk (k + 1) (by omega)
          rw [mdkV_s] at hs
          refine r_iload h dX7_digest_165 rfl ?_
          refine r_iconst 1 h dX7_digest_167 (by decide) ?_
          refine r_iconst 2 h dX7_digest_168 (by decide) ?_
          refine r_iload_n 3 h dX7_digest_169 rfl rfl ?_
          refine r_imul h dX7_digest_170 ?_
          show Wx _ _ 171 _ _
          refine r_ishl h dX7_digest_171 ?_
          rw [p4_N (by omega)]
          refine r_icmp_ge_f 263 h dX7_digest_172 (by decide) (bigF (by omega) (by omega)) ?_
          refine r_iload h dX7_digest_175 rfl ?_
          refine r_iconst 1 h dX7_digest_177 (by decide) ?_
          refine r_iload_n 3 h dX7_digest_178 rfl rfl ?_
          refine r_ishl h dX7_digest_179 ?_
          show Wx _ _ 180 _ _
          refine r_iconst 1 h dX7_digest_180 (by decide) ?_
          refine r_isub h dX7_digest_181 ?_
          refine r_iand h dX7_digest_182 ?_
          show Wx _ _ _ _ (.int (ckI l k) :: _)
          refine r_istore h dX7_digest_183 (Nat.le_of_ble_eq_true rfl) ?_
          show Wx _ _ _ [_, _, _, _, _, _, _] _
          refine r_iload h dX7_digest_185 rfl ?_
          refine r_iload_n 3 h dX7_digest_187 rfl rfl ?_
          show Wx _ _ 188 _ _
          refine r_ishr h dX7_digest_188 ?_
          show Wx _ _ _ _ (.int (ckJ l k) :: _)
          refine r_istore h dX7_digest_189 (Nat.le_of_ble_eq_true rfl) ?_
          show Wx _ _ _ [_, _, _, _, _, _, _] _
          refine r_aload_n 0 h dX7_digest_191 rfl rfl ?_
          refine r_iload_n 3 h dX7_digest_192 rfl rfl ?_
          refine r_iload h dX7_digest_193 rfl ?_
          refine r_iload h dX7_digest_195 rfl ?_
          show Wx _ _ 197 _ _
          refine cV3 h (mX7_isBox _ _ _ (nI l) (ckI l k) (ckJ l k)) kX7_isBox lm_X7_131 (by decide) 23 (pl_23 _ _) rfl (Nat.le_of_ble_eq_true rfl) dX7_digest_197 ?_
          refine r_if_eq 257 h dX7_digest_200 (by decide) (fun c200 => ?_) (fun c200 => ?_)
          · refine r_iincN h dX7_digest_257 rfl ?_
            show Wx _ _ _ [_, _, _, _, _, _, _] _
            refine r_goto 165 h dX7_digest_260 (by decide) ?_
            first
              | (rw [if_pos c200] at hs; exact Wx.weak (lv' := [.ref (aD (xw X) 23), .long (mdkV S l (mdlV S (31 * mdfA S (mdpV S (mdcV S 6) 40) 5 + (S.1 27 0).toInt64) l) k), .null, .int (nI l), .int (nI (k + 1)), .null, .null]) (And.intro rfl (And.intro rfl (And.intro rfl (And.intro rfl trivial)))) (hs))
              | (rw [if_neg c200] at hs; exact Wx.weak (lv' := [.ref (aD (xw X) 23), .long (mdmV S (mdkV S l (mdlV S (31 * mdfA S (mdpV S (mdcV S 6) 40) 5 + (S.1 27 0).toInt64) l) k) (nI l) (ckI l k) (ckJ l k)), .null, .int (nI l), .int (nI (k + 1)), .null, .null]) (And.intro rfl (And.intro rfl (And.intro rfl (And.intro rfl trivial)))) (hs))
          · refine r_ldc2 h lc_X7_86 dX7_digest_203 ?_
            refine r_lload_n 1 h dX7_digest_206 rfl rfl ?_
            refine r_lmul h dX7_digest_207 ?_
            refine r_aload_n 0 h dX7_digest_208 rfl rfl ?_
            refine r_iload_n 3 h dX7_digest_209 rfl rfl ?_
            show Wx _ _ 210 _ _
            refine r_iload h dX7_digest_210 rfl ?_
            refine r_iload h dX7_digest_212 rfl ?_
            refine r_iconst 0 h dX7_digest_214 (by decide) ?_
            refine r_iconst 0 h dX7_digest_215 (by decide) ?_
            refine cV5 h (mX7_momentOf _ _ _ (nI l) (ckI l k) (ckJ l k) 0 0 (by omega) (by omega)) kX7_momentOf lm_X7_139 (by decide) 23 (pl_23 _ _) rfl (Nat.le_of_ble_eq_true rfl) dX7_digest_216 ?_
            refine r_ladd h dX7_digest_219 ?_
            show Wx _ _ 220 _ _
            refine r_lstore_n 1 h dX7_digest_220 rfl (Nat.le_of_ble_eq_true rfl) ?_
            show Wx _ _ _ [_, _, _, _, _, _, _] _
            refine r_ldc2 h lc_X7_86 dX7_digest_221 ?_
            refine r_lload_n 1 h dX7_digest_224 rfl rfl ?_
            refine r_lmul h dX7_digest_225 ?_
            refine r_aload_n 0 h dX7_digest_226 rfl rfl ?_
            refine r_iload_n 3 h dX7_digest_227 rfl rfl ?_
            show Wx _ _ 228 _ _
            refine r_iload h dX7_digest_228 rfl ?_
            refine r_iload h dX7_digest_230 rfl ?_
            refine r_iconst 1 h dX7_digest_232 (by decide) ?_
            refine r_iconst 0 h dX7_digest_233 (by decide) ?_
            refine cV5 h (mX7_momentOf _ _ _ (nI l) (ckI l k) (ckJ l k) 1 0 (by omega) (by omega)) kX7_momentOf lm_X7_139 (by decide) 23 (pl_23 _ _) rfl (Nat.le_of_ble_eq_true rfl) dX7_digest_234 ?_
            refine r_ladd h dX7_digest_237 ?_
            show Wx _ _ 238 _ _
            refine r_lstore_n 1 h dX7_digest_238 rfl (Nat.le_of_ble_eq_true rfl) ?_
            show Wx _ _ _ [_, _, _, _, _, _, _] _
            refine r_ldc2 h lc_X7_86 dX7_digest_239 ?_
            refine r_lload_n 1 h dX7_digest_242 rfl rfl ?_
            refine r_lmul h dX7_digest_243 ?_
            refine r_aload_n 0 h dX7_digest_244 rfl rfl ?_
            refine r_iload_n 3 h dX7_digest_245 rfl rfl ?_
            show Wx _ _ 246 _ _
            refine r_iload h dX7_digest_246 rfl ?_
            refine r_iload h dX7_digest_248 rfl ?_
            refine r_iconst 0 h dX7_digest_250 (by decide) ?_
            refine r_iconst 1 h dX7_digest_251 (by decide) ?_
            refine cV5 h (mX7_momentOf _ _ _ (nI l) (ckI l k) (ckJ l k) 0 1 (by omega) (by omega)) kX7_momentOf lm_X7_139 (by decide) 23 (pl_23 _ _) rfl (Nat.le_of_ble_eq_true rfl) dX7_digest_252 ?_
            refine r_ladd h dX7_digest_255 ?_
            show Wx _ _ 256 _ _
            refine r_lstore_n 1 h dX7_digest_256 rfl (Nat.le_of_ble_eq_true rfl) ?_
            show Wx _ _ _ [_, _, _, _, _, _, _] _
            refine r_iincN h dX7_digest_257 rfl ?_
            show Wx _ _ _ [_, _, _, _, _, _, _] _
            refine r_goto 165 h dX7_digest_260 (by decide) ?_
            first
              | (rw [if_pos c200] at hs; exact Wx.weak (lv' := [.ref (aD (xw X) 23), .long (mdkV S l (mdlV S (31 * mdfA S (mdpV S (mdcV S 6) 40) 5 + (S.1 27 0).toInt64) l) k), .null, .int (nI l), .int (nI (k + 1)), .null, .null]) (And.intro rfl (And.intro rfl (And.intro rfl (And.intro rfl trivial)))) (hs))
              | (rw [if_neg c200] at hs; exact Wx.weak (lv' := [.ref (aD (xw X) 23), .long (mdmV S (mdkV S l (mdlV S (31 * mdfA S (mdpV S (mdcV S 6) 40) 5 + (S.1 27 0).toInt64) l) k) (nI l) (ckI l k) (ckJ l k)), .null, .int (nI l), .int (nI (k + 1)), .null, .null]) (And.intro rfl (And.intro rfl (And.intro rfl (And.intro rfl trivial)))) (hs))
      refine r_iload_n 3 h dX7_digest_156 rfl rfl ?_
      refine r_bipush 6 h dX7_digest_157 (by decide) ?_
      refine r_icmp_ge_f 269 h dX7_digest_159 (by decide) (bigF (a := 6) (by omega) (by omega)) ?_
      refine r_iconst 0 h dX7_digest_162 (by decide) ?_
      refine r_istore h dX7_digest_163 (Nat.le_of_ble_eq_true rfl) ?_
      show Wx _ _ _ [_, _, _, _, _, _, _] _
      exact inner (4 ^ l) 0 (by omega)
  have l3 : ∀ n a : Nat, a + n = 5 → Wx X S 95 [.ref (aD (xw X) 23), .long (mdfA S (mdpV S (mdcV S 6) 40) a), .null, .int (nI a), .null, .null, .null] [] := by
    intro n
    induction n with
    | zero =>
      intro a ha
      have ha : a = 5 := by omega
      subst ha
      refine r_iload_n 3 h dX7_digest_95 rfl rfl ?_
      refine r_iconst 5 h dX7_digest_96 (by decide) ?_
      refine r_icmp_ge_t 142 h dX7_digest_97 (by decide) (bigT (a := 5) (by omega) (by omega)) ?_
      refine r_ldc2 h lc_X7_86 dX7_digest_142 ?_
      refine r_lload_n 1 h dX7_digest_145 rfl rfl ?_
      show Wx _ _ 146 _ _
      refine r_lmul h dX7_digest_146 ?_
      refine r_aload_n 0 h dX7_digest_147 rfl rfl ?_
      refine g23_7 h lf_X7_32 dX7_digest_148 ?_
      refine r_i2l h dX7_digest_151 ?_
      refine r_ladd h dX7_digest_152 ?_
      refine r_lstore_n 1 h dX7_digest_153 rfl (Nat.le_of_ble_eq_true rfl) ?_
      show Wx _ _ _ [_, _, _, _, _, _, _] _
      show Wx _ _ 154 _ _
      refine r_iconst 0 h dX7_digest_154 (by decide) ?_
      refine r_istore_n 3 h dX7_digest_155 rfl (Nat.le_of_ble_eq_true rfl) ?_
      show Wx _ _ _ [_, _, _, _, _, _, _] _
      exact l4 6 0 rfl
    | succ n ih =>
      intro a ha
      have hq := ih (a + 1) (by omega)
      have inner : ∀ n b : Nat, b + n = 5 - a → Wx X S 103 [.ref (aD (xw X) 23), .long (mdfB S a (mdfA S (mdpV S (mdcV S 6) 40) a) b), .null, .int (nI a), .int (nI b), .null, .null] [] := by
        intro n
        induction n with
        | zero =>
          intro b hb
          have hb : b = 5 - a := by omega
          subst hb
          refine r_iload_n 3 h dX7_digest_103 rfl rfl ?_
          refine r_iload h dX7_digest_104 rfl ?_
          refine r_iadd h dX7_digest_106 ?_
          refine r_iconst 5 h dX7_digest_107 (by decide) ?_
          refine r_icmp_ge_t 136 h dX7_digest_108 (by decide) (by rw [nI_add]; exact bigT (a := 5) (by omega) (by omega)) ?_
          show Wx _ _ 136 _ _
          refine r_iincN h dX7_digest_136 rfl ?_
          show Wx _ _ _ [_, _, _, _, _, _, _] _
          refine r_goto 95 h dX7_digest_139 (by decide) ?_
          exact Wx.weak (lv' := [.ref (aD (xw X) 23), .long (mdfB S a (mdfA S (mdpV S (mdcV S 6) 40) a) (5 - a)), .null, .int (nI (a + 1)), .null, .null, .null]) (And.intro rfl (And.intro rfl (And.intro rfl trivial))) (hq)
        | succ n ihb =>
          intro b hb
          have hs := ihb (b + 1) (by omega)
          refine r_iload_n 3 h dX7_digest_103 rfl rfl ?_
          refine r_iload h dX7_digest_104 rfl ?_
          refine r_iadd h dX7_digest_106 ?_
          refine r_iconst 5 h dX7_digest_107 (by decide) ?_
          refine r_icmp_ge_f 136 h dX7_digest_108 (by decide) (by rw [nI_add]; exact bigF (a := 5) (by omega) (by omega)) ?_
          show Wx _ _ 111 _ _
          refine r_ldc2 h lc_X7_86 dX7_digest_111 ?_
          refine r_lload_n 1 h dX7_digest_114 rfl rfl ?_
          refine r_lmul h dX7_digest_115 ?_
          refine r_aload_n 0 h dX7_digest_116 rfl rfl ?_
          refine g23_6 h lf_X7_29 dX7_digest_117 ?_
          refine r_iconst 5 h dX7_digest_120 (by decide) ?_
          show Wx _ _ 121 _ _
          refine r_iload_n 3 h dX7_digest_121 rfl rfl ?_
          refine r_imul h dX7_digest_122 ?_
          refine r_iload h dX7_digest_123 rfl ?_
          refine r_iadd h dX7_digest_125 ?_
          rw [ix5]
          refine alN_30 h (by omega) dX7_digest_126 ?_
          refine r_i2l h dX7_digest_127 ?_
          show Wx _ _ 128 _ _
          refine r_ladd h dX7_digest_128 ?_
          refine r_lstore_n 1 h dX7_digest_129 rfl (Nat.le_of_ble_eq_true rfl) ?_
          show Wx _ _ _ [_, _, _, _, _, _, _] _
          refine r_iincN h dX7_digest_130 rfl ?_
          show Wx _ _ _ [_, _, _, _, _, _, _] _
          refine r_goto 103 h dX7_digest_133 (by decide) ?_
          exact hs
      refine r_iload_n 3 h dX7_digest_95 rfl rfl ?_
      refine r_iconst 5 h dX7_digest_96 (by decide) ?_
      refine r_icmp_ge_f 142 h dX7_digest_97 (by decide) (bigF (a := 5) (by omega) (by omega)) ?_
      refine r_iconst 0 h dX7_digest_100 (by decide) ?_
      refine r_istore h dX7_digest_101 (Nat.le_of_ble_eq_true rfl) ?_
      show Wx _ _ _ [_, _, _, _, _, _, _] _
      exact inner (5 - a) 0 (by omega)
  have l2 : ∀ n p : Nat, p + n = 40 → Wx X S 33 [.ref (aD (xw X) 23), .long (mdpV S (mdcV S 6) p), .null, .int (nI p), .null, .null, .null] [] := by
    intro n
    induction n with
    | zero =>
      intro p hp
      have hp : p = 40 := by omega
      subst hp
      refine r_iload_n 3 h dX7_digest_33 rfl rfl ?_
      refine r_bipush 40 h dX7_digest_34 (by decide) ?_
      refine r_icmp_ge_t 93 h dX7_digest_36 (by decide) (bigT (a := 40) (by omega) (by omega)) ?_
      refine r_iconst 0 h dX7_digest_93 (by decide) ?_
      refine r_istore_n 3 h dX7_digest_94 rfl (Nat.le_of_ble_eq_true rfl) ?_
      show Wx _ _ _ [_, _, _, _, _, _, _] _
      exact l3 5 0 rfl
    | succ n ih =>
      intro p hp
      have hq := ih (p + 1) (by omega)
      rw [mdpV_s] at hq
      have inner : ¬ S.1 20 p = 0 → ∀ n q : Nat, q + n = 5 → Wx X S 60 [.ref (aD (xw X) 23), .long (mdqV S p (31 * mdpV S (mdcV S 6) p + (nI p).toInt64) q), .null, .int (nI p), .int (nI q), .null, .null] [] := by
        intro hz n
        rw [if_neg hz] at hq
        induction n with
        | zero =>
          intro q hq5
          have hq5 : q = 5 := by omega
          subst hq5
          refine r_iload h dX7_digest_60 rfl ?_
          refine r_iconst 5 h dX7_digest_62 (by decide) ?_
          refine r_icmp_ge_t 87 h dX7_digest_63 (by decide) (bigT (a := 5) (by omega) (by omega)) ?_
          refine r_iincN h dX7_digest_87 rfl ?_
          show Wx _ _ _ [_, _, _, _, _, _, _] _
          refine r_goto 33 h dX7_digest_90 (by decide) ?_
          exact Wx.weak (lv' := [.ref (aD (xw X) 23), .long (mdqV S p (31 * mdpV S (mdcV S 6) p + (nI p).toInt64) 5), .null, .int (nI (p + 1)), .null, .null, .null]) (And.intro rfl (And.intro rfl (And.intro rfl trivial))) (hq)
        | succ n ihq =>
          intro q hq5
          have hs := ihq (q + 1) (by omega)
          refine r_iload h dX7_digest_60 rfl ?_
          refine r_iconst 5 h dX7_digest_62 (by decide) ?_
          refine r_icmp_ge_f 87 h dX7_digest_63 (by decide) (bigF (a := 5) (by omega) (by omega)) ?_
          refine r_ldc2 h lc_X7_86 dX7_digest_66 ?_
          refine r_lload_n 1 h dX7_digest_69 rfl rfl ?_
          show Wx _ _ 70 _ _
          refine r_lmul h dX7_digest_70 ?_
          refine r_aload_n 0 h dX7_digest_71 rfl rfl ?_
          refine r_iload_n 3 h dX7_digest_72 rfl rfl ?_
          refine r_iload h dX7_digest_73 rfl ?_
          refine cV2 h (mX7_at _ _ _ (nI p) (nI q)) kX7_at lm_X7_209 (by decide) 23 (pl_23 _ _) rfl (Nat.le_of_ble_eq_true rfl) dX7_digest_75 ?_
          refine r_i2l h dX7_digest_78 ?_
          show Wx _ _ 79 _ _
          refine r_ladd h dX7_digest_79 ?_
          refine r_lstore_n 1 h dX7_digest_80 rfl (Nat.le_of_ble_eq_true rfl) ?_
          show Wx _ _ _ [_, _, _, _, _, _, _] _
          refine r_iincN h dX7_digest_81 rfl ?_
          show Wx _ _ _ [_, _, _, _, _, _, _] _
          refine r_goto 60 h dX7_digest_84 (by decide) ?_
          exact hs
      refine r_iload_n 3 h dX7_digest_33 rfl rfl ?_
      refine r_bipush 40 h dX7_digest_34 (by decide) ?_
      refine r_icmp_ge_f 93 h dX7_digest_36 (by decide) (bigF (a := 40) (by omega) (by omega)) ?_
      refine r_aload_n 0 h dX7_digest_39 rfl rfl ?_
      refine g23_0 h lf_X7_7 dX7_digest_40 ?_
      show Wx _ _ 43 _ _
      refine r_iload_n 3 h dX7_digest_43 rfl rfl ?_
      refine alN_24 h (by omega) dX7_digest_44 ?_
      refine r_if_eq 87 h dX7_digest_45 (by decide) (fun c45 => ?_) (fun c45 => ?_)
      · refine r_iincN h dX7_digest_87 rfl ?_
        show Wx _ _ _ [_, _, _, _, _, _, _] _
        refine r_goto 33 h dX7_digest_90 (by decide) ?_
        rw [if_pos c45] at hq; exact hq
      · refine r_ldc2 h lc_X7_86 dX7_digest_48 ?_
        refine r_lload_n 1 h dX7_digest_51 rfl rfl ?_
        refine r_lmul h dX7_digest_52 ?_
        refine r_iload_n 3 h dX7_digest_53 rfl rfl ?_
        refine r_i2l h dX7_digest_54 ?_
        show Wx _ _ 55 _ _
        refine r_ladd h dX7_digest_55 ?_
        refine r_lstore_n 1 h dX7_digest_56 rfl (Nat.le_of_ble_eq_true rfl) ?_
        show Wx _ _ _ [_, _, _, _, _, _, _] _
        refine r_iconst 0 h dX7_digest_57 (by decide) ?_
        refine r_istore h dX7_digest_58 (Nat.le_of_ble_eq_true rfl) ?_
        show Wx _ _ _ [_, _, _, _, _, _, _] _
        exact inner c45 5 0 (by omega)
  have l1 : ∀ n i : Nat, i + n = 6 → Wx X (S) 6 [.ref (aD (xw X) 23), .long (mdcV S i), .null, .int (nI i), .null, .null, .null] [] := by
    intro n
    induction n with
    | zero =>
      intro i hi
      have hi : i = 6 := by omega
      subst hi
      refine r_iload_n 3 h dX7_digest_6 rfl rfl ?_
      refine r_bipush 6 h dX7_digest_7 (by decide) ?_
      refine r_icmp_ge_t 31 h dX7_digest_9 (by decide) (bigT (a := 6) (by omega) (by omega)) ?_
      refine r_iconst 0 h dX7_digest_31 (by decide) ?_
      refine r_istore_n 3 h dX7_digest_32 rfl (Nat.le_of_ble_eq_true rfl) ?_
      show Wx _ _ _ [_, _, _, _, _, _, _] _
      exact l2 40 0 rfl
    | succ n ih =>
      intro i hi
      have hq := ih (i + 1) (by omega)
      refine r_iload_n 3 h dX7_digest_6 rfl rfl ?_
      refine r_bipush 6 h dX7_digest_7 (by decide) ?_
      refine r_icmp_ge_f 31 h dX7_digest_9 (by decide) (bigF (a := 6) (by omega) (by omega)) ?_
      refine r_ldc2 h lc_X7_86 dX7_digest_12 ?_
      refine r_lload_n 1 h dX7_digest_15 rfl rfl ?_
      show Wx _ _ 16 _ _
      refine r_lmul h dX7_digest_16 ?_
      refine r_aload_n 0 h dX7_digest_17 rfl rfl ?_
      refine r_iload_n 3 h dX7_digest_18 rfl rfl ?_
      refine cV1 h (mX7_count _ _ _ (nI i)) kX7_count lm_X7_206 (by decide) 23 (pl_23 _ _) rfl (Nat.le_of_ble_eq_true rfl) dX7_digest_19 ?_
      refine r_i2l h dX7_digest_22 ?_
      refine r_ladd h dX7_digest_23 ?_
      show Wx _ _ 24 _ _
      refine r_lstore_n 1 h dX7_digest_24 rfl (Nat.le_of_ble_eq_true rfl) ?_
      show Wx _ _ _ [_, _, _, _, _, _, _] _
      refine r_iincN h dX7_digest_25 rfl ?_
      show Wx _ _ _ [_, _, _, _, _, _, _] _
      refine r_goto 6 h dX7_digest_28 (by decide) ?_
      exact hq
  refine r_ldc2 h lc_X7_204 dX7_digest_0 ?_
  refine r_lstore_n 1 h dX7_digest_3 rfl (Nat.le_of_ble_eq_true rfl) ?_
  show Wx _ _ _ [_, _, _, _, _, _, _] _
  refine r_iconst 0 h dX7_digest_4 (by decide) ?_
  refine r_istore_n 3 h dX7_digest_5 rfl (Nat.le_of_ble_eq_true rfl) ?_
  show Wx _ _ _ [_, _, _, _, _, _, _] _
  exact l1 6 0 rfl
