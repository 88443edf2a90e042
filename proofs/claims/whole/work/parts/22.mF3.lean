theorem pk_subN {a b : Nat} (h : b ≤ a) : nI a - nI b = nI (a - b) := pk_sub h
theorem atV_s {T : St} {a b u v : Nat} {c : Int64} : atV T a b c u (v + 1) = adP (atV T a b c u v) (a - u) (b - v) (tpart (atV T a b c u v) a b c u v) := rfl
theorem atU_s {T : St} {a b o u : Nat} {c : Int64} : atU T a b c o (u + 1) = atV (atU T a b c o u) a b c u (min (b + 1) (o + 1 - u)) := rfl
theorem etB_s {T : St} {o a b : Nat} : etB T o a (b + 1) = if shl4 ((etB T o a b).2 1 (a * 5 + b)) a b = 0 then etB T o a b else atU (etB T o a b) a b (shl4 ((etB T o a b).2 1 (a * 5 + b)) a b) o (a + 1) := rfl
theorem etA_s {T : St} {o a : Nat} : etA T o (a + 1) = etB (etA T o a) o a (5 - a) := rfl
theorem aeV_s {T : St} {a b u v0 k : Nat} {c : Int64} {r : Int32} : aeV T a b c r u v0 (k + 1) = adP (aeV T a b c r u v0 k) (a - u) (b - (v0 + k)) (c * waysL a u b (v0 + k) * pw 1 r.toInt64 (u + (v0 + k))) := rfl
theorem aeU_s {T : St} {a b o u : Nat} {c : Int64} {r : Int32} : aeU T a b c r o (u + 1) = aeV (aeU T a b c r o u) a b c r u (o + 1 - u) (b + 1 - (o + 1 - u)) := rfl
theorem eeB_s {T : St} {k : Int64} {r : Int32} {o a b : Nat} : eeB T k r o a (b + 1) = if shl4 (absL ((eeB T k r o a b).2 1 (a * 5 + b))) a b = 0 then eeB T k r o a b else aeU (eeB T k r o a b) a b (shl4 (absL ((eeB T k r o a b).2 1 (a * 5 + b))) a b * k) r o (a + 1) := rfl
theorem eeA_s {T : St} {k : Int64} {r : Int32} {o a : Nat} : eeA T k r o (a + 1) = eeB (eeA T k r o a) k r o a (5 - a) := rfl
theorem max_N {o u : Nat} (ho : o ≤ 4) (hu : u ≤ 5) : maxI 0 (nI o + 1 - nI u) = nI (o + 1 - u) := by
  have key : ∀ o : Fin 5, ∀ u : Fin 6, maxI 0 (nI o.val + 1 - nI u.val) = nI (o.val + 1 - u.val) := by decide +kernel
  exact key ⟨o, by omega⟩ ⟨u, by omega⟩
set_option maxRecDepth 100000 in
set_option maxHeartbeats 4000000 in
theorem mX4_waysToChoose (l : Launch) (w : Fx) (S : St) (a u b q : Nat) (h1 : a * 5 + u < 25) (h2 : b * 5 + q < 25) : Ct l yX4_waysToChoose cX4_waysToChoose 4 (some .long) 1 w [.int (nI a), .int (nI u), .int (nI b), .int (nI q)] S (fun v S' => v = some (.long (waysL a u b q)) ∧ S' = S) := by
  refine Ct.of (by decide) (Nat.le_of_ble_eq_true rfl) (fun X h hr hl hw => ?_)
  subst hl hw
  have h : Ok X cX4_waysToChoose RX4 1 := h
  show Wx X S 0 [.int (nI a), .int (nI u), .int (nI b), .int (nI q)] []
  refine gs_2 h lf_X4_61 dX4_waysToChoose_0 ?_
  refine r_iload_n 0 h dX4_waysToChoose_3 rfl rfl ?_
  refine r_iload_n 1 h dX4_waysToChoose_4 rfl rfl ?_
  refine cN2 h (mX6_slotN _ _ _ a u) kX6_slot ln_X4_46 (by decide) (Nat.le_of_ble_eq_true rfl) dX4_waysToChoose_5 ?_
  refine atN_2 h (by omega) dX4_waysToChoose_8 ?_
  show Wx _ _ 9 _ _
  refine gs_2 h lf_X4_61 dX4_waysToChoose_9 ?_
  refine r_iload_n 2 h dX4_waysToChoose_12 rfl rfl ?_
  refine r_iload_n 3 h dX4_waysToChoose_13 rfl rfl ?_
  refine cN2 h (mX6_slotN _ _ _ b q) kX6_slot ln_X4_46 (by decide) (Nat.le_of_ble_eq_true rfl) dX4_waysToChoose_14 ?_
  refine atN_2 h (by omega) dX4_waysToChoose_17 ?_
  refine r_imul h dX4_waysToChoose_18 ?_
  show Wx _ _ 19 _ _
  refine r_i2l h dX4_waysToChoose_19 ?_
  exact r_lret h hr dX4_waysToChoose_20 ⟨rfl, rfl⟩
set_option maxRecDepth 100000 in
set_option maxHeartbeats 4000000 in
theorem mX4_power (l : Launch) (w : Fx) (S : St) (x : Int64) (k : Nat) (hk : k < 2 ^ 31) : Ct l yX4_power cX4_power 6 (some .long) 0 w [.long x, .int (nI k)] S (fun v S' => v = some (.long (pw 1 x k)) ∧ S' = S) := by
  refine Ct.of (by decide) (Nat.le_of_ble_eq_true rfl) (fun X h hr hl hw => ?_)
  subst hl hw
  have h : Ok X cX4_power RX4 0 := h
  show Wx X S 0 [.long x, .null, .int (nI k), .null, .null, .null] []
  have loop : ∀ n i : Nat, i + n = k → Wx X (S) 5 [.long x, .null, .int (nI k), .long (pw 1 x i), .null, .int (nI i)] [] := by
    intro n
    induction n with
    | zero =>
      intro i hi
      have hi : i = k := by omega
      subst hi
      refine r_iload h dX4_power_5 rfl ?_
      refine r_iload_n 2 h dX4_power_7 rfl rfl ?_
      refine r_icmp_ge_t 21 h dX4_power_8 (by decide) (bigT (by omega) (by omega)) ?_
      refine r_lload_n 3 h dX4_power_21 rfl rfl ?_
      exact r_lret h hr dX4_power_22 ⟨rfl, rfl⟩
    | succ n ih =>
      intro i hi
      have hq := ih (i + 1) (by omega)
      refine r_iload h dX4_power_5 rfl ?_
      refine r_iload_n 2 h dX4_power_7 rfl rfl ?_
      refine r_icmp_ge_f 21 h dX4_power_8 (by decide) (bigF (by omega) (by omega)) ?_
      refine r_lload_n 3 h dX4_power_11 rfl rfl ?_
      refine r_lload_n 0 h dX4_power_12 rfl rfl ?_
      show Wx _ _ 13 _ _
      refine r_lmul h dX4_power_13 ?_
      refine r_lstore_n 3 h dX4_power_14 rfl (Nat.le_of_ble_eq_true rfl) ?_
      show Wx _ _ _ [_, _, _, _, _, _] _
      refine r_iincN h dX4_power_15 rfl ?_
      show Wx _ _ _ [_, _, _, _, _, _] _
      refine r_goto 5 h dX4_power_18 (by decide) ?_
      exact hq
  refine r_lconst 1 h dX4_power_0 (by decide) ?_
  refine r_lstore_n 3 h dX4_power_1 rfl (Nat.le_of_ble_eq_true rfl) ?_
  show Wx _ _ _ [_, _, _, _, _, _] _
  refine r_iconst 0 h dX4_power_2 (by decide) ?_
  refine r_istore h dX4_power_3 (Nat.le_of_ble_eq_true rfl) ?_
  show Wx _ _ _ [_, _, _, _, _, _] _
  exact loop k 0 (by omega)
set_option maxRecDepth 100000 in
set_option maxHeartbeats 4000000 in
theorem mX4_addTermParts (l : Launch) (w : Fx) (S : St) (a b : Nat) (c : Int64) (o : Nat) (hab : a + b ≤ 4) (ho : o ≤ 4) : Ct l yX4_addTermParts cX4_addTermParts 11 none 2 w [.ref (aD w 13), .int (nI a), .int (nI b), .long c, .ref (aD w 10), .int (nI o)] S (fun v S' => v = none ∧ S' = atU S a b c o (a + 1)) := by
  refine Ct.of (by decide) (Nat.le_of_ble_eq_true rfl) (fun X h hr hl hw => ?_)
  subst hl hw
  have h : Ok X cX4_addTermParts RX4 2 := h
  show Wx X S 0 [.ref (aD (xw X) 13), .int (nI a), .int (nI b), .long c, .null, .ref (aD (xw X) 10), .int (nI o), .null, .null, .null, .null] []
  have loop : ∀ n u : Nat, u + n = a + 1 → Wx X (atU S a b c o u) 3 [.ref (aD (xw X) 13), .int (nI a), .int (nI b), .long c, .null, .ref (aD (xw X) 10), .int (nI o), .int (nI u), .null, .null, .null] [] := by
    intro n
    induction n with
    | zero =>
      intro u hu
      have hu : u = a + 1 := by omega
      subst hu
      refine r_iload h dX4_addTermParts_3 rfl ?_
      refine r_iload_n 1 h dX4_addTermParts_5 rfl rfl ?_
      refine r_icmp_gt_t 97 h dX4_addTermParts_6 (by decide) (gtT (by omega) (by omega)) ?_
      exact r_vret h hr dX4_addTermParts_97 ⟨rfl, rfl⟩
    | succ n ih =>
      intro u hu
      have hq := ih (u + 1) (by omega)
      rw [atU_s] at hq
      generalize hT : atU S a b c o u = T at hq ⊢
      generalize hN : min (b + 1) (o + 1 - u) = N at hq
      have inner : ∀ n v : Nat, v + n = N → Wx X (atV T a b c u v) 12 [.ref (aD (xw X) 13), .int (nI a), .int (nI b), .long c, .null, .ref (aD (xw X) 10), .int (nI o), .int (nI u), .int (nI v), .null, .null] [] := by
        intro n
        induction n with
        | zero =>
          intro v hv
          have hv : v = N := by omega
          subst hv
          by_cases hb : b < v
          · refine r_iload h dX4_addTermParts_12 rfl ?_
            refine r_iload_n 2 h dX4_addTermParts_14 rfl rfl ?_
            refine r_icmp_gt_t 91 h dX4_addTermParts_15 (by decide) (gtT (by omega) (by omega)) ?_
            refine r_iincN h dX4_addTermParts_91 rfl ?_
            show Wx _ _ _ [_, _, _, _, _, _, _, _, _, _, _] _
            refine r_goto 3 h dX4_addTermParts_94 (by decide) ?_
            exact Wx.weak (lv' := [.ref (aD (xw X) 13), .int (nI a), .int (nI b), .long c, .null, .ref (aD (xw X) 10), .int (nI o), .int (nI (u + 1)), .null, .null, .null]) (And.intro rfl (And.intro rfl (And.intro rfl (And.intro rfl (And.intro rfl (And.intro rfl (And.intro rfl trivial))))))) (hq)
          · refine r_iload h dX4_addTermParts_12 rfl ?_
            refine r_iload_n 2 h dX4_addTermParts_14 rfl rfl ?_
            refine r_icmp_gt_f 91 h dX4_addTermParts_15 (by decide) (gtF (by omega) (by omega)) ?_
            refine r_iload h dX4_addTermParts_18 rfl ?_
            refine r_iload h dX4_addTermParts_20 rfl ?_
            show Wx _ _ 22 _ _
            refine r_iadd h dX4_addTermParts_22 ?_
            refine r_iload h dX4_addTermParts_23 rfl ?_
            refine r_icmp_gt_t 91 h dX4_addTermParts_25 (by decide) (by rw [nI_add]; exact gtT (by omega) (by omega)) ?_
            refine r_iincN h dX4_addTermParts_91 rfl ?_
            show Wx _ _ _ [_, _, _, _, _, _, _, _, _, _, _] _
            refine r_goto 3 h dX4_addTermParts_94 (by decide) ?_
            exact Wx.weak (lv' := [.ref (aD (xw X) 13), .int (nI a), .int (nI b), .long c, .null, .ref (aD (xw X) 10), .int (nI o), .int (nI (u + 1)), .null, .null, .null]) (And.intro rfl (And.intro rfl (And.intro rfl (And.intro rfl (And.intro rfl (And.intro rfl (And.intro rfl trivial))))))) (hq)
        | succ n ihv =>
          intro v hv
          have hp := ihv (v + 1) (by omega)
          rw [atV_s, tpart] at hp
          refine r_iload h dX4_addTermParts_12 rfl ?_
          refine r_iload_n 2 h dX4_addTermParts_14 rfl rfl ?_
          refine r_icmp_gt_f 91 h dX4_addTermParts_15 (by decide) (gtF (by omega) (by omega)) ?_
          refine r_iload h dX4_addTermParts_18 rfl ?_
          refine r_iload h dX4_addTermParts_20 rfl ?_
          show Wx _ _ 22 _ _
          refine r_iadd h dX4_addTermParts_22 ?_
          refine r_iload h dX4_addTermParts_23 rfl ?_
          refine r_icmp_gt_f 91 h dX4_addTermParts_25 (by decide) (by rw [nI_add]; exact gtF (by omega) (by omega)) ?_
          refine r_lload_n 3 h dX4_addTermParts_28 rfl rfl ?_
          refine r_iload_n 1 h dX4_addTermParts_29 rfl rfl ?_
          refine r_iload h dX4_addTermParts_30 rfl ?_
          show Wx _ _ 32 _ _
          refine r_iload_n 2 h dX4_addTermParts_32 rfl rfl ?_
          refine r_iload h dX4_addTermParts_33 rfl ?_
          refine cS4 h (mX4_waysToChoose _ _ _ a u b v (by omega) (by omega)) kX4_waysToChoose lm_X4_42 (by decide) (Nat.le_of_ble_eq_true rfl) dX4_addTermParts_35 ?_
          refine r_lmul h dX4_addTermParts_38 ?_
          refine r_aload h dX4_addTermParts_39 rfl ?_
          refine r_iload h dX4_addTermParts_41 rfl ?_
          show Wx _ _ 43 _ _
          refine r_iload h dX4_addTermParts_43 rfl ?_
          refine cN2 h (mX6_slotN _ _ _ u v) kX6_slot ln_X4_46 (by decide) (Nat.le_of_ble_eq_true rfl) dX4_addTermParts_45 ?_
          refine alN_10 h (by omega) dX4_addTermParts_48 ?_
          refine r_lmul h dX4_addTermParts_49 ?_
          refine r_lstore h dX4_addTermParts_50 (Nat.le_of_ble_eq_true rfl) ?_
          show Wx _ _ _ [_, _, _, _, _, _, _, _, _, _, _] _
          refine r_aload_n 0 h dX4_addTermParts_52 rfl rfl ?_
          show Wx _ _ 53 _ _
          refine g13_1 h lf_X4_12 dX4_addTermParts_53 ?_
          refine r_iload_n 1 h dX4_addTermParts_56 rfl rfl ?_
          refine r_iload h dX4_addTermParts_57 rfl ?_
          refine r_isub h dX4_addTermParts_59 ?_
          rw [pk_subN (show u ≤ a by omega)]
          refine r_iload_n 2 h dX4_addTermParts_60 rfl rfl ?_
          refine r_iload h dX4_addTermParts_61 rfl ?_
          show Wx _ _ 63 _ _
          refine r_isub h dX4_addTermParts_63 ?_
          rw [pk_subN (show v ≤ b by omega)]
          refine r_iload h dX4_addTermParts_64 rfl ?_
          refine r_iload h dX4_addTermParts_66 rfl ?_
          refine r_iadd h dX4_addTermParts_68 ?_
          refine r_iconst 1 h dX4_addTermParts_69 (by decide) ?_
          refine r_iand h dX4_addTermParts_70 ?_
          show Wx _ _ 71 _ _
          refine r_if_ne 79 h dX4_addTermParts_71 (by decide) (fun c71 => ?_) (fun c71 => ?_)
          · refine r_lload h dX4_addTermParts_79 rfl ?_
            refine r_lneg h dX4_addTermParts_81 ?_
            refine cV3v h (mX3_add _ _ _ (a - u) (b - v) _ (by omega)) kX3_add lm_X4_50 (by decide) 14 (pl_14 _ _) rfl (Nat.le_of_ble_eq_true rfl) dX4_addTermParts_82 ?_
            refine r_iincN h dX4_addTermParts_85 rfl ?_
            show Wx _ _ _ [_, _, _, _, _, _, _, _, _, _, _] _
            refine r_goto 12 h dX4_addTermParts_88 (by decide) ?_
            first
              | (rw [if_neg c71] at hp; exact Wx.weak (lv' := [.ref (aD (xw X) 13), .int (nI a), .int (nI b), .long c, .null, .ref (aD (xw X) 10), .int (nI o), .int (nI u), .int (nI (v + 1)), .null, .null]) (And.intro rfl (And.intro rfl (And.intro rfl (And.intro rfl (And.intro rfl (And.intro rfl (And.intro rfl (And.intro rfl trivial)))))))) (hp))
              | (rw [if_pos c71] at hp; exact Wx.weak (lv' := [.ref (aD (xw X) 13), .int (nI a), .int (nI b), .long c, .null, .ref (aD (xw X) 10), .int (nI o), .int (nI u), .int (nI (v + 1)), .null, .null]) (And.intro rfl (And.intro rfl (And.intro rfl (And.intro rfl (And.intro rfl (And.intro rfl (And.intro rfl (And.intro rfl trivial)))))))) (hp))
          · refine r_lload h dX4_addTermParts_74 rfl ?_
            refine r_goto 82 h dX4_addTermParts_76 (by decide) ?_
            refine cV3v h (mX3_add _ _ _ (a - u) (b - v) _ (by omega)) kX3_add lm_X4_50 (by decide) 14 (pl_14 _ _) rfl (Nat.le_of_ble_eq_true rfl) dX4_addTermParts_82 ?_
            refine r_iincN h dX4_addTermParts_85 rfl ?_
            show Wx _ _ _ [_, _, _, _, _, _, _, _, _, _, _] _
            refine r_goto 12 h dX4_addTermParts_88 (by decide) ?_
            first
              | (rw [if_neg c71] at hp; exact Wx.weak (lv' := [.ref (aD (xw X) 13), .int (nI a), .int (nI b), .long c, .null, .ref (aD (xw X) 10), .int (nI o), .int (nI u), .int (nI (v + 1)), .null, .null]) (And.intro rfl (And.intro rfl (And.intro rfl (And.intro rfl (And.intro rfl (And.intro rfl (And.intro rfl (And.intro rfl trivial)))))))) (hp))
              | (rw [if_pos c71] at hp; exact Wx.weak (lv' := [.ref (aD (xw X) 13), .int (nI a), .int (nI b), .long c, .null, .ref (aD (xw X) 10), .int (nI o), .int (nI u), .int (nI (v + 1)), .null, .null]) (And.intro rfl (And.intro rfl (And.intro rfl (And.intro rfl (And.intro rfl (And.intro rfl (And.intro rfl (And.intro rfl trivial)))))))) (hp))
      refine r_iload h dX4_addTermParts_3 rfl ?_
      refine r_iload_n 1 h dX4_addTermParts_5 rfl rfl ?_
      refine r_icmp_gt_f 97 h dX4_addTermParts_6 (by decide) (gtF (by omega) (by omega)) ?_
      refine r_iconst 0 h dX4_addTermParts_9 (by decide) ?_
      refine r_istore h dX4_addTermParts_10 (Nat.le_of_ble_eq_true rfl) ?_
      show Wx _ _ _ [_, _, _, _, _, _, _, _, _, _, _] _
      exact inner N 0 (by omega)
  refine r_iconst 0 h dX4_addTermParts_0 (by decide) ?_
  refine r_istore h dX4_addTermParts_1 (Nat.le_of_ble_eq_true rfl) ?_
  show Wx _ _ _ [_, _, _, _, _, _, _, _, _, _, _] _
  exact loop (a + 1) 0 (by omega)
set_option maxRecDepth 100000 in
set_option maxHeartbeats 4000000 in
theorem mX4_expandTerm (l : Launch) (w : Fx) (S : St) (o : Nat) (ho : o ≤ 4) : Ct l yX4_expandTerm cX4_expandTerm 7 none 3 w [.ref (aD w 13), .ref (aD w 10), .int (nI o)] S (fun v S' => v = none ∧ S' = etS S o) := by
  refine Ct.of (by decide) (Nat.le_of_ble_eq_true rfl) (fun X h hr hl hw => ?_)
  subst hl hw
  have h : Ok X cX4_expandTerm RX4 3 := h
  show Wx X S 0 [.ref (aD (xw X) 13), .ref (aD (xw X) 10), .int (nI o), .null, .null, .null, .null] []
  have loop : ∀ n a : Nat, a + n = 5 → Wx X (etA (clrS S 2 25) o a) 9 [.ref (aD (xw X) 13), .ref (aD (xw X) 10), .int (nI o), .int (nI a), .null, .null, .null] [] := by
    intro n
    induction n with
    | zero =>
      intro a ha
      have ha : a = 5 := by omega
      subst ha
      refine r_iload_n 3 h dX4_expandTerm_9 rfl rfl ?_
      refine r_iconst 4 h dX4_expandTerm_10 (by decide) ?_
      refine r_icmp_gt_t 74 h dX4_expandTerm_11 (by decide) (gtT (a := 4) (by omega) (by omega)) ?_
      exact r_vret h hr dX4_expandTerm_74 ⟨rfl, rfl⟩
    | succ n ih =>
      intro a ha
      have hq := ih (a + 1) (by omega)
      rw [etA_s] at hq
      generalize hT : etA (clrS S 2 25) o a = T at hq ⊢
      have inner : ∀ n b : Nat, b + n = 5 - a → Wx X (etB T o a b) 17 [.ref (aD (xw X) 13), .ref (aD (xw X) 10), .int (nI o), .int (nI a), .int (nI b), .null, .null] [] := by
        intro n
        induction n with
        | zero =>
          intro b hb
          have hb : b = 5 - a := by omega
          subst hb
          refine r_iload_n 3 h dX4_expandTerm_17 rfl rfl ?_
          refine r_iload h dX4_expandTerm_18 rfl ?_
          refine r_iadd h dX4_expandTerm_20 ?_
          refine r_iconst 4 h dX4_expandTerm_21 (by decide) ?_
          refine r_icmp_gt_t 68 h dX4_expandTerm_22 (by decide) (by rw [nI_add]; exact gtT (a := 4) (by omega) (by omega)) ?_
          show Wx _ _ 68 _ _
          refine r_iincN h dX4_expandTerm_68 rfl ?_
          show Wx _ _ _ [_, _, _, _, _, _, _] _
          refine r_goto 9 h dX4_expandTerm_71 (by decide) ?_
          exact Wx.weak (lv' := [.ref (aD (xw X) 13), .ref (aD (xw X) 10), .int (nI o), .int (nI (a + 1)), .null, .null, .null]) (And.intro rfl (And.intro rfl (And.intro rfl (And.intro rfl trivial)))) (hq)
        | succ n ihb =>
          intro b hb
          have hp := ihb (b + 1) (by omega)
          rw [etB_s] at hp
          refine r_iload_n 3 h dX4_expandTerm_17 rfl rfl ?_
          refine r_iload h dX4_expandTerm_18 rfl ?_
          refine r_iadd h dX4_expandTerm_20 ?_
          refine r_iconst 4 h dX4_expandTerm_21 (by decide) ?_
          refine r_icmp_gt_f 68 h dX4_expandTerm_22 (by decide) (by rw [nI_add]; exact gtF (a := 4) (by omega) (by omega)) ?_
          show Wx _ _ 25 _ _
          refine r_aload_n 0 h dX4_expandTerm_25 rfl rfl ?_
          refine g13_0 h lf_X4_18 dX4_expandTerm_26 ?_
          refine r_iload_n 3 h dX4_expandTerm_29 rfl rfl ?_
          refine r_iload h dX4_expandTerm_30 rfl ?_
          refine cV2 h (mX3_get _ _ _ a b (by omega)) kX3_get lm_X4_24 (by decide) 11 (pl_11 _ _) rfl (Nat.le_of_ble_eq_true rfl) dX4_expandTerm_32 ?_
          refine r_iconst 4 h dX4_expandTerm_35 (by decide) ?_
          show Wx _ _ 36 _ _
          refine r_iload_n 3 h dX4_expandTerm_36 rfl rfl ?_
          refine r_isub h dX4_expandTerm_37 ?_
          refine r_iload h dX4_expandTerm_38 rfl ?_
          refine r_isub h dX4_expandTerm_40 ?_
          refine r_lshl h dX4_expandTerm_41 ?_
          show Wx _ _ _ _ (.long (shl4 _ a b) :: _)
          refine r_lstore h dX4_expandTerm_42 (Nat.le_of_ble_eq_true rfl) ?_
          show Wx _ _ _ [_, _, _, _, _, _, _] _
          show Wx _ _ 44 _ _
          refine r_lload h dX4_expandTerm_44 rfl ?_
          refine r_lconst 0 h dX4_expandTerm_46 (by decide) ?_
          refine r_lc_eq 62 h dX4_expandTerm_47 dX4_expandTerm_48 (by decide) (fun c47 => ?_) (fun c47 => ?_)
          · refine r_iincN h dX4_expandTerm_62 rfl ?_
            show Wx _ _ _ [_, _, _, _, _, _, _] _
            refine r_goto 17 h dX4_expandTerm_65 (by decide) ?_
            first
              | (rw [if_pos c47] at hp; exact Wx.weak (lv' := [.ref (aD (xw X) 13), .ref (aD (xw X) 10), .int (nI o), .int (nI a), .int (nI (b + 1)), .null, .null]) (And.intro rfl (And.intro rfl (And.intro rfl (And.intro rfl (And.intro rfl trivial))))) (hp))
              | (rw [if_neg c47] at hp; exact Wx.weak (lv' := [.ref (aD (xw X) 13), .ref (aD (xw X) 10), .int (nI o), .int (nI a), .int (nI (b + 1)), .null, .null]) (And.intro rfl (And.intro rfl (And.intro rfl (And.intro rfl (And.intro rfl trivial))))) (hp))
          · refine r_aload_n 0 h dX4_expandTerm_51 rfl rfl ?_
            refine r_iload_n 3 h dX4_expandTerm_52 rfl rfl ?_
            refine r_iload h dX4_expandTerm_53 rfl ?_
            refine r_lload h dX4_expandTerm_55 rfl ?_
            refine r_aload_n 1 h dX4_expandTerm_57 rfl rfl ?_
            show Wx _ _ 58 _ _
            refine r_iload_n 2 h dX4_expandTerm_58 rfl rfl ?_
            refine cV5v h (mX4_addTermParts _ _ _ a b _ o (by omega) ho) kX4_addTermParts lm_X4_28 (by decide) 13 (pl_13 _ _) rfl (Nat.le_of_ble_eq_true rfl) dX4_expandTerm_59 ?_
            refine r_iincN h dX4_expandTerm_62 rfl ?_
            show Wx _ _ _ [_, _, _, _, _, _, _] _
            refine r_goto 17 h dX4_expandTerm_65 (by decide) ?_
            first
              | (rw [if_pos c47] at hp; exact Wx.weak (lv' := [.ref (aD (xw X) 13), .ref (aD (xw X) 10), .int (nI o), .int (nI a), .int (nI (b + 1)), .null, .null]) (And.intro rfl (And.intro rfl (And.intro rfl (And.intro rfl (And.intro rfl trivial))))) (hp))
              | (rw [if_neg c47] at hp; exact Wx.weak (lv' := [.ref (aD (xw X) 13), .ref (aD (xw X) 10), .int (nI o), .int (nI a), .int (nI (b + 1)), .null, .null]) (And.intro rfl (And.intro rfl (And.intro rfl (And.intro rfl (And.intro rfl trivial))))) (hp))
      refine r_iload_n 3 h dX4_expandTerm_9 rfl rfl ?_
      refine r_iconst 4 h dX4_expandTerm_10 (by decide) ?_
      refine r_icmp_gt_f 74 h dX4_expandTerm_11 (by decide) (gtF (a := 4) (by omega) (by omega)) ?_
      refine r_iconst 0 h dX4_expandTerm_14 (by decide) ?_
      refine r_istore h dX4_expandTerm_15 (Nat.le_of_ble_eq_true rfl) ?_
      show Wx _ _ _ [_, _, _, _, _, _, _] _
      exact inner (5 - a) 0 (by omega)
  refine r_aload_n 0 h dX4_expandTerm_0 rfl rfl ?_
  refine g13_1 h lf_X4_12 dX4_expandTerm_1 ?_
  refine cV0v h (mX3_clear _ _ _) kX3_clear lm_X4_21 (by decide) 14 (pl_14 _ _) rfl (Nat.le_of_ble_eq_true rfl) dX4_expandTerm_4 ?_
  refine r_iconst 0 h dX4_expandTerm_7 (by decide) ?_
  refine r_istore_n 3 h dX4_expandTerm_8 rfl (Nat.le_of_ble_eq_true rfl) ?_
  show Wx _ _ _ [_, _, _, _, _, _, _] _
  exact loop 5 0 (by omega)
set_option maxRecDepth 100000 in
set_option maxHeartbeats 4000000 in
theorem mX4_addEndParts (l : Launch) (w : Fx) (S : St) (a b : Nat) (c : Int64) (r : Int32) (o : Nat) (hab : a + b ≤ 4) (ho : o ≤ 4) : Ct l yX4_addEndParts cX4_addEndParts 9 none 2 w [.ref (aD w 13), .int (nI a), .int (nI b), .long c, .int r, .int (nI o)] S (fun v S' => v = none ∧ S' = aeU S a b c r o (a + 1)) := by
  refine Ct.of (by decide) (Nat.le_of_ble_eq_true rfl) (fun X h hr hl hw => ?_)
  subst hl hw
  have h : Ok X cX4_addEndParts RX4 2 := h
  show Wx X S 0 [.ref (aD (xw X) 13), .int (nI a), .int (nI b), .long c, .null, .int r, .int (nI o), .null, .null] []
  have loop : ∀ n u : Nat, u + n = a + 1 → Wx X (aeU S a b c r o u) 3 [.ref (aD (xw X) 13), .int (nI a), .int (nI b), .long c, .null, .int r, .int (nI o), .int (nI u), .null] [] := by
    intro n
    induction n with
    | zero =>
      intro u hu
      have hu : u = a + 1 := by omega
      subst hu
      refine r_iload h dX4_addEndParts_3 rfl ?_
      refine r_iload_n 1 h dX4_addEndParts_5 rfl rfl ?_
      refine r_icmp_gt_t 78 h dX4_addEndParts_6 (by decide) (gtT (by omega) (by omega)) ?_
      exact r_vret h hr dX4_addEndParts_78 ⟨rfl, rfl⟩
    | succ n ih =>
      intro u hu
      have hq := ih (u + 1) (by omega)
      rw [aeU_s] at hq
      generalize hT : aeU S a b c r o u = T at hq ⊢
      generalize hv0 : o + 1 - u = v0 at hq
      have inner : ∀ n k : Nat, k + n = b + 1 - v0 → Wx X (aeV T a b c r u v0 k) 22 [.ref (aD (xw X) 13), .int (nI a), .int (nI b), .long c, .null, .int r, .int (nI o), .int (nI u), .int (nI (v0 + k))] [] := by
        intro n
        induction n with
        | zero =>
          intro k hk
          have hk : k = b + 1 - v0 := by omega
          subst hk
          refine r_iload h dX4_addEndParts_22 rfl ?_
          refine r_iload_n 2 h dX4_addEndParts_24 rfl rfl ?_
          refine r_icmp_gt_t 72 h dX4_addEndParts_25 (by decide) (gtT (by omega) (by omega)) ?_
          refine r_iincN h dX4_addEndParts_72 rfl ?_
          show Wx _ _ _ [_, _, _, _, _, _, _, _, _] _
          refine r_goto 3 h dX4_addEndParts_75 (by decide) ?_
          exact Wx.weak (lv' := [.ref (aD (xw X) 13), .int (nI a), .int (nI b), .long c, .null, .int r, .int (nI o), .int (nI (u + 1)), .null]) (And.intro rfl (And.intro rfl (And.intro rfl (And.intro rfl (And.intro rfl (And.intro rfl (And.intro rfl trivial))))))) (hq)
        | succ n ihk =>
          intro k hk
          have hp := ihk (k + 1) (by omega)
          rw [aeV_s] at hp
          refine r_iload h dX4_addEndParts_22 rfl ?_
          refine r_iload_n 2 h dX4_addEndParts_24 rfl rfl ?_
          refine r_icmp_gt_f 72 h dX4_addEndParts_25 (by decide) (gtF (by omega) (by omega)) ?_
          refine r_aload_n 0 h dX4_addEndParts_28 rfl rfl ?_
          refine g13_1 h lf_X4_12 dX4_addEndParts_29 ?_
          show Wx _ _ 32 _ _
          refine r_iload_n 1 h dX4_addEndParts_32 rfl rfl ?_
          refine r_iload h dX4_addEndParts_33 rfl ?_
          refine r_isub h dX4_addEndParts_35 ?_
          rw [pk_subN (show u ≤ a by omega)]
          refine r_iload_n 2 h dX4_addEndParts_36 rfl rfl ?_
          refine r_iload h dX4_addEndParts_37 rfl ?_
          refine r_isub h dX4_addEndParts_39 ?_
          show Wx _ _ 40 _ _
          rw [pk_subN (show v0 + k ≤ b by omega)]
          refine r_lload_n 3 h dX4_addEndParts_40 rfl rfl ?_
          refine r_iload_n 1 h dX4_addEndParts_41 rfl rfl ?_
          refine r_iload h dX4_addEndParts_42 rfl ?_
          refine r_iload_n 2 h dX4_addEndParts_44 rfl rfl ?_
          refine r_iload h dX4_addEndParts_45 rfl ?_
          refine cS4 h (mX4_waysToChoose _ _ _ a u b (v0 + k) (by omega) (by omega)) kX4_waysToChoose lm_X4_42 (by decide) (Nat.le_of_ble_eq_true rfl) dX4_addEndParts_47 ?_
          show Wx _ _ 50 _ _
          refine r_lmul h dX4_addEndParts_50 ?_
          refine r_iload h dX4_addEndParts_51 rfl ?_
          refine r_i2l h dX4_addEndParts_53 ?_
          refine r_iload h dX4_addEndParts_54 rfl ?_
          refine r_iload h dX4_addEndParts_56 rfl ?_
          refine r_iadd h dX4_addEndParts_58 ?_
          show Wx _ _ 59 _ _
          rw [nI_add]
          refine cS2 h (mX4_power _ _ _ r.toInt64 (u + (v0 + k)) (by omega)) kX4_power lm_X4_57 (by decide) (Nat.le_of_ble_eq_true rfl) dX4_addEndParts_59 ?_
          refine r_lmul h dX4_addEndParts_62 ?_
          refine cV3v h (mX3_add _ _ _ (a - u) (b - (v0 + k)) _ (by omega)) kX3_add lm_X4_50 (by decide) 14 (pl_14 _ _) rfl (Nat.le_of_ble_eq_true rfl) dX4_addEndParts_63 ?_
          refine r_iincN h dX4_addEndParts_66 rfl ?_
          show Wx _ _ _ [_, _, _, _, _, _, _, _, _] _
          refine r_goto 22 h dX4_addEndParts_69 (by decide) ?_
          exact hp
      refine r_iload h dX4_addEndParts_3 rfl ?_
      refine r_iload_n 1 h dX4_addEndParts_5 rfl rfl ?_
      refine r_icmp_gt_f 78 h dX4_addEndParts_6 (by decide) (gtF (by omega) (by omega)) ?_
      refine r_iconst 0 h dX4_addEndParts_9 (by decide) ?_
      refine r_iload h dX4_addEndParts_10 rfl ?_
      show Wx _ _ 12 _ _
      refine r_iconst 1 h dX4_addEndParts_12 (by decide) ?_
      refine r_iadd h dX4_addEndParts_13 ?_
      refine r_iload h dX4_addEndParts_14 rfl ?_
      refine r_isub h dX4_addEndParts_16 ?_
      refine r_maxI h lm_X4_54 (by decide) (Nat.le_of_ble_eq_true rfl) dX4_addEndParts_17 ?_
      rw [max_N ho (by omega), hv0]
      refine r_istore h dX4_addEndParts_20 (Nat.le_of_ble_eq_true rfl) ?_
      show Wx _ _ _ [_, _, _, _, _, _, _, _, _] _
      exact inner (b + 1 - v0) 0 (by omega)
  refine r_iconst 0 h dX4_addEndParts_0 (by decide) ?_
  refine r_istore h dX4_addEndParts_1 (Nat.le_of_ble_eq_true rfl) ?_
  show Wx _ _ _ [_, _, _, _, _, _, _, _, _] _
  exact loop (a + 1) 0 (by omega)
set_option maxRecDepth 100000 in
set_option maxHeartbeats 4000000 in
theorem mX4_expandEnd (l : Launch) (w : Fx) (S : St) (k : Int64) (r : Int32) (o : Nat) (ho : o ≤ 4) : Ct l yX4_expandEnd cX4_expandEnd 9 none 3 w [.ref (aD w 13), .long k, .int r, .int (nI o)] S (fun v S' => v = none ∧ S' = eeS S k r o) := by
  refine Ct.of (by decide) (Nat.le_of_ble_eq_true rfl) (fun X h hr hl hw => ?_)
  subst hl hw
  have h : Ok X cX4_expandEnd RX4 3 := h
  show Wx X S 0 [.ref (aD (xw X) 13), .long k, .null, .int r, .int (nI o), .null, .null, .null, .null] []
  have loop : ∀ n a : Nat, a + n = 5 → Wx X (eeA (clrS S 2 25) k r o a) 10 [.ref (aD (xw X) 13), .long k, .null, .int r, .int (nI o), .int (nI a), .null, .null, .null] [] := by
    intro n
    induction n with
    | zero =>
      intro a ha
      have ha : a = 5 := by omega
      subst ha
      refine r_iload h dX4_expandEnd_10 rfl ?_
      refine r_iconst 4 h dX4_expandEnd_12 (by decide) ?_
      refine r_icmp_gt_t 86 h dX4_expandEnd_13 (by decide) (gtT (a := 4) (by omega) (by omega)) ?_
      exact r_vret h hr dX4_expandEnd_86 ⟨rfl, rfl⟩
    | succ n ih =>
      intro a ha
      have hq := ih (a + 1) (by omega)
      rw [eeA_s] at hq
      generalize hT : eeA (clrS S 2 25) k r o a = T at hq ⊢
      have inner : ∀ n b : Nat, b + n = 5 - a → Wx X (eeB T k r o a b) 19 [.ref (aD (xw X) 13), .long k, .null, .int r, .int (nI o), .int (nI a), .int (nI b), .null, .null] [] := by
        intro n
        induction n with
        | zero =>
          intro b hb
          have hb : b = 5 - a := by omega
          subst hb
          refine r_iload h dX4_expandEnd_19 rfl ?_
          refine r_iload h dX4_expandEnd_21 rfl ?_
          refine r_iadd h dX4_expandEnd_23 ?_
          refine r_iconst 4 h dX4_expandEnd_24 (by decide) ?_
          refine r_icmp_gt_t 80 h dX4_expandEnd_25 (by decide) (by rw [nI_add]; exact gtT (a := 4) (by omega) (by omega)) ?_
          show Wx _ _ 80 _ _
          refine r_iincN h dX4_expandEnd_80 rfl ?_
          show Wx _ _ _ [_, _, _, _, _, _, _, _, _] _
          refine r_goto 10 h dX4_expandEnd_83 (by decide) ?_
          exact Wx.weak (lv' := [.ref (aD (xw X) 13), .long k, .null, .int r, .int (nI o), .int (nI (a + 1)), .null, .null, .null]) (And.intro rfl (And.intro rfl (And.intro rfl (And.intro rfl (And.intro rfl trivial))))) (hq)
        | succ n ihb =>
          intro b hb
          have hp := ihb (b + 1) (by omega)
          rw [eeB_s] at hp
          refine r_iload h dX4_expandEnd_19 rfl ?_
          refine r_iload h dX4_expandEnd_21 rfl ?_
          refine r_iadd h dX4_expandEnd_23 ?_
          refine r_iconst 4 h dX4_expandEnd_24 (by decide) ?_
          refine r_icmp_gt_f 80 h dX4_expandEnd_25 (by decide) (by rw [nI_add]; exact gtF (a := 4) (by omega) (by omega)) ?_
          show Wx _ _ 28 _ _
          refine r_aload_n 0 h dX4_expandEnd_28 rfl rfl ?_
          refine g13_0 h lf_X4_18 dX4_expandEnd_29 ?_
          refine r_iload h dX4_expandEnd_32 rfl ?_
          refine r_iload h dX4_expandEnd_34 rfl ?_
          refine cV2 h (mX3_get _ _ _ a b (by omega)) kX3_get lm_X4_24 (by decide) 11 (pl_11 _ _) rfl (Nat.le_of_ble_eq_true rfl) dX4_expandEnd_36 ?_
          refine r_absL h lm_X4_32 (by decide) (Nat.le_of_ble_eq_true rfl) dX4_expandEnd_39 ?_
          show Wx _ _ 42 _ _
          refine r_iconst 4 h dX4_expandEnd_42 (by decide) ?_
          refine r_iload h dX4_expandEnd_43 rfl ?_
          refine r_isub h dX4_expandEnd_45 ?_
          refine r_iload h dX4_expandEnd_46 rfl ?_
          refine r_isub h dX4_expandEnd_48 ?_
          refine r_lshl h dX4_expandEnd_49 ?_
          show Wx _ _ 50 _ _
          show Wx _ _ _ _ (.long (shl4 _ a b) :: _)
          refine r_lstore h dX4_expandEnd_50 (Nat.le_of_ble_eq_true rfl) ?_
          show Wx _ _ _ [_, _, _, _, _, _, _, _, _] _
          refine r_lload h dX4_expandEnd_52 rfl ?_
          refine r_lconst 0 h dX4_expandEnd_54 (by decide) ?_
          refine r_lc_eq 74 h dX4_expandEnd_55 dX4_expandEnd_56 (by decide) (fun c55 => ?_) (fun c55 => ?_)
          · refine r_iincN h dX4_expandEnd_74 rfl ?_
            show Wx _ _ _ [_, _, _, _, _, _, _, _, _] _
            refine r_goto 19 h dX4_expandEnd_77 (by decide) ?_
            first
              | (rw [if_pos c55] at hp; exact Wx.weak (lv' := [.ref (aD (xw X) 13), .long k, .null, .int r, .int (nI o), .int (nI a), .int (nI (b + 1)), .null, .null]) (And.intro rfl (And.intro rfl (And.intro rfl (And.intro rfl (And.intro rfl (And.intro rfl trivial)))))) (hp))
              | (rw [if_neg c55] at hp; exact Wx.weak (lv' := [.ref (aD (xw X) 13), .long k, .null, .int r, .int (nI o), .int (nI a), .int (nI (b + 1)), .null, .null]) (And.intro rfl (And.intro rfl (And.intro rfl (And.intro rfl (And.intro rfl (And.intro rfl trivial)))))) (hp))
          · refine r_aload_n 0 h dX4_expandEnd_59 rfl rfl ?_
            refine r_iload h dX4_expandEnd_60 rfl ?_
            refine r_iload h dX4_expandEnd_62 rfl ?_
            refine r_lload h dX4_expandEnd_64 rfl ?_
            refine r_lload_n 1 h dX4_expandEnd_66 rfl rfl ?_
            show Wx _ _ 67 _ _
            refine r_lmul h dX4_expandEnd_67 ?_
            refine r_iload_n 3 h dX4_expandEnd_68 rfl rfl ?_
            refine r_iload h dX4_expandEnd_69 rfl ?_
            refine cV5v h (mX4_addEndParts _ _ _ a b _ r o (by omega) ho) kX4_addEndParts lm_X4_38 (by decide) 13 (pl_13 _ _) rfl (Nat.le_of_ble_eq_true rfl) dX4_expandEnd_71 ?_
            refine r_iincN h dX4_expandEnd_74 rfl ?_
            show Wx _ _ _ [_, _, _, _, _, _, _, _, _] _
            refine r_goto 19 h dX4_expandEnd_77 (by decide) ?_
            first
              | (rw [if_pos c55] at hp; exact Wx.weak (lv' := [.ref (aD (xw X) 13), .long k, .null, .int r, .int (nI o), .int (nI a), .int (nI (b + 1)), .null, .null]) (And.intro rfl (And.intro rfl (And.intro rfl (And.intro rfl (And.intro rfl (And.intro rfl trivial)))))) (hp))
              | (rw [if_neg c55] at hp; exact Wx.weak (lv' := [.ref (aD (xw X) 13), .long k, .null, .int r, .int (nI o), .int (nI a), .int (nI (b + 1)), .null, .null]) (And.intro rfl (And.intro rfl (And.intro rfl (And.intro rfl (And.intro rfl (And.intro rfl trivial)))))) (hp))
      refine r_iload h dX4_expandEnd_10 rfl ?_
      refine r_iconst 4 h dX4_expandEnd_12 (by decide) ?_
      refine r_icmp_gt_f 86 h dX4_expandEnd_13 (by decide) (gtF (a := 4) (by omega) (by omega)) ?_
      refine r_iconst 0 h dX4_expandEnd_16 (by decide) ?_
      refine r_istore h dX4_expandEnd_17 (Nat.le_of_ble_eq_true rfl) ?_
      show Wx _ _ _ [_, _, _, _, _, _, _, _, _] _
      exact inner (5 - a) 0 (by omega)
  refine r_aload_n 0 h dX4_expandEnd_0 rfl rfl ?_
  refine g13_1 h lf_X4_12 dX4_expandEnd_1 ?_
  refine cV0v h (mX3_clear _ _ _) kX3_clear lm_X4_21 (by decide) 14 (pl_14 _ _) rfl (Nat.le_of_ble_eq_true rfl) dX4_expandEnd_4 ?_
  refine r_iconst 0 h dX4_expandEnd_7 (by decide) ?_
  refine r_istore h dX4_expandEnd_8 (Nat.le_of_ble_eq_true rfl) ?_
  show Wx _ _ _ [_, _, _, _, _, _, _, _, _] _
  exact loop 5 0 (by omega)
