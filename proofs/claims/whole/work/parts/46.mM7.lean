/-- what a question to the reference leaves as it was -/
def mFr (S T : St) : Prop := (∀ a, a < 29 → T.1 a = S.1 a) ∧ (∀ a, a < 3 → T.2 a = S.2 a)
theorem mFr_rf (S : St) : mFr S S := ⟨fun _ _ => rfl, fun _ _ => rfl⟩
theorem mFr_tr {A B C : St} (h1 : mFr A B) (h2 : mFr B C) : mFr A C := ⟨fun a ha => (h2.1 a ha).trans (h1.1 a ha), fun a ha => (h2.2 a ha).trans (h1.2 a ha)⟩
theorem goe_J {S : St} {a b c : Int32} : (goeS S a b c).2 = S.2 := rfl
theorem evB_J {S : St} {l i j x y : Int32} {o k : Nat} (h3 : k ≠ 3) (h4 : k ≠ 4) : (evB S l i j x y o).2 k = S.2 k := by
  unfold evB
  rw [goe_J, ev2, sJ_ne h4, ev1, sJ_ne h3]
theorem evP_J {S : St} {p : Nat} {x y : Int32} {k : Nat} (h3 : k ≠ 3) : (evP S p x y).2 k = S.2 k := by
  unfold evP
  rw [goe_J, sJ_ne h3]
theorem ppS_J {S : St} {l i j x y : Int32} {k : Nat} (h3 : k ≠ 3) : ∀ p, (ppS S l i j x y p).2 k = S.2 k
  | 0 => rfl
  | p + 1 => by
    rw [ppS_s]
    split
    · exact ppS_J h3 p
    · rw [evP_J h3]; exact ppS_J h3 p
theorem gaS_J {x y t : Int32} {o k : Nat} (h3 : k ≠ 3) (h4 : k ≠ 4) : ∀ (d : Nat) (S : St) (l i j : Nat), (gaS x y t o d S l i j).2 k = S.2 k
  | 0, _, _, _, _ => rfl
  | d + 1, S, l, i, j => by
    rw [gaS_s]
    split
    · rfl
    split
    · split
      · exact ppS_J h3 40
      · rw [gaS_J h3 h4 d, gaS_J h3 h4 d, gaS_J h3 h4 d, gaS_J h3 h4 d]
    · exact evB_J h3 h4
theorem gac_fr {S T : St} {x y t : Int32} {o : Nat} (h : nz T = gacS S x y t o) : mFr S T := by
  refine ⟨fun a ha => ?_, fun a ha => ?_⟩
  · rw [← nz_at (S := T) (by omega) (by omega) (by omega), h, gacS, gaS_ne (by omega) (by omega) (by omega) (by omega), nz_at (by omega) (by omega) (by omega), iniS, sI_ne (by omega)]
    rfl
  · have e : T.2 a = (gacS S x y t o).2 a := by rw [← h]; rfl
    rw [e, gacS, gaS_J (by omega) (by omega), nz_J, iniS, sI_J, sJ_ne (by omega), sJ_ne (by omega)]
/-- THE END as the reference sums it up -/
def gaE (hr px py wt K : Nat → Int32) (mo x y t : Int32) (o : Nat) : Nat → Int64 → Nat → Nat → Nat → Int64
  | 0, z, _, _, _ => z
  | d + 1, z, l, i, j => if pnI hr px py (nI l) (nI i) (nI j) 40 ≤ 0 then z else if mfaI x y t (nI l) (nI i) (nI j) = 0 then (if mspI hr px py mo (nI l) (nI i) (nI j) = 0 then z else gaE hr px py wt K mo x y t o d (gaE hr px py wt K mo x y t o d (gaE hr px py wt K mo x y t o d (gaE hr px py wt K mo x y t o d z (l + 1) (2 * i) (2 * j)) (l + 1) (2 * i + 1) (2 * j)) (l + 1) (2 * i) (2 * j + 1)) (l + 1) (2 * i + 1) (2 * j + 1)) else z + menL hr px py wt K (nI l) (nI i) (nI j) x y o
theorem gaE_s {hr px py wt K : Nat → Int32} {mo x y t : Int32} {o d : Nat} {z : Int64} {l i j : Nat} : gaE hr px py wt K mo x y t o (d + 1) z l i j = if pnI hr px py (nI l) (nI i) (nI j) 40 ≤ 0 then z else if mfaI x y t (nI l) (nI i) (nI j) = 0 then (if mspI hr px py mo (nI l) (nI i) (nI j) = 0 then z else gaE hr px py wt K mo x y t o d (gaE hr px py wt K mo x y t o d (gaE hr px py wt K mo x y t o d (gaE hr px py wt K mo x y t o d z (l + 1) (2 * i) (2 * j)) (l + 1) (2 * i + 1) (2 * j)) (l + 1) (2 * i) (2 * j + 1)) (l + 1) (2 * i + 1) (2 * j + 1)) else z + menL hr px py wt K (nI l) (nI i) (nI j) x y o := rfl
def gaEs (S : St) (x y t : Int32) (o d : Nat) (z : Int64) (l i j : Nat) : Int64 := gaE (S.1 20) (S.1 21) (S.1 22) (S.1 23) (S.1 26) (S.1 27 0) x y t o d z l i j
theorem gaEs_cg {S T : St} {x y t : Int32} {o d : Nat} {z : Int64} {l i j : Nat} (h : ∀ a, 20 ≤ a → a < 29 → T.1 a = S.1 a) : gaEs T x y t o d z l i j = gaEs S x y t o d z l i j := by
  unfold gaEs
  rw [h 20 (by decide) (by decide), h 21 (by decide) (by decide), h 22 (by decide) (by decide), h 23 (by decide) (by decide), h 26 (by decide) (by decide), h 27 (by decide) (by decide)]
theorem ga_E {x y t : Int32} {o : Nat} : ∀ (d : Nat) (S : St) (l i j : Nat), (gaS x y t o d S l i j).2 4 0 = gaEs S x y t o d (S.2 4 0) l i j
  | 0, _, _, _, _ => rfl
  | d + 1, S, l, i, j => by
    rw [gaS_s, gaEs, gaE_s]
    by_cases c1 : pnI (S.1 20) (S.1 21) (S.1 22) (nI l) (nI i) (nI j) 40 ≤ 0
    · rw [if_pos c1, if_pos c1]
    rw [if_neg c1, if_neg c1]
    by_cases c2 : mfaI x y t (nI l) (nI i) (nI j) = 0
    · rw [if_pos c2, if_pos c2]
      by_cases c3 : mspI (S.1 20) (S.1 21) (S.1 22) (S.1 27 0) (nI l) (nI i) (nI j) = 0
      · rw [if_pos c3, if_pos c3, ppS_J (by decide)]
      · rw [if_neg c3, if_neg c3, ga_E d, ga_E d, ga_E d, ga_E d]
        have f : ∀ (T : St) (a b c : Nat), (∀ k, 20 ≤ k → k < 29 → T.1 k = S.1 k) → ∀ k, 20 ≤ k → k < 29 → (gaS x y t o d T a b c).1 k = S.1 k := by
          intro T a b c hT k hk1 hk2
          rw [gaS_ne (by omega) (by omega) (by omega) (by omega)]
          exact hT k hk1 hk2
        have f0 : ∀ k, 20 ≤ k → k < 29 → S.1 k = S.1 k := fun _ _ _ => rfl
        have f1 := f S (l + 1) (2 * i) (2 * j) f0
        have f2 := f _ (l + 1) (2 * i + 1) (2 * j) f1
        have f3 := f _ (l + 1) (2 * i) (2 * j + 1) f2
        rw [gaEs_cg f3, gaEs_cg f2, gaEs_cg f1]
        rfl
    · rw [if_neg c2, if_neg c2]
      rfl
theorem gac_E (S : St) (x y t : Int32) (o : Nat) : (gacS S x y t o).2 4 0 = gaEs S x y t o 6 0 0 0 0 := by
  unfold gacS
  rw [ga_E, gaEs_cg (S := S)]
  · rfl
  · intro a h1 h2
    rw [nz_at (by omega) (by omega) (by omega), iniS, sI_ne (by omega)]
    rfl
def macR (S : St) (x y q t z : Int32) : Int64 := if mplI x y = 0 then -9000000000000000000 else if inL q.toInt64 0 4 = 0 then -9000000000000000000 else if inL t.toInt64 1 4 = 0 then -9000000000000000000 else if inL z.toInt64 0 2 = 0 then -9000000000000000000 else if z = 0 then (gacS S x y t q.toNatClampNeg).2 3 0 else if z = 1 then (gacS S x y t q.toNatClampNeg).2 4 0 else ((gacS S x y t q.toNatClampNeg).1 35 0).toInt64
def moV (S : St) (x y t : Int32) (e : Int64) : Nat → Nat → Int32
  | 0, o => nI o
  | n + 1, o => if gaEs S x y t o 6 0 0 0 0 ≤ e then nI o else moV S x y t e n (o + 1)
theorem moV_s {S : St} {x y t : Int32} {e : Int64} {n o : Nat} : moV S x y t e (n + 1) o = if gaEs S x y t o 6 0 0 0 0 ≤ e then nI o else moV S x y t e n (o + 1) := rfl
def modR (S : St) (x y t : Int32) (e : Int64) : Int32 := if mplI x y = 0 then -2 else if inL t.toInt64 1 4 = 0 then -2 else if 0 ≤ e then moV S x y t e 4 0 else -2
def mwyR (S : St) (x y t k q : Int32) : Int32 := if mplI x y = 0 then -2 else if inL t.toInt64 1 4 = 0 then -2 else if k < 0 then -2 else if inL q.toInt64 0 2 = 0 then -2 else if k < (gacS S x y t 0).1 35 0 then (if q = 0 then (gacS S x y t 0).1 32 k.toNatClampNeg else if q = 1 then (gacS S x y t 0).1 33 k.toNatClampNeg else (gacS S x y t 0).1 34 k.toNatClampNeg) else -1
theorem in04 {q : Int32} (h : ¬ inL q.toInt64 0 4 = 0) : ∃ k : Nat, k ≤ 4 ∧ q = nI k := by
  obtain ⟨h1, h2⟩ := in_n (a := 0) (b := 4) h
  exact nI_of2 (M := 4) (n := 4) (by decide) h1 (Int32.not_lt.mp h2)
set_option maxRecDepth 100000 in
set_option maxHeartbeats 4000000 in
theorem mX7_across (l : Launch) (w : Fx) (S : St) (x y q t z : Int32) (hw : gaN (S.1 20) (S.1 21) (S.1 22) (S.1 27 0) x y t 6 0 0 0 ≤ 80) : Ct l yX7_across cX7_across 6 (some .long) 4 w [.ref (aD w 23), .int x, .int y, .int q, .int t, .int z] S (fun v T => v = some (.long (macR S x y q t z)) ∧ mFr S T) := by
  refine Ct.of (by decide) (Nat.le_of_ble_eq_true rfl) (fun X h hr hl hw2 => ?_)
  subst hl hw2
  have h : Ok X cX7_across RX7 4 := h
  show Wx X S 0 [.ref (aD (xw X) 23), .int x, .int y, .int q, .int t, .int z] []
  refine r_iload_n 1 h dX7_across_0 rfl rfl ?_
  refine r_iload_n 2 h dX7_across_1 rfl rfl ?_
  refine cS2 h (mX7_isPlace _ _ _ x y) kX7_isPlace lm_X7_68 (by decide) (Nat.le_of_ble_eq_true rfl) dX7_across_2 ?_
  refine r_if_eq 46 h dX7_across_5 (by decide) (fun c5 => ?_) (fun c5 => ?_)
  · refine r_ldc2 h lc_X7_111 dX7_across_46 ?_
    exact r_lret h hr dX7_across_49 ⟨by simp only [macR, c5, ite_true, ite_false, if_true, if_false, not_true, not_false_iff], mFr_rf S⟩
  · refine r_iload_n 3 h dX7_across_8 rfl rfl ?_
    refine r_i2l h dX7_across_9 ?_
    refine r_lconst 0 h dX7_across_10 (by decide) ?_
    refine r_ldc2 h lc_X7_171 dX7_across_11 ?_
    refine cS3 h (mX7_in _ _ _ _ _ _) kX7_in lm_X7_62 (by decide) (Nat.le_of_ble_eq_true rfl) dX7_across_14 ?_
    show Wx _ _ 17 _ _
    refine r_if_eq 46 h dX7_across_17 (by decide) (fun c17 => ?_) (fun c17 => ?_)
    · refine r_ldc2 h lc_X7_111 dX7_across_46 ?_
      exact r_lret h hr dX7_across_49 ⟨by simp only [macR, c5, c17, ite_true, ite_false, if_true, if_false, not_true, not_false_iff], mFr_rf S⟩
    · refine r_iload h dX7_across_20 rfl ?_
      refine r_i2l h dX7_across_22 ?_
      refine r_lconst 1 h dX7_across_23 (by decide) ?_
      refine r_ldc2 h lc_X7_171 dX7_across_24 ?_
      refine cS3 h (mX7_in _ _ _ _ _ _) kX7_in lm_X7_62 (by decide) (Nat.le_of_ble_eq_true rfl) dX7_across_27 ?_
      show Wx _ _ 30 _ _
      refine r_if_eq 46 h dX7_across_30 (by decide) (fun c30 => ?_) (fun c30 => ?_)
      · refine r_ldc2 h lc_X7_111 dX7_across_46 ?_
        exact r_lret h hr dX7_across_49 ⟨by simp only [macR, c5, c17, c30, ite_true, ite_false, if_true, if_false, not_true, not_false_iff], mFr_rf S⟩
      · refine r_iload h dX7_across_33 rfl ?_
        refine r_i2l h dX7_across_35 ?_
        refine r_lconst 0 h dX7_across_36 (by decide) ?_
        refine r_ldc2 h lc_X7_134 dX7_across_37 ?_
        refine cS3 h (mX7_in _ _ _ _ _ _) kX7_in lm_X7_62 (by decide) (Nat.le_of_ble_eq_true rfl) dX7_across_40 ?_
        show Wx _ _ 43 _ _
        refine r_if_ne 50 h dX7_across_43 (by decide) (fun c43 => ?_) (fun c43 => ?_)
        · obtain ⟨k, hk, rfl⟩ := in04 c17
          refine r_aload_n 0 h dX7_across_50 rfl rfl ?_
          refine r_iload_n 1 h dX7_across_51 rfl rfl ?_
          refine r_iload_n 2 h dX7_across_52 rfl rfl ?_
          refine r_iload_n 3 h dX7_across_53 rfl rfl ?_
          refine r_iload h dX7_across_54 rfl ?_
          refine r_callP (rest := []) h (mX7_goAcross _ _ _ x y t k hk hw) kX7_goAcross lm_X7_173 (by decide) 23 (pl_23 _ _) rfl rfl rfl (Nat.le_of_ble_eq_true rfl) dX7_across_56 (fun v T hT => ?_)
          obtain ⟨rfl, hT⟩ := hT
          show Wx X T 59 [.ref (aD (xw X) 23), .int x, .int y, .int (nI k), .int t, .int z] []
          refine r_iload h dX7_across_59 rfl ?_
          refine r_if_ne 71 h dX7_across_61 (by decide) (fun c61 => ?_) (fun c61 => ?_)
          · refine r_iload h dX7_across_71 rfl ?_
            refine r_iconst 1 h dX7_across_73 (by decide) ?_
            refine r_icmp_ne 84 h dX7_across_74 (by decide) (fun c74 => ?_) (fun c74 => ?_)
            · refine r_aload_n 0 h dX7_across_84 rfl rfl ?_
              refine g23_15 h lf_X7_150 dX7_across_85 ?_
              refine r_i2l h dX7_across_88 ?_
              exact r_lret h hr dX7_across_89 ⟨by rw [macR, if_neg c5, if_neg c17, if_neg c30, if_neg c43, ncl (by omega)]; first | (rw [if_pos c61, ← hT]; rfl) | (rw [if_neg c61, if_pos c74, ← hT]; rfl) | (rw [if_neg c61, if_neg c74, ← hT]; rfl), gac_fr hT⟩
            · refine r_aload_n 0 h dX7_across_77 rfl rfl ?_
              refine g23_17 h lf_X7_157 dX7_across_78 ?_
              refine r_goto 89 h dX7_across_81 (by decide) ?_
              exact r_lret h hr dX7_across_89 ⟨by rw [macR, if_neg c5, if_neg c17, if_neg c30, if_neg c43, ncl (by omega)]; first | (rw [if_pos c61, ← hT]; rfl) | (rw [if_neg c61, if_pos c74, ← hT]; rfl) | (rw [if_neg c61, if_neg c74, ← hT]; rfl), gac_fr hT⟩
          · refine r_aload_n 0 h dX7_across_64 rfl rfl ?_
            refine g23_16 h lf_X7_153 dX7_across_65 ?_
            refine r_goto 89 h dX7_across_68 (by decide) ?_
            exact r_lret h hr dX7_across_89 ⟨by rw [macR, if_neg c5, if_neg c17, if_neg c30, if_neg c43, ncl (by omega)]; first | (rw [if_pos c61, ← hT]; rfl) | (rw [if_neg c61, if_pos c74, ← hT]; rfl) | (rw [if_neg c61, if_neg c74, ← hT]; rfl), gac_fr hT⟩
        · refine r_ldc2 h lc_X7_111 dX7_across_46 ?_
          exact r_lret h hr dX7_across_49 ⟨by simp only [macR, c5, c17, c30, c43, ite_true, ite_false, if_true, if_false, not_true, not_false_iff], mFr_rf S⟩
set_option maxRecDepth 100000 in
set_option maxHeartbeats 4000000 in
theorem mX7_order (l : Launch) (w : Fx) (S : St) (x y t : Int32) (e : Int64) (hw : gaN (S.1 20) (S.1 21) (S.1 22) (S.1 27 0) x y t 6 0 0 0 ≤ 80) (hE : 0 ≤ e → gaEs S x y t 4 6 0 0 0 0 ≤ e) : Ct l yX7_order cX7_order 7 (some .int) 4 w [.ref (aD w 23), .int x, .int y, .int t, .long e] S (fun v T => v = some (.int (modR S x y t e)) ∧ mFr S T) := by
  refine Ct.of (by decide) (Nat.le_of_ble_eq_true rfl) (fun X h hr hl hw2 => ?_)
  subst hl hw2
  have h : Ok X cX7_order RX7 4 := h
  show Wx X S 0 [.ref (aD (xw X) 23), .int x, .int y, .int t, .long e, .null, .null] []
  have dw : ∀ U : St, mFr S U → gaN (U.1 20) (U.1 21) (U.1 22) (U.1 27 0) x y t 6 0 0 0 ≤ 80 := by
    intro U hU
    rw [hU.1 20 (by decide), hU.1 21 (by decide), hU.1 22 (by decide), hU.1 27 (by decide)]
    exact hw
  have dE : ∀ (U T : St) (o : Nat), mFr S U → nz T = gacS U x y t o → T.2 4 0 = gaEs S x y t o 6 0 0 0 0 := by
    intro U T o hU hT
    have e1 : T.2 4 0 = (gacS U x y t o).2 4 0 := by rw [← hT]; rfl
    rw [e1, gac_E, gaEs_cg (S := S) (fun a _ h2 => hU.1 a h2)]
  have loop : ¬ mplI x y = 0 → ¬ inL t.toInt64 1 4 = 0 → 0 ≤ e → ∀ (n o : Nat) (U T : St), o + n = 4 → mFr S U → nz T = gacS U x y t o → moV S x y t e n o = moV S x y t e 4 0 → Wx X T 42 [.ref (aD (xw X) 23), .int x, .int y, .int t, .long e, .null, .int (nI o)] [] := by
    intro h1 h2 h3 n
    induction n with
    | zero =>
      intro o U T hi hU hT he
      have hi : o = 4 := by omega
      subst hi
      refine r_aload_n 0 h dX7_order_42 rfl rfl ?_
      refine g23_17 h lf_X7_157 dX7_order_43 ?_
      refine r_lload h dX7_order_46 rfl ?_
      refine r_lc_le_t 67 h dX7_order_48 dX7_order_49 (by decide) (by rw [dE U T 4 hU hT]; exact hE h3) ?_
      refine r_iload h dX7_order_67 rfl ?_
      show Wx _ _ 69 _ _
      exact r_iret h hr dX7_order_69 ⟨by rw [modR, if_neg h1, if_neg h2, if_pos h3, ← he]; rfl, mFr_tr hU (gac_fr hT)⟩
    | succ n ih =>
      intro o U T hi hU hT he
      rw [moV_s (n := n) (o := o), ← dE U T o hU hT] at he
      refine r_aload_n 0 h dX7_order_42 rfl rfl ?_
      refine g23_17 h lf_X7_157 dX7_order_43 ?_
      refine r_lload h dX7_order_46 rfl ?_
      refine r_lc_le 67 h dX7_order_48 dX7_order_49 (by decide) (fun c48 => ?_) (fun c48 => ?_)
      · refine r_iload h dX7_order_67 rfl ?_
        exact r_iret h hr dX7_order_69 ⟨by rw [modR, if_neg h1, if_neg h2, if_pos h3, ← he, if_pos c48], mFr_tr hU (gac_fr hT)⟩
      · refine r_iincN h dX7_order_52 rfl ?_
        show Wx _ _ _ [_, _, _, _, _, _, _] _
        refine r_aload_n 0 h dX7_order_55 rfl rfl ?_
        refine r_iload_n 1 h dX7_order_56 rfl rfl ?_
        refine r_iload_n 2 h dX7_order_57 rfl rfl ?_
        refine r_iload h dX7_order_58 rfl ?_
        show Wx _ _ 60 _ _
        refine r_iload_n 3 h dX7_order_60 rfl rfl ?_
        have hT2 : mFr S T := mFr_tr hU (gac_fr hT)
        refine r_callP (rest := []) h (mX7_goAcross _ _ _ x y t (o + 1) (by omega) (dw T hT2)) kX7_goAcross lm_X7_173 (by decide) 23 (pl_23 _ _) rfl rfl rfl (Nat.le_of_ble_eq_true rfl) dX7_order_61 (fun v V hV => ?_)
        obtain ⟨rfl, hV⟩ := hV
        show Wx X V 64 [.ref (aD (xw X) 23), .int x, .int y, .int t, .long e, .null, .int (nI (o + 1))] []
        refine r_goto 42 h dX7_order_64 (by decide) ?_
        exact ih (o + 1) T V (by omega) hT2 hV (by rw [← he, if_neg c48])
  refine r_iload_n 1 h dX7_order_0 rfl rfl ?_
  refine r_iload_n 2 h dX7_order_1 rfl rfl ?_
  refine cS2 h (mX7_isPlace _ _ _ x y) kX7_isPlace lm_X7_68 (by decide) (Nat.le_of_ble_eq_true rfl) dX7_order_2 ?_
  refine r_if_eq 27 h dX7_order_5 (by decide) (fun c5 => ?_) (fun c5 => ?_)
  · refine r_bipush (-2) h dX7_order_27 (by decide) ?_
    exact r_iret h hr dX7_order_29 ⟨by simp only [modR, c5, ite_true, ite_false, if_true, if_false, not_true, not_false_iff], mFr_rf S⟩
  · refine r_iload_n 3 h dX7_order_8 rfl rfl ?_
    refine r_i2l h dX7_order_9 ?_
    refine r_lconst 1 h dX7_order_10 (by decide) ?_
    refine r_ldc2 h lc_X7_171 dX7_order_11 ?_
    refine cS3 h (mX7_in _ _ _ _ _ _) kX7_in lm_X7_62 (by decide) (Nat.le_of_ble_eq_true rfl) dX7_order_14 ?_
    show Wx _ _ 17 _ _
    refine r_if_eq 27 h dX7_order_17 (by decide) (fun c17 => ?_) (fun c17 => ?_)
    · refine r_bipush (-2) h dX7_order_27 (by decide) ?_
      exact r_iret h hr dX7_order_29 ⟨by simp only [modR, c5, c17, ite_true, ite_false, if_true, if_false, not_true, not_false_iff], mFr_rf S⟩
    · refine r_lload h dX7_order_20 rfl ?_
      refine r_lconst 0 h dX7_order_22 (by decide) ?_
      refine r_lc_ge 30 h dX7_order_23 dX7_order_24 (by decide) (fun c23 => ?_) (fun c23 => ?_)
      · refine r_iconst 0 h dX7_order_30 (by decide) ?_
        refine r_istore h dX7_order_31 (Nat.le_of_ble_eq_true rfl) ?_
        show Wx _ _ _ [_, _, _, _, _, _, _] _
        refine r_aload_n 0 h dX7_order_33 rfl rfl ?_
        refine r_iload_n 1 h dX7_order_34 rfl rfl ?_
        refine r_iload_n 2 h dX7_order_35 rfl rfl ?_
        show Wx _ _ 36 _ _
        refine r_iload h dX7_order_36 rfl ?_
        refine r_iload_n 3 h dX7_order_38 rfl rfl ?_
        refine r_callP (rest := []) h (mX7_goAcross _ _ _ x y t 0 (by omega) hw) kX7_goAcross lm_X7_173 (by decide) 23 (pl_23 _ _) rfl rfl rfl (Nat.le_of_ble_eq_true rfl) dX7_order_39 (fun v T hT => ?_)
        obtain ⟨rfl, hT⟩ := hT
        show Wx X T 42 [.ref (aD (xw X) 23), .int x, .int y, .int t, .long e, .null, .int (nI 0)] []
        exact loop c5 c17 c23 4 0 S T rfl (mFr_rf S) hT rfl
      · refine r_bipush (-2) h dX7_order_27 (by decide) ?_
        exact r_iret h hr dX7_order_29 ⟨by simp only [modR, c5, c17, c23, ite_true, ite_false, if_true, if_false, not_true, not_false_iff], mFr_rf S⟩
set_option maxRecDepth 100000 in
set_option maxHeartbeats 4000000 in
theorem mX7_way (l : Launch) (w : Fx) (S : St) (x y t k q : Int32) (hw : gaN (S.1 20) (S.1 21) (S.1 22) (S.1 27 0) x y t 6 0 0 0 ≤ 80) : Ct l yX7_way cX7_way 6 (some .int) 4 w [.ref (aD w 23), .int x, .int y, .int t, .int k, .int q] S (fun v T => v = some (.int (mwyR S x y t k q)) ∧ mFr S T) := by
  refine Ct.of (by decide) (Nat.le_of_ble_eq_true rfl) (fun X h hr hl hw2 => ?_)
  subst hl hw2
  have h : Ok X cX7_way RX7 4 := h
  show Wx X S 0 [.ref (aD (xw X) 23), .int x, .int y, .int t, .int k, .int q] []
  refine r_iload_n 1 h dX7_way_0 rfl rfl ?_
  refine r_iload_n 2 h dX7_way_1 rfl rfl ?_
  refine cS2 h (mX7_isPlace _ _ _ x y) kX7_isPlace lm_X7_68 (by decide) (Nat.le_of_ble_eq_true rfl) dX7_way_2 ?_
  refine r_if_eq 38 h dX7_way_5 (by decide) (fun c5 => ?_) (fun c5 => ?_)
  · refine r_bipush (-2) h dX7_way_38 (by decide) ?_
    exact r_iret h hr dX7_way_40 ⟨by simp only [mwyR, c5, ite_true, ite_false, if_true, if_false, not_true, not_false_iff], mFr_rf S⟩
  · refine r_iload_n 3 h dX7_way_8 rfl rfl ?_
    refine r_i2l h dX7_way_9 ?_
    refine r_lconst 1 h dX7_way_10 (by decide) ?_
    refine r_ldc2 h lc_X7_171 dX7_way_11 ?_
    refine cS3 h (mX7_in _ _ _ _ _ _) kX7_in lm_X7_62 (by decide) (Nat.le_of_ble_eq_true rfl) dX7_way_14 ?_
    show Wx _ _ 17 _ _
    refine r_if_eq 38 h dX7_way_17 (by decide) (fun c17 => ?_) (fun c17 => ?_)
    · refine r_bipush (-2) h dX7_way_38 (by decide) ?_
      exact r_iret h hr dX7_way_40 ⟨by simp only [mwyR, c5, c17, ite_true, ite_false, if_true, if_false, not_true, not_false_iff], mFr_rf S⟩
    · refine r_iload h dX7_way_20 rfl ?_
      refine r_if_lt 38 h dX7_way_22 (by decide) (fun c22 => ?_) (fun c22 => ?_)
      · refine r_bipush (-2) h dX7_way_38 (by decide) ?_
        exact r_iret h hr dX7_way_40 ⟨by simp only [mwyR, c5, c17, c22, ite_true, ite_false, if_true, if_false, not_true, not_false_iff], mFr_rf S⟩
      · refine r_iload h dX7_way_25 rfl ?_
        refine r_i2l h dX7_way_27 ?_
        refine r_lconst 0 h dX7_way_28 (by decide) ?_
        refine r_ldc2 h lc_X7_134 dX7_way_29 ?_
        refine cS3 h (mX7_in _ _ _ _ _ _) kX7_in lm_X7_62 (by decide) (Nat.le_of_ble_eq_true rfl) dX7_way_32 ?_
        show Wx _ _ 35 _ _
        refine r_if_ne 41 h dX7_way_35 (by decide) (fun c35 => ?_) (fun c35 => ?_)
        · refine r_aload_n 0 h dX7_way_41 rfl rfl ?_
          refine r_iload_n 1 h dX7_way_42 rfl rfl ?_
          refine r_iload_n 2 h dX7_way_43 rfl rfl ?_
          refine r_iconst 0 h dX7_way_44 (by decide) ?_
          refine r_iload_n 3 h dX7_way_45 rfl rfl ?_
          refine r_callP (rest := []) h (mX7_goAcross _ _ _ x y t 0 (by omega) hw) kX7_goAcross lm_X7_173 (by decide) 23 (pl_23 _ _) rfl rfl rfl (Nat.le_of_ble_eq_true rfl) dX7_way_46 (fun v T hT => ?_)
          obtain ⟨rfl, hT⟩ := hT
          show Wx X T 49 [.ref (aD (xw X) 23), .int x, .int y, .int t, .int k, .int q] []
          have e35 : T.1 35 0 = (gacS S x y t 0).1 35 0 := by rw [← hT, nz_at (by decide) (by decide) (by decide)]
          have eW : T.1 35 0 = nI (0 + gaN (S.1 20) (S.1 21) (S.1 22) (S.1 27 0) x y t 6 0 0 0) := by
            rw [e35, gacS, ga_w 6 (nz (iniS S)) 0 0 0 0 rfl]
            rfl
          refine r_iload h dX7_way_49 rfl ?_
          refine r_aload_n 0 h dX7_way_51 rfl rfl ?_
          refine g23_15 h lf_X7_150 dX7_way_52 ?_
          refine r_icmp_lt 60 h dX7_way_55 (by decide) (fun c55 => ?_) (fun c55 => ?_)
          · refine r_iload h dX7_way_60 rfl ?_
            refine r_if_ne 75 h dX7_way_62 (by decide) (fun c62 => ?_) (fun c62 => ?_)
            · refine r_iload h dX7_way_75 rfl ?_
              refine r_iconst 1 h dX7_way_77 (by decide) ?_
              refine r_icmp_ne 91 h dX7_way_78 (by decide) (fun c78 => ?_) (fun c78 => ?_)
              · refine r_aload_n 0 h dX7_way_91 rfl rfl ?_
                refine g23_14 h lf_X7_51 dX7_way_92 ?_
                refine r_iload h dX7_way_95 rfl ?_
                refine al_36 h (by refine ixN (N := 80) (by decide) c22 (fun z => ?_); have hlt := c55; rw [eW] at hlt; exact absurd (Int32.lt_of_lt_of_le hlt (nI_le (b := 80) (by omega) (by decide))) (Int32.not_lt.mpr z)) dX7_way_97 ?_
                exact r_iret h hr dX7_way_98 ⟨by rw [mwyR, if_neg c5, if_neg c17, if_neg c22, if_neg c35, ← e35]; first | (rw [if_neg c55]; done) | (rw [if_pos c55, if_pos c62, ← hT, nz_at (by decide) (by decide) (by decide)]; done) | (rw [if_pos c55, if_neg c62, if_pos c78, ← hT, nz_at (by decide) (by decide) (by decide)]; done) | (rw [if_pos c55, if_neg c62, if_neg c78, ← hT, nz_at (by decide) (by decide) (by decide)]; done), gac_fr hT⟩
              · refine r_aload_n 0 h dX7_way_81 rfl rfl ?_
                refine g23_13 h lf_X7_48 dX7_way_82 ?_
                refine r_iload h dX7_way_85 rfl ?_
                refine al_35 h (by refine ixN (N := 80) (by decide) c22 (fun z => ?_); have hlt := c55; rw [eW] at hlt; exact absurd (Int32.lt_of_lt_of_le hlt (nI_le (b := 80) (by omega) (by decide))) (Int32.not_lt.mpr z)) dX7_way_87 ?_
                refine r_goto 98 h dX7_way_88 (by decide) ?_
                show Wx _ _ 98 _ _
                exact r_iret h hr dX7_way_98 ⟨by rw [mwyR, if_neg c5, if_neg c17, if_neg c22, if_neg c35, ← e35]; first | (rw [if_neg c55]; done) | (rw [if_pos c55, if_pos c62, ← hT, nz_at (by decide) (by decide) (by decide)]; done) | (rw [if_pos c55, if_neg c62, if_pos c78, ← hT, nz_at (by decide) (by decide) (by decide)]; done) | (rw [if_pos c55, if_neg c62, if_neg c78, ← hT, nz_at (by decide) (by decide) (by decide)]; done), gac_fr hT⟩
            · refine r_aload_n 0 h dX7_way_65 rfl rfl ?_
              refine g23_12 h lf_X7_45 dX7_way_66 ?_
              refine r_iload h dX7_way_69 rfl ?_
              refine al_34 h (by refine ixN (N := 80) (by decide) c22 (fun z => ?_); have hlt := c55; rw [eW] at hlt; exact absurd (Int32.lt_of_lt_of_le hlt (nI_le (b := 80) (by omega) (by decide))) (Int32.not_lt.mpr z)) dX7_way_71 ?_
              refine r_goto 98 h dX7_way_72 (by decide) ?_
              show Wx _ _ 98 _ _
              exact r_iret h hr dX7_way_98 ⟨by rw [mwyR, if_neg c5, if_neg c17, if_neg c22, if_neg c35, ← e35]; first | (rw [if_neg c55]; done) | (rw [if_pos c55, if_pos c62, ← hT, nz_at (by decide) (by decide) (by decide)]; done) | (rw [if_pos c55, if_neg c62, if_pos c78, ← hT, nz_at (by decide) (by decide) (by decide)]; done) | (rw [if_pos c55, if_neg c62, if_neg c78, ← hT, nz_at (by decide) (by decide) (by decide)]; done), gac_fr hT⟩
          · refine r_iconst (-1) h dX7_way_58 (by decide) ?_
            exact r_iret h hr dX7_way_59 ⟨by rw [mwyR, if_neg c5, if_neg c17, if_neg c22, if_neg c35, ← e35]; first | (rw [if_neg c55]; done) | (rw [if_pos c55, if_pos c62, ← hT, nz_at (by decide) (by decide) (by decide)]; done) | (rw [if_pos c55, if_neg c62, if_pos c78, ← hT, nz_at (by decide) (by decide) (by decide)]; done) | (rw [if_pos c55, if_neg c62, if_neg c78, ← hT, nz_at (by decide) (by decide) (by decide)]; done), gac_fr hT⟩
        · refine r_bipush (-2) h dX7_way_38 (by decide) ?_
          exact r_iret h hr dX7_way_40 ⟨by simp only [mwyR, c5, c17, c22, c35, ite_true, ite_false, if_true, if_false, not_true, not_false_iff], mFr_rf S⟩
