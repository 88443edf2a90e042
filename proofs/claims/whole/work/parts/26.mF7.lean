set_option maxRecDepth 100000 in
set_option maxHeartbeats 4000000 in
theorem mX5_trace (l : Launch) (w : Fx) (S : St) (x y t : Int32) : Ct l yX5_trace cX5_trace 4 none 10 w [.ref (aD w 16), .int x, .int y, .int t] S (fun v S' => v = none ∧ S' = trcS S x y t) := by
  refine Ct.of (by decide) (Nat.le_of_ble_eq_true rfl) (fun X h hr hl hw => ?_)
  subst hl hw
  have h : Ok X cX5_trace RX5 10 := h
  show Wx X S 0 [.ref (aD (xw X) 16), .int x, .int y, .int t] []
  refine r_aload_n 0 h dX5_trace_0 rfl rfl ?_
  refine r_iload_n 1 h dX5_trace_1 rfl rfl ?_
  refine p16_6 h lf_X5_25 dX5_trace_2 ?_
  refine r_aload_n 0 h dX5_trace_5 rfl rfl ?_
  refine r_iload_n 2 h dX5_trace_6 rfl rfl ?_
  show Wx _ _ 7 _ _
  refine p16_7 h lf_X5_28 dX5_trace_7 ?_
  refine r_aload_n 0 h dX5_trace_10 rfl rfl ?_
  refine r_iload_n 3 h dX5_trace_11 rfl rfl ?_
  refine p16_8 h lf_X5_31 dX5_trace_12 ?_
  refine r_aload_n 0 h dX5_trace_15 rfl rfl ?_
  refine r_iconst 0 h dX5_trace_16 (by decide) ?_
  show Wx _ _ 17 _ _
  refine p16_5 h lf_X5_21 dX5_trace_17 ?_
  refine r_aload_n 0 h dX5_trace_20 rfl rfl ?_
  refine r_iconst 0 h dX5_trace_21 (by decide) ?_
  refine r_iconst 0 h dX5_trace_22 (by decide) ?_
  refine r_iconst 0 h dX5_trace_23 (by decide) ?_
  refine cV3v h (mX5_visit _ _ 6 _ 0 0 0 rfl (by decide) (by decide) ⟨0, by omega, rfl⟩) kX5_visit lm_X5_42 (by decide) 16 (pl_16 _ _) rfl (Nat.le_of_ble_eq_true rfl) dX5_trace_24 ?_
  show Wx _ _ 27 _ _
  exact r_vret h hr dX5_trace_27 ⟨rfl, rfl⟩
set_option maxRecDepth 100000 in
set_option maxHeartbeats 4000000 in
theorem mX5_read (l : Launch) (w : Fx) (S : St) (k q : Int32) (hlen : lenOk S) : Ct l yX5_read cX5_read 3 (some .int) 0 w [.ref (aD w 16), .int k, .int q] S (fun v S' => v = some (.int (rdI S k q)) ∧ S' = S) := by
  refine Ct.of (by decide) (Nat.le_of_ble_eq_true rfl) (fun X h hr hl hw => ?_)
  subst hl hw
  have h : Ok X cX5_read RX5 0 := h
  show Wx X S 0 [.ref (aD (xw X) 16), .int k, .int q] []
  refine r_iload_n 1 h dX5_read_0 rfl rfl ?_
  refine r_if_lt 12 h dX5_read_1 (by decide) (fun c1 => ?_) (fun c1 => ?_)
  · refine r_iconst (-1) h dX5_read_12 (by decide) ?_
    exact r_iret h hr dX5_read_13 ⟨by simp only [rdI, c1, ite_true, ite_false, if_true, if_false, not_true, not_false_iff], rfl⟩
  · refine r_iload_n 1 h dX5_read_4 rfl rfl ?_
    refine r_aload_n 0 h dX5_read_5 rfl rfl ?_
    refine g16_5 h lf_X5_21 dX5_read_6 ?_
    refine r_icmp_lt 14 h dX5_read_9 (by decide) (fun c9 => ?_) (fun c9 => ?_)
    · refine r_iload_n 2 h dX5_read_14 rfl rfl ?_
      refine r_lk2 54 40 47 h dX5_read_15 (by decide) (by decide) (by decide)  (fun c15 => ?_) (fun c15 => ?_) (fun c15 => ?_) 
      · refine r_aload_n 0 h dX5_read_54 rfl rfl ?_
        refine g16_4 h lf_X5_18 dX5_read_55 ?_
        refine r_iload_n 1 h dX5_read_58 rfl rfl ?_
        refine al_19 h (rd_in hlen c1 c9) dX5_read_59 ?_
        exact r_iret h hr dX5_read_60 ⟨by rw [rdI, if_neg c1, if_pos c9, if_neg c15.1, if_neg c15.2], rfl⟩
      · refine r_aload_n 0 h dX5_read_40 rfl rfl ?_
        refine g16_2 h lf_X5_9 dX5_read_41 ?_
        refine r_iload_n 1 h dX5_read_44 rfl rfl ?_
        refine al_17 h (rd_in hlen c1 c9) dX5_read_45 ?_
        exact r_iret h hr dX5_read_46 ⟨by rw [rdI, if_neg c1, if_pos c9, if_pos c15], rfl⟩
      · refine r_aload_n 0 h dX5_read_47 rfl rfl ?_
        refine g16_3 h lf_X5_15 dX5_read_48 ?_
        refine r_iload_n 1 h dX5_read_51 rfl rfl ?_
        refine al_18 h (rd_in hlen c1 c9) dX5_read_52 ?_
        exact r_iret h hr dX5_read_53 ⟨by rw [rdI, if_neg c1, if_pos c9, if_neg (by rw [c15]; decide), if_pos c15], rfl⟩
    · refine r_iconst (-1) h dX5_read_12 (by decide) ?_
      exact r_iret h hr dX5_read_13 ⟨by simp only [rdI, c1, c9, ite_true, ite_false, if_true, if_false, not_true, not_false_iff], rfl⟩
def wsuL (S : St) (x y : Int32) : Int64 := valP (S.2 2) (frmI x 0 0).toInt64 (frmI y 0 0).toInt64
def pshI (v : Int64) : Int32 := wrpI (v >>> ((12 : Int32).toInt64 &&& 63))
def fpP (T : St) (p : Nat) : St := sI (sI T 17 p (pshI (wsuL T (T.1 1 p + 1) (T.1 2 p) - wsuL T (T.1 1 p - 1) (T.1 2 p)))) 18 p (pshI (wsuL T (T.1 1 p) (T.1 2 p + 1) - wsuL T (T.1 1 p) (T.1 2 p - 1)))
def fpT (S : St) : Nat → St
  | 0 => S
  | p + 1 => if (fpT S p).1 0 p = 0 then fpT S p else fpP (fpT S p) p
theorem fpT_s {S : St} {p : Nat} : fpT S (p + 1) = if (fpT S p).1 0 p = 0 then fpT S p else fpP (fpT S p) p := rfl
def fpS (S : St) : St := fpT (etS (gatS S 0 0 0) 4) 40
def apT (S : St) (g : Int32) : Nat → St
  | 0 => S
  | p + 1 => if (apT S g p).1 0 p = 0 then apT S g p else spcS (apT S g p) (nI p) (wrpI ((apT S g p).1 4 p + g * (apT S g p).1 17 p).toInt64) (wrpI ((apT S g p).1 5 p + g * (apT S g p).1 18 p).toInt64)
theorem apT_s {S : St} {g : Int32} {p : Nat} : apT S g (p + 1) = if (apT S g p).1 0 p = 0 then apT S g p else spcS (apT S g p) (nI p) (wrpI ((apT S g p).1 4 p + g * (apT S g p).1 17 p).toInt64) (wrpI ((apT S g p).1 5 p + g * (apT S g p).1 18 p).toInt64) := rfl
def leaI (S : St) (x y : Int32) : St := leaS S x.toNatClampNeg y.toNatClampNeg 6
def entI (S : St) (x y : Int32) : St := entS S x.toNatClampNeg y.toNatClampNeg 6
theorem mX0_leaveI (l : Launch) (w : Fx) (S : St) (x y : Int32) (hx : vp_in x 64) (hy : vp_in y 64) : Ct l yX0_leave cX0_leave 4 none 2 w [.ref (aD w 8), .int x, .int y] S (fun v S' => v = none ∧ S' = leaI S x y) := by
  obtain ⟨a, ha, rfl⟩ := vp_in_of hx (by decide)
  obtain ⟨b, hb, rfl⟩ := vp_in_of hy (by decide)
  unfold leaI
  rw [ncl (by omega), ncl (by omega)]
  exact mX0_leave l w S a b ha hb
theorem mX0_enterI (l : Launch) (w : Fx) (S : St) (x y : Int32) (hx : vp_in x 64) (hy : vp_in y 64) : Ct l yX0_enter cX0_enter 4 none 2 w [.ref (aD w 8), .int x, .int y] S (fun v S' => v = none ∧ S' = entI S x y) := by
  obtain ⟨a, ha, rfl⟩ := vp_in_of hx (by decide)
  obtain ⟨b, hb, rfl⟩ := vp_in_of hy (by decide)
  unfold entI
  rw [ncl (by omega), ncl (by omega)]
  exact mX0_enter l w S a b ha hb
def shQ (T : St) (g : Int32) (p : Nat) : St := putS (leaI T (T.1 1 p) (T.1 2 p)) (nI p) (wrlI ((leaI T (T.1 1 p) (T.1 2 p)).1 1 p + g * (leaI T (T.1 1 p) (T.1 2 p)).1 4 p)) (wrlI ((leaI T (T.1 1 p) (T.1 2 p)).1 2 p + g * (leaI T (T.1 1 p) (T.1 2 p)).1 5 p))
def shP (T : St) (g : Int32) (p : Nat) : St := entI (shQ T g p) ((shQ T g p).1 1 p) ((shQ T g p).1 2 p)
def shT (S : St) (g : Int32) : Nat → St
  | 0 => S
  | p + 1 => if (shT S g p).1 0 p = 0 then shT S g p else shP (shT S g p) g p
theorem shT_s {S : St} {g : Int32} {p : Nat} : shT S g (p + 1) = if (shT S g p).1 0 p = 0 then shT S g p else shP (shT S g p) g p := rfl
/-- the POINTS that are there have PLACES -/
def plOk (S : St) : Prop := ∀ p : Nat, p < 40 → ¬ S.1 0 p = 0 → vp_in (S.1 1 p) 64 ∧ vp_in (S.1 2 p) 64
theorem leaS_ne {S : St} {a b k : Nat} (h : k ≠ 7) : ∀ n, (leaS S a b n).1 k = S.1 k
  | 0 => rfl
  | n + 1 => (sI_ne h).trans (leaS_ne h n)
theorem entS_ne {S : St} {a b k : Nat} (h : k ≠ 7) : ∀ n, (entS S a b n).1 k = S.1 k
  | 0 => rfl
  | n + 1 => (sI_ne h).trans (entS_ne h n)
theorem leaS_J {S : St} {a b : Nat} : ∀ n, (leaS S a b n).2 = S.2
  | 0 => rfl
  | n + 1 => leaS_J n
theorem entS_J {S : St} {a b : Nat} : ∀ n, (entS S a b n).2 = S.2
  | 0 => rfl
  | n + 1 => entS_J n
theorem wrl_in (x : Int32) : vp_in (wrlI x) 64 := pk_andIn x (m := 63) 6 (by decide) (by decide)
theorem put_1 {T : St} {p : Nat} {x y : Int32} (hp : p < 40) : (putS T (nI p) x y).1 1 = upd (T.1 1) p x := by
  unfold putS
  rw [sI_ne (by decide), sI_eq, ncl (by omega)]
theorem put_2 {T : St} {p : Nat} {x y : Int32} (hp : p < 40) : (putS T (nI p) x y).1 2 = upd (T.1 2) p y := by
  unfold putS
  rw [sI_eq, ncl (by omega), sI_ne (by decide)]
theorem put_ne {T : St} {q x y : Int32} {k : Nat} (h1 : k ≠ 1) (h2 : k ≠ 2) : (putS T q x y).1 k = T.1 k := by
  unfold putS
  rw [sI_ne h2, sI_ne h1]
theorem shQ_in {T : St} {g : Int32} {p : Nat} (hp : p < 40) : vp_in ((shQ T g p).1 1 p) 64 ∧ vp_in ((shQ T g p).1 2 p) 64 := by
  unfold shQ
  rw [put_1 hp, put_2 hp, upd_eq, upd_eq]
  exact ⟨wrl_in _, wrl_in _⟩
theorem shP_pl {T : St} {g : Int32} {p : Nat} (hp : p < 40) (h : plOk T) : plOk (shP T g p) := by
  intro q hq hn
  have e0 : (shP T g p).1 0 = T.1 0 := by
    unfold shP shQ entI leaI
    rw [entS_ne (by decide), put_ne (by decide) (by decide), leaS_ne (by decide)]
  rw [e0] at hn
  have e1 : (shP T g p).1 1 = (shQ T g p).1 1 := entS_ne (by decide) 6
  have e2 : (shP T g p).1 2 = (shQ T g p).1 2 := entS_ne (by decide) 6
  rw [e1, e2]
  by_cases z : q = p
  · subst z; exact shQ_in hp
  · unfold shQ leaI
    rw [put_1 hp, put_2 hp, upd_ne z, upd_ne z, leaS_ne (by decide), leaS_ne (by decide)]
    exact h q hq hn
theorem shT_pl {S : St} {g : Int32} (h : plOk S) : ∀ p, p ≤ 40 → plOk (shT S g p)
  | 0, _ => h
  | p + 1, hp => by
    rw [shT_s]
    split
    · exact shT_pl h p (by omega)
    · exact shP_pl (by omega) (shT_pl h p (by omega))
def fthS (S : St) : St := sI (shT (apT (fpS S) 1 40) 1 40) 19 0 ((shT (apT (fpS S) 1 40) 1 40).1 19 0 + 1)
def bckS (S : St) : St := sI (apT (fpS (shT S (-1) 40)) (-1) 40) 19 0 ((apT (fpS (shT S (-1) 40)) (-1) 40).1 19 0 - 1)
theorem spc_ne {T : St} {q x y : Int32} {k : Nat} (h1 : k ≠ 4) (h2 : k ≠ 5) : (spcS T q x y).1 k = T.1 k := by
  unfold spcS
  rw [sI_ne h2, sI_ne h1]
theorem apT_ne {S : St} {g : Int32} {k : Nat} (h1 : k ≠ 4) (h2 : k ≠ 5) : ∀ p, (apT S g p).1 k = S.1 k
  | 0 => rfl
  | p + 1 => by
    rw [apT_s]
    split
    · exact apT_ne h1 h2 p
    · rw [spc_ne h1 h2]; exact apT_ne h1 h2 p
theorem fpT_ne {S : St} {k : Nat} (h1 : k ≠ 17) (h2 : k ≠ 18) : ∀ p, (fpT S p).1 k = S.1 k
  | 0 => rfl
  | p + 1 => by
    rw [fpT_s]
    split
    · exact fpT_ne h1 h2 p
    · unfold fpP; rw [sI_ne h2, sI_ne h1]; exact fpT_ne h1 h2 p
theorem clr_I {S : St} {k : Nat} : ∀ n, (clrS S k n).1 = S.1
  | 0 => rfl
  | n + 1 => clr_I n
theorem atV_I {T : St} {a b u : Nat} {c : Int64} : ∀ n, (atV T a b c u n).1 = T.1
  | 0 => rfl
  | n + 1 => atV_I n
theorem atU_I {T : St} {a b o : Nat} {c : Int64} : ∀ n, (atU T a b c o n).1 = T.1
  | 0 => rfl
  | n + 1 => by rw [atU_s, atV_I]; exact atU_I n
theorem etB_I {T : St} {o a : Nat} : ∀ n, (etB T o a n).1 = T.1
  | 0 => rfl
  | n + 1 => by
    rw [etB_s]
    split
    · exact etB_I n
    · rw [atU_I]; exact etB_I n
theorem etA_I {T : St} {o : Nat} : ∀ n, (etA T o n).1 = T.1
  | 0 => rfl
  | n + 1 => by rw [etA_s, etB_I]; exact etA_I n
theorem et_I (S : St) (o : Nat) : (etS S o).1 = S.1 := (etA_I 5).trans (clr_I 25)
theorem aeV_I {T : St} {a b u v0 : Nat} {c : Int64} {r : Int32} : ∀ n, (aeV T a b c r u v0 n).1 = T.1
  | 0 => rfl
  | n + 1 => aeV_I n
theorem aeU_I {T : St} {a b o : Nat} {c : Int64} {r : Int32} : ∀ n, (aeU T a b c r o n).1 = T.1
  | 0 => rfl
  | n + 1 => by rw [aeU_s, aeV_I]; exact aeU_I n
theorem eeB_I {T : St} {k : Int64} {r : Int32} {o a : Nat} : ∀ n, (eeB T k r o a n).1 = T.1
  | 0 => rfl
  | n + 1 => by
    rw [eeB_s]
    split
    · exact eeB_I n
    · rw [aeU_I]; exact eeB_I n
theorem eeA_I {T : St} {k : Int64} {r : Int32} {o : Nat} : ∀ n, (eeA T k r o n).1 = T.1
  | 0 => rfl
  | n + 1 => by rw [eeA_s, eeB_I]; exact eeA_I n
theorem ee_I (S : St) (k : Int64) (r : Int32) (o : Nat) : (eeS S k r o).1 = S.1 := (eeA_I 5).trans (clr_I 25)
theorem amB_I {T : St} {a : Nat} {v dy : Int64} : ∀ n, (amB T a v dy n).1 = T.1
  | 0 => rfl
  | n + 1 => amB_I n
theorem amA_I {T : St} {v dx dy : Int64} : ∀ n, (amA T v dx dy n).1 = T.1
  | 0 => rfl
  | n + 1 => by rw [amA_s, amB_I]; exact amA_I n
theorem gaT_ne {S : St} {l i j : Int32} {k : Nat} (h : k ≠ 9) : ∀ n, (gaT S l i j n).1 k = S.1 k
  | 0 => (sI_ne h).trans (by rw [clr_I])
  | n + 1 => by
    rw [gaT_s]
    split
    · exact gaT_ne h n
    · rw [sI_ne h, gaP, amA_I]; exact gaT_ne h n
theorem gat_ne {S : St} {l i j : Int32} {k : Nat} (h : k ≠ 9) : (gatS S l i j).1 k = S.1 k := by
  unfold gatS
  exact gaT_ne h 40
theorem fp_ne {S : St} {k : Nat} (h : k ≠ 9) (h1 : k ≠ 17) (h2 : k ≠ 18) : (fpS S).1 k = S.1 k := by
  unfold fpS
  rw [fpT_ne h1 h2, et_I, gat_ne h]
theorem plOk_of {S T : St} (h0 : T.1 0 = S.1 0) (h1 : T.1 1 = S.1 1) (h2 : T.1 2 = S.1 2) (h : plOk S) : plOk T := by
  intro p hp hn
  rw [h0] at hn
  rw [h1, h2]
  exact h p hp hn
set_option maxRecDepth 100000 in
set_option maxHeartbeats 4000000 in
theorem mX1_wholeSum (l : Launch) (w : Fx) (S : St) (x y : Int32) : Ct l yX1_wholeSum cX1_wholeSum 3 (some .long) 2 w [.ref (aD w 20), .int x, .int y] S (fun v S' => v = some (.long (wsuL S x y)) ∧ S' = S) := by
  refine Ct.of (by decide) (Nat.le_of_ble_eq_true rfl) (fun X h hr hl hw => ?_)
  subst hl hw
  have h : Ok X cX1_wholeSum RX1 2 := h
  show Wx X S 0 [.ref (aD (xw X) 20), .int x, .int y] []
  refine r_aload_n 0 h dX1_wholeSum_0 rfl rfl ?_
  refine g20_2 h lf_X1_30 dX1_wholeSum_1 ?_
  refine g13_1 h lf_X1_80 dX1_wholeSum_4 ?_
  refine r_iload_n 1 h dX1_wholeSum_7 rfl rfl ?_
  refine r_iconst 0 h dX1_wholeSum_8 (by decide) ?_
  show Wx _ _ 9 _ _
  refine r_iconst 0 h dX1_wholeSum_9 (by decide) ?_
  refine cN3 h (mX6_fromMiddle _ _ _ x 0 0) kX6_fromMiddle ln_X1_84 (by decide) (Nat.le_of_ble_eq_true rfl) dX1_wholeSum_10 ?_
  refine r_i2l h dX1_wholeSum_13 ?_
  refine r_iload_n 2 h dX1_wholeSum_14 rfl rfl ?_
  refine r_iconst 0 h dX1_wholeSum_15 (by decide) ?_
  refine r_iconst 0 h dX1_wholeSum_16 (by decide) ?_
  show Wx _ _ 17 _ _
  refine cN3 h (mX6_fromMiddle _ _ _ y 0 0) kX6_fromMiddle ln_X1_84 (by decide) (Nat.le_of_ble_eq_true rfl) dX1_wholeSum_17 ?_
  refine r_i2l h dX1_wholeSum_20 ?_
  refine cV2 h (mX3_valueAt14 _ _ _ _ _) kX3_valueAt lm_X1_88 (by decide) 14 (pl_14 _ _) rfl (Nat.le_of_ble_eq_true rfl) dX1_wholeSum_21 ?_
  exact r_lret h hr dX1_wholeSum_24 ⟨rfl, rfl⟩
set_option maxRecDepth 100000 in
set_option maxHeartbeats 4000000 in
theorem mX1_pushOf (l : Launch) (w : Fx) (S : St) (x : Int64) : Ct l yX1_pushOf cX1_pushOf 2 (some .int) 1 w [.long x] S (fun v S' => v = some (.int (pshI x)) ∧ S' = S) := by
  refine Ct.of (by decide) (Nat.le_of_ble_eq_true rfl) (fun X h hr hl hw => ?_)
  subst hl hw
  have h : Ok X cX1_pushOf RX1 1 := h
  show Wx X S 0 [.long x, .null] []
  refine r_lload_n 0 h dX1_pushOf_0 rfl rfl ?_
  refine r_bipush 12 h dX1_pushOf_1 (by decide) ?_
  refine r_lshr h dX1_pushOf_3 ?_
  refine cN1 h (mX6_wrapPace _ _ _ _) kX6_wrapPace ln_X1_94 (by decide) (Nat.le_of_ble_eq_true rfl) dX1_pushOf_4 ?_
  exact r_iret h hr dX1_pushOf_7 ⟨rfl, rfl⟩
set_option maxRecDepth 100000 in
set_option maxHeartbeats 4000000 in
theorem mX1_findPushes (l : Launch) (w : Fx) (S : St) : Ct l yX1_findPushes cX1_findPushes 4 none 4 w [.ref (aD w 20)] S (fun v S' => v = none ∧ S' = fpS S) := by
  refine Ct.of (by decide) (Nat.le_of_ble_eq_true rfl) (fun X h hr hl hw => ?_)
  subst hl hw
  have h : Ok X cX1_findPushes RX1 4 := h
  show Wx X S 0 [.ref (aD (xw X) 20), .null, .null, .null] []
  have loop : ∀ n p : Nat, p + n = 40 → Wx X (fpT (etS (gatS S 0 0 0) 4) p) 27 [.ref (aD (xw X) 20), .int (nI p), .null, .null] [] := by
    intro n
    induction n with
    | zero =>
      intro p hi
      have hi : p = 40 := by omega
      subst hi
      refine r_iload_n 1 h dX1_findPushes_27 rfl rfl ?_
      refine r_bipush 40 h dX1_findPushes_28 (by decide) ?_
      refine r_icmp_ge_t 123 h dX1_findPushes_30 (by decide) (bigT (a := 40) (by omega) (by omega)) ?_
      exact r_vret h hr dX1_findPushes_123 ⟨rfl, rfl⟩
    | succ n ih =>
      intro p hi
      have hq := ih (p + 1) (by omega)
      rw [fpT_s] at hq
      refine r_iload_n 1 h dX1_findPushes_27 rfl rfl ?_
      refine r_bipush 40 h dX1_findPushes_28 (by decide) ?_
      refine r_icmp_ge_f 123 h dX1_findPushes_30 (by decide) (bigF (a := 40) (by omega) (by omega)) ?_
      refine r_aload_n 0 h dX1_findPushes_33 rfl rfl ?_
      refine g20_0 h lf_X1_22 dX1_findPushes_34 ?_
      show Wx _ _ 37 _ _
      refine g1_0 h lf_X1_60 dX1_findPushes_37 ?_
      refine r_iload_n 1 h dX1_findPushes_40 rfl rfl ?_
      refine alN_2 h (by omega) dX1_findPushes_41 ?_
      refine r_if_eq 117 h dX1_findPushes_42 (by decide) (fun c42 => ?_) (fun c42 => ?_)
      · refine r_iincN h dX1_findPushes_117 rfl ?_
        show Wx _ _ _ [_, _, _, _] _
        refine r_goto 27 h dX1_findPushes_120 (by decide) ?_
        first
          | (rw [if_pos c42] at hq; exact hq)
          | (rw [if_neg c42] at hq; exact Wx.weak (lv' := [.ref (aD (xw X) 20), .int (nI (p + 1)), .null, .null]) (And.intro rfl (And.intro rfl trivial)) (hq))
      · refine r_aload_n 0 h dX1_findPushes_45 rfl rfl ?_
        refine g20_0 h lf_X1_22 dX1_findPushes_46 ?_
        refine g1_1 h lf_X1_66 dX1_findPushes_49 ?_
        refine r_iload_n 1 h dX1_findPushes_52 rfl rfl ?_
        refine alN_3 h (by omega) dX1_findPushes_53 ?_
        show Wx _ _ 54 _ _
        refine r_istore_n 2 h dX1_findPushes_54 rfl (Nat.le_of_ble_eq_true rfl) ?_
        show Wx _ _ _ [_, _, _, _] _
        refine r_aload_n 0 h dX1_findPushes_55 rfl rfl ?_
        refine g20_0 h lf_X1_22 dX1_findPushes_56 ?_
        refine g1_2 h lf_X1_69 dX1_findPushes_59 ?_
        refine r_iload_n 1 h dX1_findPushes_62 rfl rfl ?_
        refine alN_4 h (by omega) dX1_findPushes_63 ?_
        show Wx _ _ 64 _ _
        refine r_istore_n 3 h dX1_findPushes_64 rfl (Nat.le_of_ble_eq_true rfl) ?_
        show Wx _ _ _ [_, _, _, _] _
        refine r_aload_n 0 h dX1_findPushes_65 rfl rfl ?_
        refine g20_3 h lf_X1_9 dX1_findPushes_66 ?_
        refine r_iload_n 1 h dX1_findPushes_69 rfl rfl ?_
        refine r_aload_n 0 h dX1_findPushes_70 rfl rfl ?_
        refine r_iload_n 2 h dX1_findPushes_71 rfl rfl ?_
        show Wx _ _ 72 _ _
        refine r_iconst 1 h dX1_findPushes_72 (by decide) ?_
        refine r_iadd h dX1_findPushes_73 ?_
        refine r_iload_n 3 h dX1_findPushes_74 rfl rfl ?_
        refine cV2 h (mX1_wholeSum _ _ _ _ _) kX1_wholeSum lm_X1_72 (by decide) 20 (pl_20 _ _) rfl (Nat.le_of_ble_eq_true rfl) dX1_findPushes_75 ?_
        refine r_aload_n 0 h dX1_findPushes_78 rfl rfl ?_
        refine r_iload_n 2 h dX1_findPushes_79 rfl rfl ?_
        show Wx _ _ 80 _ _
        refine r_iconst 1 h dX1_findPushes_80 (by decide) ?_
        refine r_isub h dX1_findPushes_81 ?_
        refine r_iload_n 3 h dX1_findPushes_82 rfl rfl ?_
        refine cV2 h (mX1_wholeSum _ _ _ _ _) kX1_wholeSum lm_X1_72 (by decide) 20 (pl_20 _ _) rfl (Nat.le_of_ble_eq_true rfl) dX1_findPushes_83 ?_
        refine r_lsub h dX1_findPushes_86 ?_
        refine cS1 h (mX1_pushOf _ _ _ _) kX1_pushOf lm_X1_76 (by decide) (Nat.le_of_ble_eq_true rfl) dX1_findPushes_87 ?_
        show Wx _ _ 90 _ _
        refine asN_21 h (by omega) dX1_findPushes_90 ?_
        refine r_aload_n 0 h dX1_findPushes_91 rfl rfl ?_
        refine g20_4 h lf_X1_15 dX1_findPushes_92 ?_
        refine r_iload_n 1 h dX1_findPushes_95 rfl rfl ?_
        refine r_aload_n 0 h dX1_findPushes_96 rfl rfl ?_
        refine r_iload_n 2 h dX1_findPushes_97 rfl rfl ?_
        show Wx _ _ 98 _ _
        refine r_iload_n 3 h dX1_findPushes_98 rfl rfl ?_
        refine r_iconst 1 h dX1_findPushes_99 (by decide) ?_
        refine r_iadd h dX1_findPushes_100 ?_
        refine cV2 h (mX1_wholeSum _ _ _ _ _) kX1_wholeSum lm_X1_72 (by decide) 20 (pl_20 _ _) rfl (Nat.le_of_ble_eq_true rfl) dX1_findPushes_101 ?_
        refine r_aload_n 0 h dX1_findPushes_104 rfl rfl ?_
        refine r_iload_n 2 h dX1_findPushes_105 rfl rfl ?_
        show Wx _ _ 106 _ _
        refine r_iload_n 3 h dX1_findPushes_106 rfl rfl ?_
        refine r_iconst 1 h dX1_findPushes_107 (by decide) ?_
        refine r_isub h dX1_findPushes_108 ?_
        refine cV2 h (mX1_wholeSum _ _ _ _ _) kX1_wholeSum lm_X1_72 (by decide) 20 (pl_20 _ _) rfl (Nat.le_of_ble_eq_true rfl) dX1_findPushes_109 ?_
        refine r_lsub h dX1_findPushes_112 ?_
        refine cS1 h (mX1_pushOf _ _ _ _) kX1_pushOf lm_X1_76 (by decide) (Nat.le_of_ble_eq_true rfl) dX1_findPushes_113 ?_
        show Wx _ _ 116 _ _
        refine asN_22 h (by omega) dX1_findPushes_116 ?_
        refine r_iincN h dX1_findPushes_117 rfl ?_
        show Wx _ _ _ [_, _, _, _] _
        refine r_goto 27 h dX1_findPushes_120 (by decide) ?_
        first
          | (rw [if_pos c42] at hq; exact hq)
          | (rw [if_neg c42] at hq; exact Wx.weak (lv' := [.ref (aD (xw X) 20), .int (nI (p + 1)), .null, .null]) (And.intro rfl (And.intro rfl trivial)) (hq))
  refine r_aload_n 0 h dX1_findPushes_0 rfl rfl ?_
  refine g20_1 h lf_X1_26 dX1_findPushes_1 ?_
  refine r_iconst 0 h dX1_findPushes_4 (by decide) ?_
  refine r_iconst 0 h dX1_findPushes_5 (by decide) ?_
  refine r_iconst 0 h dX1_findPushes_6 (by decide) ?_
  show Wx _ _ 7 _ _
  refine cV3v h (mX0_gather _ _ _ 0 0 0) kX0_gather lm_X1_44 (by decide) 8 (pl_8 _ _) rfl (Nat.le_of_ble_eq_true rfl) dX1_findPushes_7 ?_
  refine r_aload_n 0 h dX1_findPushes_10 rfl rfl ?_
  refine g20_2 h lf_X1_30 dX1_findPushes_11 ?_
  refine r_aload_n 0 h dX1_findPushes_14 rfl rfl ?_
  refine g20_1 h lf_X1_26 dX1_findPushes_15 ?_
  refine g8_3 h lf_X1_50 dX1_findPushes_18 ?_
  show Wx _ _ 21 _ _
  refine r_iconst 4 h dX1_findPushes_21 (by decide) ?_
  refine cV2v h (mX4_expandTerm _ _ _ 4 (by omega)) kX4_expandTerm lm_X1_54 (by decide) 13 (pl_13 _ _) rfl (Nat.le_of_ble_eq_true rfl) dX1_findPushes_22 ?_
  refine r_iconst 0 h dX1_findPushes_25 (by decide) ?_
  refine r_istore_n 1 h dX1_findPushes_26 rfl (Nat.le_of_ble_eq_true rfl) ?_
  show Wx _ _ _ [_, _, _, _] _
  exact loop 40 0 rfl
set_option maxRecDepth 100000 in
set_option maxHeartbeats 4000000 in
theorem mX1_addPushes (l : Launch) (w : Fx) (S : St) (g : Int32) : Ct l yX1_addPushes cX1_addPushes 3 none 1 w [.ref (aD w 20), .int g] S (fun v S' => v = none ∧ S' = apT S g 40) := by
  refine Ct.of (by decide) (Nat.le_of_ble_eq_true rfl) (fun X h hr hl hw => ?_)
  subst hl hw
  have h : Ok X cX1_addPushes RX1 1 := h
  show Wx X S 0 [.ref (aD (xw X) 20), .int g, .null] []
  have loop : ∀ n p : Nat, p + n = 40 → Wx X (apT S g p) 2 [.ref (aD (xw X) 20), .int g, .int (nI p)] [] := by
    intro n
    induction n with
    | zero =>
      intro p hi
      have hi : p = 40 := by omega
      subst hi
      refine r_iload_n 2 h dX1_addPushes_2 rfl rfl ?_
      refine r_bipush 40 h dX1_addPushes_3 (by decide) ?_
      refine r_icmp_ge_t 78 h dX1_addPushes_5 (by decide) (bigT (a := 40) (by omega) (by omega)) ?_
      exact r_vret h hr dX1_addPushes_78 ⟨rfl, rfl⟩
    | succ n ih =>
      intro p hi
      have hq := ih (p + 1) (by omega)
      rw [apT_s] at hq
      refine r_iload_n 2 h dX1_addPushes_2 rfl rfl ?_
      refine r_bipush 40 h dX1_addPushes_3 (by decide) ?_
      refine r_icmp_ge_f 78 h dX1_addPushes_5 (by decide) (bigF (a := 40) (by omega) (by omega)) ?_
      refine r_aload_n 0 h dX1_addPushes_8 rfl rfl ?_
      refine g20_0 h lf_X1_22 dX1_addPushes_9 ?_
      show Wx _ _ 12 _ _
      refine g1_0 h lf_X1_60 dX1_addPushes_12 ?_
      refine r_iload_n 2 h dX1_addPushes_15 rfl rfl ?_
      refine alN_2 h (by omega) dX1_addPushes_16 ?_
      refine r_if_eq 72 h dX1_addPushes_17 (by decide) (fun c17 => ?_) (fun c17 => ?_)
      · refine r_iincN h dX1_addPushes_72 rfl ?_
        show Wx _ _ _ [_, _, _] _
        refine r_goto 2 h dX1_addPushes_75 (by decide) ?_
        first | (rw [if_pos c17] at hq; exact hq) | (rw [if_neg c17] at hq; exact hq)
      · refine r_aload_n 0 h dX1_addPushes_20 rfl rfl ?_
        refine g20_0 h lf_X1_22 dX1_addPushes_21 ?_
        refine r_iload_n 2 h dX1_addPushes_24 rfl rfl ?_
        refine r_aload_n 0 h dX1_addPushes_25 rfl rfl ?_
        refine g20_0 h lf_X1_22 dX1_addPushes_26 ?_
        show Wx _ _ 29 _ _
        refine g1_4 h lf_X1_97 dX1_addPushes_29 ?_
        refine r_iload_n 2 h dX1_addPushes_32 rfl rfl ?_
        refine alN_6 h (by omega) dX1_addPushes_33 ?_
        refine r_iload_n 1 h dX1_addPushes_34 rfl rfl ?_
        refine r_aload_n 0 h dX1_addPushes_35 rfl rfl ?_
        refine g20_3 h lf_X1_9 dX1_addPushes_36 ?_
        show Wx _ _ 39 _ _
        refine r_iload_n 2 h dX1_addPushes_39 rfl rfl ?_
        refine alN_21 h (by omega) dX1_addPushes_40 ?_
        refine r_imul h dX1_addPushes_41 ?_
        refine r_iadd h dX1_addPushes_42 ?_
        refine r_i2l h dX1_addPushes_43 ?_
        refine cN1 h (mX6_wrapPace _ _ _ _) kX6_wrapPace ln_X1_94 (by decide) (Nat.le_of_ble_eq_true rfl) dX1_addPushes_44 ?_
        show Wx _ _ 47 _ _
        refine r_aload_n 0 h dX1_addPushes_47 rfl rfl ?_
        refine g20_0 h lf_X1_22 dX1_addPushes_48 ?_
        refine g1_5 h lf_X1_100 dX1_addPushes_51 ?_
        refine r_iload_n 2 h dX1_addPushes_54 rfl rfl ?_
        refine alN_7 h (by omega) dX1_addPushes_55 ?_
        refine r_iload_n 1 h dX1_addPushes_56 rfl rfl ?_
        show Wx _ _ 57 _ _
        refine r_aload_n 0 h dX1_addPushes_57 rfl rfl ?_
        refine g20_4 h lf_X1_15 dX1_addPushes_58 ?_
        refine r_iload_n 2 h dX1_addPushes_61 rfl rfl ?_
        refine alN_22 h (by omega) dX1_addPushes_62 ?_
        refine r_imul h dX1_addPushes_63 ?_
        refine r_iadd h dX1_addPushes_64 ?_
        show Wx _ _ 65 _ _
        refine r_i2l h dX1_addPushes_65 ?_
        refine cN1 h (mX6_wrapPace _ _ _ _) kX6_wrapPace ln_X1_94 (by decide) (Nat.le_of_ble_eq_true rfl) dX1_addPushes_66 ?_
        refine cV3v h (mX2_setPace _ _ _ (nI p) _ _ (vin (by omega))) kX2_setPace lm_X1_103 (by decide) 1 (pl_1 _ _) rfl (Nat.le_of_ble_eq_true rfl) dX1_addPushes_69 ?_
        refine r_iincN h dX1_addPushes_72 rfl ?_
        show Wx _ _ _ [_, _, _] _
        refine r_goto 2 h dX1_addPushes_75 (by decide) ?_
        first | (rw [if_pos c17] at hq; exact hq) | (rw [if_neg c17] at hq; exact hq)
  refine r_iconst 0 h dX1_addPushes_0 (by decide) ?_
  refine r_istore_n 2 h dX1_addPushes_1 rfl (Nat.le_of_ble_eq_true rfl) ?_
  show Wx _ _ _ [_, _, _] _
  exact loop 40 0 rfl
set_option maxRecDepth 100000 in
set_option maxHeartbeats 4000000 in
theorem mX1_shiftPlaces (l : Launch) (w : Fx) (S : St) (g : Int32) (hpl : plOk S) : Ct l yX1_shiftPlaces cX1_shiftPlaces 3 none 3 w [.ref (aD w 20), .int g] S (fun v S' => v = none ∧ S' = shT S g 40) := by
  refine Ct.of (by decide) (Nat.le_of_ble_eq_true rfl) (fun X h hr hl hw => ?_)
  subst hl hw
  have h : Ok X cX1_shiftPlaces RX1 3 := h
  show Wx X S 0 [.ref (aD (xw X) 20), .int g, .null] []
  have loop : ∀ n p : Nat, p + n = 40 → Wx X (shT S g p) 2 [.ref (aD (xw X) 20), .int g, .int (nI p)] [] := by
    intro n
    induction n with
    | zero =>
      intro p hi
      have hi : p = 40 := by omega
      subst hi
      refine r_iload_n 2 h dX1_shiftPlaces_2 rfl rfl ?_
      refine r_bipush 40 h dX1_shiftPlaces_3 (by decide) ?_
      refine r_icmp_ge_t 132 h dX1_shiftPlaces_5 (by decide) (bigT (a := 40) (by omega) (by omega)) ?_
      exact r_vret h hr dX1_shiftPlaces_132 ⟨rfl, rfl⟩
    | succ n ih =>
      intro p hi
      have hq := ih (p + 1) (by omega)
      rw [shT_s] at hq
      refine r_iload_n 2 h dX1_shiftPlaces_2 rfl rfl ?_
      refine r_bipush 40 h dX1_shiftPlaces_3 (by decide) ?_
      refine r_icmp_ge_f 132 h dX1_shiftPlaces_5 (by decide) (bigF (a := 40) (by omega) (by omega)) ?_
      refine r_aload_n 0 h dX1_shiftPlaces_8 rfl rfl ?_
      refine g20_0 h lf_X1_22 dX1_shiftPlaces_9 ?_
      show Wx _ _ 12 _ _
      refine g1_0 h lf_X1_60 dX1_shiftPlaces_12 ?_
      refine r_iload_n 2 h dX1_shiftPlaces_15 rfl rfl ?_
      refine alN_2 h (by omega) dX1_shiftPlaces_16 ?_
      refine r_if_eq 126 h dX1_shiftPlaces_17 (by decide) (fun c17 => ?_) (fun c17 => ?_)
      · refine r_iincN h dX1_shiftPlaces_126 rfl ?_
        show Wx _ _ _ [_, _, _] _
        refine r_goto 2 h dX1_shiftPlaces_129 (by decide) ?_
        first | (rw [if_pos c17] at hq; exact hq) | (rw [if_neg c17] at hq; exact hq)
      · obtain ⟨v1, v2⟩ := shT_pl (g := g) hpl p (by omega) p (by omega) c17
        refine r_aload_n 0 h dX1_shiftPlaces_20 rfl rfl ?_
        refine g20_1 h lf_X1_26 dX1_shiftPlaces_21 ?_
        refine r_aload_n 0 h dX1_shiftPlaces_24 rfl rfl ?_
        refine g20_0 h lf_X1_22 dX1_shiftPlaces_25 ?_
        refine g1_1 h lf_X1_66 dX1_shiftPlaces_28 ?_
        show Wx _ _ 31 _ _
        refine r_iload_n 2 h dX1_shiftPlaces_31 rfl rfl ?_
        refine alN_3 h (by omega) dX1_shiftPlaces_32 ?_
        refine r_aload_n 0 h dX1_shiftPlaces_33 rfl rfl ?_
        refine g20_0 h lf_X1_22 dX1_shiftPlaces_34 ?_
        refine g1_2 h lf_X1_69 dX1_shiftPlaces_37 ?_
        refine r_iload_n 2 h dX1_shiftPlaces_40 rfl rfl ?_
        show Wx _ _ 41 _ _
        refine alN_4 h (by omega) dX1_shiftPlaces_41 ?_
        refine cV2v h (mX0_leaveI _ _ _ _ _ v1 v2) kX0_leave lm_X1_106 (by decide) 8 (pl_8 _ _) rfl (Nat.le_of_ble_eq_true rfl) dX1_shiftPlaces_42 ?_
        refine r_aload_n 0 h dX1_shiftPlaces_45 rfl rfl ?_
        refine g20_0 h lf_X1_22 dX1_shiftPlaces_46 ?_
        refine r_iload_n 2 h dX1_shiftPlaces_49 rfl rfl ?_
        refine r_aload_n 0 h dX1_shiftPlaces_50 rfl rfl ?_
        show Wx _ _ 51 _ _
        refine g20_0 h lf_X1_22 dX1_shiftPlaces_51 ?_
        refine g1_1 h lf_X1_66 dX1_shiftPlaces_54 ?_
        refine r_iload_n 2 h dX1_shiftPlaces_57 rfl rfl ?_
        refine alN_3 h (by omega) dX1_shiftPlaces_58 ?_
        refine r_iload_n 1 h dX1_shiftPlaces_59 rfl rfl ?_
        refine r_aload_n 0 h dX1_shiftPlaces_60 rfl rfl ?_
        show Wx _ _ 61 _ _
        refine g20_0 h lf_X1_22 dX1_shiftPlaces_61 ?_
        refine g1_4 h lf_X1_97 dX1_shiftPlaces_64 ?_
        refine r_iload_n 2 h dX1_shiftPlaces_67 rfl rfl ?_
        refine alN_6 h (by omega) dX1_shiftPlaces_68 ?_
        refine r_imul h dX1_shiftPlaces_69 ?_
        refine r_iadd h dX1_shiftPlaces_70 ?_
        show Wx _ _ 71 _ _
        refine cN1 h (mX6_wrapPlace _ _ _ _) kX6_wrapPlace ln_X1_110 (by decide) (Nat.le_of_ble_eq_true rfl) dX1_shiftPlaces_71 ?_
        refine r_aload_n 0 h dX1_shiftPlaces_74 rfl rfl ?_
        refine g20_0 h lf_X1_22 dX1_shiftPlaces_75 ?_
        refine g1_2 h lf_X1_69 dX1_shiftPlaces_78 ?_
        refine r_iload_n 2 h dX1_shiftPlaces_81 rfl rfl ?_
        refine alN_4 h (by omega) dX1_shiftPlaces_82 ?_
        show Wx _ _ 83 _ _
        refine r_iload_n 1 h dX1_shiftPlaces_83 rfl rfl ?_
        refine r_aload_n 0 h dX1_shiftPlaces_84 rfl rfl ?_
        refine g20_0 h lf_X1_22 dX1_shiftPlaces_85 ?_
        refine g1_5 h lf_X1_100 dX1_shiftPlaces_88 ?_
        refine r_iload_n 2 h dX1_shiftPlaces_91 rfl rfl ?_
        refine alN_7 h (by omega) dX1_shiftPlaces_92 ?_
        show Wx _ _ 93 _ _
        refine r_imul h dX1_shiftPlaces_93 ?_
        refine r_iadd h dX1_shiftPlaces_94 ?_
        refine cN1 h (mX6_wrapPlace _ _ _ _) kX6_wrapPlace ln_X1_110 (by decide) (Nat.le_of_ble_eq_true rfl) dX1_shiftPlaces_95 ?_
        refine cV3v h (mX2_put _ _ _ (nI p) _ _ (vin (by omega))) kX2_put lm_X1_114 (by decide) 1 (pl_1 _ _) rfl (Nat.le_of_ble_eq_true rfl) dX1_shiftPlaces_98 ?_
        refine r_aload_n 0 h dX1_shiftPlaces_101 rfl rfl ?_
        refine g20_1 h lf_X1_26 dX1_shiftPlaces_102 ?_
        show Wx _ _ 105 _ _
        refine r_aload_n 0 h dX1_shiftPlaces_105 rfl rfl ?_
        refine g20_0 h lf_X1_22 dX1_shiftPlaces_106 ?_
        refine g1_1 h lf_X1_66 dX1_shiftPlaces_109 ?_
        refine r_iload_n 2 h dX1_shiftPlaces_112 rfl rfl ?_
        refine alN_3 h (by omega) dX1_shiftPlaces_113 ?_
        refine r_aload_n 0 h dX1_shiftPlaces_114 rfl rfl ?_
        show Wx _ _ 115 _ _
        refine g20_0 h lf_X1_22 dX1_shiftPlaces_115 ?_
        refine g1_2 h lf_X1_69 dX1_shiftPlaces_118 ?_
        refine r_iload_n 2 h dX1_shiftPlaces_121 rfl rfl ?_
        refine alN_4 h (by omega) dX1_shiftPlaces_122 ?_
        refine cV2v h (mX0_enterI _ _ _ _ _ (shQ_in (T := shT S g p) (g := g) (show p < 40 by omega)).1 (shQ_in (T := shT S g p) (g := g) (show p < 40 by omega)).2) kX0_enter lm_X1_117 (by decide) 8 (pl_8 _ _) rfl (Nat.le_of_ble_eq_true rfl) dX1_shiftPlaces_123 ?_
        refine r_iincN h dX1_shiftPlaces_126 rfl ?_
        show Wx _ _ _ [_, _, _] _
        show Wx _ _ 129 _ _
        refine r_goto 2 h dX1_shiftPlaces_129 (by decide) ?_
        first | (rw [if_pos c17] at hq; exact hq) | (rw [if_neg c17] at hq; exact hq)
  refine r_iconst 0 h dX1_shiftPlaces_0 (by decide) ?_
  refine r_istore_n 2 h dX1_shiftPlaces_1 rfl (Nat.le_of_ble_eq_true rfl) ?_
  show Wx _ _ _ [_, _, _] _
  exact loop 40 0 rfl
set_option maxRecDepth 100000 in
set_option maxHeartbeats 4000000 in
theorem mX1_forth (l : Launch) (w : Fx) (S : St) (hpl : plOk S) : Ct l yX1_forth cX1_forth 1 none 5 w [.ref (aD w 20)] S (fun v S' => v = none ∧ S' = fthS S) := by
  refine Ct.of (by decide) (Nat.le_of_ble_eq_true rfl) (fun X h hr hl hw => ?_)
  subst hl hw
  have h : Ok X cX1_forth RX1 5 := h
  show Wx X S 0 [.ref (aD (xw X) 20)] []
  refine r_aload_n 0 h dX1_forth_0 rfl rfl ?_
  refine cV0v h (mX1_findPushes _ _ _) kX1_findPushes lm_X1_34 (by decide) 20 (pl_20 _ _) rfl (Nat.le_of_ble_eq_true rfl) dX1_forth_1 ?_
  refine r_aload_n 0 h dX1_forth_4 rfl rfl ?_
  refine r_iconst 1 h dX1_forth_5 (by decide) ?_
  refine cV1v h (mX1_addPushes _ _ _ 1) kX1_addPushes lm_X1_37 (by decide) 20 (pl_20 _ _) rfl (Nat.le_of_ble_eq_true rfl) dX1_forth_6 ?_
  show Wx _ _ 9 _ _
  refine r_aload_n 0 h dX1_forth_9 rfl rfl ?_
  refine r_iconst 1 h dX1_forth_10 (by decide) ?_
  refine cV1v h (mX1_shiftPlaces _ _ _ 1 (plOk_of ((apT_ne (by decide) (by decide) 40).trans (fp_ne (by decide) (by decide) (by decide))) ((apT_ne (by decide) (by decide) 40).trans (fp_ne (by decide) (by decide) (by decide))) ((apT_ne (by decide) (by decide) 40).trans (fp_ne (by decide) (by decide) (by decide))) hpl)) kX1_shiftPlaces lm_X1_41 (by decide) 20 (pl_20 _ _) rfl (Nat.le_of_ble_eq_true rfl) dX1_forth_11 ?_
  refine r_aload_n 0 h dX1_forth_14 rfl rfl ?_
  refine r_dup h dX1_forth_15 rfl ?_
  refine g20_5 h lf_X1_18 dX1_forth_16 ?_
  show Wx _ _ 19 _ _
  refine r_iconst 1 h dX1_forth_19 (by decide) ?_
  refine r_iadd h dX1_forth_20 ?_
  refine p20_5 h lf_X1_18 dX1_forth_21 ?_
  exact r_vret h hr dX1_forth_24 ⟨rfl, rfl⟩
set_option maxRecDepth 100000 in
set_option maxHeartbeats 4000000 in
theorem mX1_back (l : Launch) (w : Fx) (S : St) (hpl : plOk S) : Ct l yX1_back cX1_back 1 none 5 w [.ref (aD w 20)] S (fun v S' => v = none ∧ S' = bckS S) := by
  refine Ct.of (by decide) (Nat.le_of_ble_eq_true rfl) (fun X h hr hl hw => ?_)
  subst hl hw
  have h : Ok X cX1_back RX1 5 := h
  show Wx X S 0 [.ref (aD (xw X) 20)] []
  refine r_aload_n 0 h dX1_back_0 rfl rfl ?_
  refine r_iconst (-1) h dX1_back_1 (by decide) ?_
  refine cV1v h (mX1_shiftPlaces _ _ _ (-1) hpl) kX1_shiftPlaces lm_X1_41 (by decide) 20 (pl_20 _ _) rfl (Nat.le_of_ble_eq_true rfl) dX1_back_2 ?_
  refine r_aload_n 0 h dX1_back_5 rfl rfl ?_
  refine cV0v h (mX1_findPushes _ _ _) kX1_findPushes lm_X1_34 (by decide) 20 (pl_20 _ _) rfl (Nat.le_of_ble_eq_true rfl) dX1_back_6 ?_
  show Wx _ _ 9 _ _
  refine r_aload_n 0 h dX1_back_9 rfl rfl ?_
  refine r_iconst (-1) h dX1_back_10 (by decide) ?_
  refine cV1v h (mX1_addPushes _ _ _ (-1)) kX1_addPushes lm_X1_37 (by decide) 20 (pl_20 _ _) rfl (Nat.le_of_ble_eq_true rfl) dX1_back_11 ?_
  refine r_aload_n 0 h dX1_back_14 rfl rfl ?_
  refine r_dup h dX1_back_15 rfl ?_
  refine g20_5 h lf_X1_18 dX1_back_16 ?_
  show Wx _ _ 19 _ _
  refine r_iconst 1 h dX1_back_19 (by decide) ?_
  refine r_isub h dX1_back_20 ?_
  refine p20_5 h lf_X1_18 dX1_back_21 ?_
  exact r_vret h hr dX1_back_24 ⟨rfl, rfl⟩
