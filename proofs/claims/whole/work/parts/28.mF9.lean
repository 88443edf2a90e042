/-- THE WAY's POINTS are numbers of POINTS -/
def trOk (S : St) : Prop := ∃ n : Nat, n ≤ 40 ∧ S.1 13 0 = nI n ∧ ∀ k : Nat, k < n → S.1 10 k = -1 → vp_in (S.1 11 k) 40
theorem tr_len {S : St} (h : trOk S) : lenOk S := by
  obtain ⟨n, h1, h2, -⟩ := h
  exact ⟨n, h1, h2⟩
theorem notS_tr {S : St} {a b c : Int32} (h : trOk S) (hb : a = -1 → vp_in b 40) : trOk (notS S a b c) := by
  unfold notS
  by_cases q : (40 : Int32) ≤ S.1 13 0
  · rw [if_pos q]; exact h
  · rw [if_neg q]
    obtain ⟨n, hn, e, hk⟩ := h
    have h40 : n < 40 := by
      rcases Nat.lt_or_ge n 40 with z | z
      · omega
      · exact absurd (by rw [e]; exact nI_le (a := 40) z (by omega)) q
    have ec : (S.1 13 0).toNatClampNeg = n := by rw [e]; exact ncl (by omega)
    rw [ec]
    refine ⟨n + 1, by omega, ?_, ?_⟩
    · rw [sI_eq, upd_eq, e, nI_1]
    · intro k hk2
      rw [sI_ne (by decide), sI_ne (by decide), sI_ne (by decide), sI_eq, sI_ne (by decide), sI_ne (by decide), sI_eq, sI_ne (by decide)]
      by_cases z : k = n
      · subst z; rw [upd_eq, upd_eq]; exact hb
      · rw [upd_ne z, upd_ne z]; exact hk k (by omega)
theorem npS_tr {S : St} {l i j : Int32} (h : trOk S) : ∀ p, p ≤ 40 → trOk (npS S l i j p)
  | 0, _ => h
  | p + 1, hp => by
    rw [npS_s]
    split
    · exact npS_tr h p (by omega)
    · exact notS_tr (npS_tr h p (by omega)) (fun _ => vin (by omega))
theorem nI_m1 {n : Nat} (h : n < 2 ^ 31) : ¬ nI n = -1 := by
  intro z
  have h1 := nI_pos h
  rw [z] at h1
  exact h1 (by decide)
theorem visS_tr : ∀ (d : Nat) {S : St} {l i j : Nat}, l + d ≤ 6 → trOk S → trOk (visS d S l i j)
  | 0, _, _, _, _, _, h => h
  | d + 1, S, l, i, j, hl, h => by
    rw [visS_s]
    split
    · exact h
    split
    · exact h
    split
    · split
      · exact npS_tr h 40 (by omega)
      · exact visS_tr d (by omega) (visS_tr d (by omega) (visS_tr d (by omega) (visS_tr d (by omega) h)))
    · exact notS_tr h (fun z => absurd z (nI_m1 (by omega)))
theorem trc_tr (S : St) (x y t : Int32) : trOk (trcS S x y t) := visS_tr 6 (by omega) ⟨0, by omega, rfl, fun k hk => absurd hk (by omega)⟩
def tmT (T : St) (k o : Nat) : St := etS (gatS T (T.1 10 k) (T.1 11 k) (T.1 12 k)) o
def tmV (T : St) (k : Nat) (x y : Int32) (o : Nat) : Int64 := valP ((tmT T k o).2 2) (frmI x (T.1 10 k) ((tmT T k o).1 11 k)).toInt64 (frmI y (T.1 10 k) ((tmT T k o).1 12 k)).toInt64
def edG (T : St) (k : Nat) : St := gatS T (T.1 10 k) (T.1 11 k) (T.1 12 k)
def edT (T : St) (k o : Nat) : St := eeS (edG T k) ((edG T k).1 9 0).toInt64 (sideI (T.1 10 k) - 1) o
def edV (T : St) (k : Nat) (x y : Int32) (o : Nat) : Int64 := valP ((edT T k o).2 2) (absI (frmI x (T.1 10 k) ((edT T k o).1 11 k))).toInt64 (absI (frmI y (T.1 10 k) ((edT T k o).1 12 k))).toInt64
def abT (S : St) (o : Nat) : Nat → St
  | 0 => S
  | i + 1 => if (abT S o i).1 10 i = -1 then abT S o i else tmT (abT S o i) i o
def abV (S : St) (x y : Int32) (o : Nat) : Nat → Int64
  | 0 => 0
  | i + 1 => if (abT S o i).1 10 i = -1 then abV S x y o i + pulL (abT S o i) ((abT S o i).1 11 i) x y else abV S x y o i + tmV (abT S o i) i x y o
def weT (S : St) (o : Nat) : Nat → St
  | 0 => S
  | i + 1 => if (weT S o i).1 10 i = -1 then weT S o i else edT (weT S o i) i o
def weV (S : St) (x y : Int32) (o : Nat) : Nat → Int64
  | 0 => 0
  | i + 1 => if (weT S o i).1 10 i = -1 then weV S x y o i else weV S x y o i + edV (weT S o i) i x y o
theorem abT_s {S : St} {o i : Nat} : abT S o (i + 1) = if (abT S o i).1 10 i = -1 then abT S o i else tmT (abT S o i) i o := rfl
theorem abV_s {S : St} {x y : Int32} {o i : Nat} : abV S x y o (i + 1) = if (abT S o i).1 10 i = -1 then abV S x y o i + pulL (abT S o i) ((abT S o i).1 11 i) x y else abV S x y o i + tmV (abT S o i) i x y o := rfl
theorem weT_s {S : St} {o i : Nat} : weT S o (i + 1) = if (weT S o i).1 10 i = -1 then weT S o i else edT (weT S o i) i o := rfl
theorem weV_s {S : St} {x y : Int32} {o i : Nat} : weV S x y o (i + 1) = if (weT S o i).1 10 i = -1 then weV S x y o i else weV S x y o i + edV (weT S o i) i x y o := rfl
theorem tm_ne {T : St} {k o a : Nat} (h : a ≠ 9) : (tmT T k o).1 a = T.1 a := by
  unfold tmT
  rw [et_I]; exact gat_ne h
theorem ed_ne {T : St} {k o a : Nat} (h : a ≠ 9) : (edT T k o).1 a = T.1 a := by
  unfold edT edG
  rw [ee_I]; exact gat_ne h
theorem abT_ne {S : St} {o a : Nat} (h : a ≠ 9) : ∀ i, (abT S o i).1 a = S.1 a
  | 0 => rfl
  | i + 1 => by
    rw [abT_s]
    split
    · exact abT_ne h i
    · rw [tm_ne h]; exact abT_ne h i
theorem weT_ne {S : St} {o a : Nat} (h : a ≠ 9) : ∀ i, (weT S o i).1 a = S.1 a
  | 0 => rfl
  | i + 1 => by
    rw [weT_s]
    split
    · exact weT_ne h i
    · rw [ed_ne h]; exact weT_ne h i
def trN (S : St) : Nat := (S.1 13 0).toNatClampNeg
def acR (S : St) (x y q t v : Int32) : Int64 := if plcI x y = 0 then -9000000000000000000 else if q < 0 then -9000000000000000000 else if 4 < q then -9000000000000000000 else if dstI t = 0 then -9000000000000000000 else if v = 0 then abV (trcS S x y t) x y q.toNatClampNeg (trN (trcS S x y t)) else if v = 1 then weV (trcS S x y t) x y q.toNatClampNeg (trN (trcS S x y t)) else if v = 2 then ((trcS S x y t).1 13 0).toInt64 else -9000000000000000000
def acT (S : St) (x y q t v : Int32) : St := if plcI x y = 0 then S else if q < 0 then S else if 4 < q then S else if dstI t = 0 then S else if v = 0 then abT (trcS S x y t) q.toNatClampNeg (trN (trcS S x y t)) else if v = 1 then weT (trcS S x y t) q.toNatClampNeg (trN (trcS S x y t)) else trcS S x y t
def orV (x y : Int32) (e : Int64) : Nat → Nat → St → Int32
  | 0, _, _ => 4
  | n + 1, o, S => if e < weV S x y o (trN S) then orV x y e n (o + 1) (weT S o (trN S)) else nI o
def orS (x y : Int32) (e : Int64) : Nat → Nat → St → St
  | 0, _, S => S
  | n + 1, o, S => if e < weV S x y o (trN S) then orS x y e n (o + 1) (weT S o (trN S)) else weT S o (trN S)
theorem orV_s {x y : Int32} {e : Int64} {n o : Nat} {S : St} : orV x y e (n + 1) o S = if e < weV S x y o (trN S) then orV x y e n (o + 1) (weT S o (trN S)) else nI o := rfl
theorem orS_s {x y : Int32} {e : Int64} {n o : Nat} {S : St} : orS x y e (n + 1) o S = if e < weV S x y o (trN S) then orS x y e n (o + 1) (weT S o (trN S)) else weT S o (trN S) := rfl
def odR (S : St) (x y t : Int32) (e : Int64) : Int32 := if plcI x y = 0 then -2 else if dstI t = 0 then -2 else if 0 ≤ e then orV x y e 4 0 (trcS S x y t) else -2
def odT (S : St) (x y t : Int32) (e : Int64) : St := if plcI x y = 0 then S else if dstI t = 0 then S else if 0 ≤ e then orS x y e 4 0 (trcS S x y t) else S
def wyR (S : St) (x y t k q : Int32) : Int32 := if plcI x y = 0 then -2 else if dstI t = 0 then -2 else if k < 0 then -2 else if q < 0 then -2 else if q ≤ 2 then rdI (trcS S x y t) k q else -2
def wyT (S : St) (x y t k q : Int32) : St := if plcI x y = 0 then S else if dstI t = 0 then S else if k < 0 then S else if q < 0 then S else if q ≤ 2 then trcS S x y t else S
theorem tr_of {S T : St} (h : ∀ a, a ≠ 9 → T.1 a = S.1 a) (hS : trOk S) : trOk T := by
  obtain ⟨n, h1, h2, h3⟩ := hS
  refine ⟨n, h1, by rw [h 13 (by decide)]; exact h2, ?_⟩
  intro k hk
  rw [h 10 (by decide), h 11 (by decide)]
  exact h3 k hk
def itr (f : St → St) : Nat → St → St
  | 0, S => S
  | k + 1, S => f (itr f k S)
theorem fth_pl {S : St} (h : plOk S) : plOk (fthS S) := by
  have h1 : plOk (apT (fpS S) 1 40) := plOk_of ((apT_ne (by decide) (by decide) 40).trans (fp_ne (by decide) (by decide) (by decide))) ((apT_ne (by decide) (by decide) 40).trans (fp_ne (by decide) (by decide) (by decide))) ((apT_ne (by decide) (by decide) 40).trans (fp_ne (by decide) (by decide) (by decide))) h
  have h2 := shT_pl (g := 1) h1 40 (by omega)
  unfold fthS
  exact plOk_of (sI_ne (by decide)) (sI_ne (by decide)) (sI_ne (by decide)) h2
theorem bck_pl {S : St} (h : plOk S) : plOk (bckS S) := by
  have h2 := shT_pl (g := -1) h 40 (by omega)
  unfold bckS
  refine plOk_of (sI_ne (by decide)) (sI_ne (by decide)) (sI_ne (by decide)) ?_
  exact plOk_of ((apT_ne (by decide) (by decide) 40).trans (fp_ne (by decide) (by decide) (by decide))) ((apT_ne (by decide) (by decide) 40).trans (fp_ne (by decide) (by decide) (by decide))) ((apT_ne (by decide) (by decide) 40).trans (fp_ne (by decide) (by decide) (by decide))) h2
theorem itf_pl {S : St} (h : plOk S) : ∀ k, plOk (itr fthS k S)
  | 0 => h
  | k + 1 => fth_pl (itf_pl h k)
theorem itb_pl {S : St} (h : plOk S) : ∀ k, plOk (itr bckS k S)
  | 0 => h
  | k + 1 => bck_pl (itb_pl h k)
def spT (S : St) (n : Int32) : St := if n = 0 then S else if n < -8 then S else if n ≤ 8 then (if n < 0 then itr bckS (-n).toNatClampNeg S else itr fthS n.toNatClampNeg S) else S
def spR (S : St) (n : Int32) : Int32 := if n = 0 then -2 else if n < -8 then -2 else if n ≤ 8 then (spT S n).1 19 0 else -2
theorem neg_at {n : Int32} (h1 : ¬ n < -8) (h2 : n < 0) : ∃ k : Nat, 1 ≤ k ∧ k ≤ 8 ∧ n = -nI k := by
  have a1 : -8 ≤ n.toInt := by
    have := Int32.le_iff_toInt_le.mp (Int32.not_lt.mp h1)
    simpa using this
  have a2 : n.toInt < 0 := Int32.lt_iff_toInt_lt.mp h2
  refine ⟨(-n.toInt).toNat, by omega, by omega, ?_⟩
  apply Int32.toInt_inj.mp
  rw [sb_negT (by omega)]
  omega
theorem neg_1 (i : Nat) : -nI i + (-1) = -nI (i + 1) := by
  rw [← nI_1, Int32.neg_add, Int32.sub_eq_add_neg]
theorem nle_T {a b : Nat} (ha : a < 2 ^ 31) (hb : b < 2 ^ 31) (h : b ≤ a) : -nI a ≤ -nI b := (sb_nle ha hb).mpr h
theorem nle_F {a b : Nat} (ha : a < 2 ^ 31) (hb : b < 2 ^ 31) (h : a < b) : ¬ -nI a ≤ -nI b := fun z => absurd ((sb_nle ha hb).mp z) (by omega)
def dcV (S : St) : Nat → Int64
  | 0 => 151
  | i + 1 => 31 * dcV S i + (cnI S (nI i)).toInt64
def dqV (S : St) (p : Nat) (v : Int64) : Nat → Int64
  | 0 => v
  | q + 1 => 31 * dqV S p v q + (readI S (nI p) (nI q)).toInt64
def dpV (S : St) (v : Int64) : Nat → Int64
  | 0 => v
  | p + 1 => if S.1 0 p = 0 then dpV S v p else dqV S p (31 * dpV S v p + (nI p).toInt64) 5
theorem dpV_s {S : St} {v : Int64} {p : Nat} : dpV S v (p + 1) = if S.1 0 p = 0 then dpV S v p else dqV S p (31 * dpV S v p + (nI p).toInt64) 5 := rfl
def dfB (S : St) (a : Nat) (v : Int64) : Nat → Int64
  | 0 => v
  | b + 1 => 31 * dfB S a v b + S.2 1 (a * 5 + b)
def dfA (S : St) (v : Int64) : Nat → Int64
  | 0 => v
  | a + 1 => dfB S a (dfA S v a) (5 - a)
def dmV (S : St) (v : Int64) (l i j : Int32) : Int64 := 31 * (31 * (31 * v + (gatS S l i j).2 0 (0 * 5 + 0)) + (gatS S l i j).2 0 (1 * 5 + 0)) + (gatS S l i j).2 0 (0 * 5 + 1)
def dbI (T : St × Int64) (l j : Nat) : Nat → St × Int64
  | 0 => T
  | i + 1 => if thrI (dbI T l j i).1 (nI l) (nI i) (nI j) = 0 then dbI T l j i else (gatS (dbI T l j i).1 (nI l) (nI i) (nI j), dmV (dbI T l j i).1 (dbI T l j i).2 (nI l) (nI i) (nI j))
def dbJ (T : St × Int64) (l : Nat) : Nat → St × Int64
  | 0 => T
  | j + 1 => dbI (dbJ T l j) l j (2 ^ l)
def dbL (T : St × Int64) : Nat → St × Int64
  | 0 => T
  | l + 1 => dbJ (dbL T l) l (2 ^ l)
theorem dbI_s {T : St × Int64} {l j i : Nat} : dbI T l j (i + 1) = if thrI (dbI T l j i).1 (nI l) (nI i) (nI j) = 0 then dbI T l j i else (gatS (dbI T l j i).1 (nI l) (nI i) (nI j), dmV (dbI T l j i).1 (dbI T l j i).2 (nI l) (nI i) (nI j)) := rfl
theorem dbJ_s {T : St × Int64} {l j : Nat} : dbJ T l (j + 1) = dbI (dbJ T l j) l j (2 ^ l) := rfl
theorem dbL_s {T : St × Int64} {l : Nat} : dbL T (l + 1) = dbJ (dbL T l) l (2 ^ l) := rfl
def dgH (S : St) : Int64 := 31 * dfA S (dpV S (dcV S 6) 40) 5 + (S.1 8 0).toInt64
def dgR (S : St) : Int64 := (dbL (S, dgH S) 6).2
def dgT (S : St) : St := (dbL (S, dgH S) 6).1
set_option maxRecDepth 100000 in
set_option maxHeartbeats 4000000 in
theorem mX6_termOf (l : Launch) (w : Fx) (S : St) (k : Nat) (x y : Int32) (o : Nat) (hk : k < 40) (ho : o ≤ 4) : Ct l yX6_termOf cX6_termOf 6 (some .long) 4 w [.ref (aD w 0), .int (nI k), .int x, .int y, .int (nI o)] S (fun v S' => v = some (.long (tmV S k x y o)) ∧ S' = tmT S k o) := by
  refine Ct.of (by decide) (Nat.le_of_ble_eq_true rfl) (fun X h hr hl hw => ?_)
  subst hl hw
  have h : Ok X cX6_termOf RX6 4 := h
  show Wx X S 0 [.ref (aD (xw X) 0), .int (nI k), .int x, .int y, .int (nI o), .null] []
  refine r_aload_n 0 h dX6_termOf_0 rfl rfl ?_
  refine g0_4 h lf_X6_50 dX6_termOf_1 ?_
  refine g16_2 h lf_X6_231 dX6_termOf_4 ?_
  refine r_iload_n 1 h dX6_termOf_7 rfl rfl ?_
  refine alN_17 h (by omega) dX6_termOf_8 ?_
  show Wx _ _ 9 _ _
  refine r_istore h dX6_termOf_9 (Nat.le_of_ble_eq_true rfl) ?_
  show Wx _ _ _ [_, _, _, _, _, _] _
  refine r_aload_n 0 h dX6_termOf_11 rfl rfl ?_
  refine g0_1 h lf_X6_21 dX6_termOf_12 ?_
  refine r_iload h dX6_termOf_15 rfl ?_
  refine r_aload_n 0 h dX6_termOf_17 rfl rfl ?_
  refine g0_4 h lf_X6_50 dX6_termOf_18 ?_
  show Wx _ _ 21 _ _
  refine g16_3 h lf_X6_234 dX6_termOf_21 ?_
  refine r_iload_n 1 h dX6_termOf_24 rfl rfl ?_
  refine alN_18 h (by omega) dX6_termOf_25 ?_
  refine r_aload_n 0 h dX6_termOf_26 rfl rfl ?_
  refine g0_4 h lf_X6_50 dX6_termOf_27 ?_
  refine g16_4 h lf_X6_244 dX6_termOf_30 ?_
  show Wx _ _ 33 _ _
  refine r_iload_n 1 h dX6_termOf_33 rfl rfl ?_
  refine alN_19 h (by omega) dX6_termOf_34 ?_
  refine cV3v h (mX0_gather _ _ _ _ _ _) kX0_gather lm_X6_165 (by decide) 8 (pl_8 _ _) rfl (Nat.le_of_ble_eq_true rfl) dX6_termOf_35 ?_
  refine r_aload_n 0 h dX6_termOf_38 rfl rfl ?_
  refine g0_3 h lf_X6_41 dX6_termOf_39 ?_
  refine r_aload_n 0 h dX6_termOf_42 rfl rfl ?_
  show Wx _ _ 43 _ _
  refine g0_1 h lf_X6_21 dX6_termOf_43 ?_
  refine g8_3 h lf_X6_174 dX6_termOf_46 ?_
  refine r_iload h dX6_termOf_49 rfl ?_
  refine cV2v h (mX4_expandTerm _ _ _ o ho) kX4_expandTerm lm_X6_247 (by decide) 13 (pl_13 _ _) rfl (Nat.le_of_ble_eq_true rfl) dX6_termOf_51 ?_
  show Wx _ (tmT S k o) _ _ _
  refine r_aload_n 0 h dX6_termOf_54 rfl rfl ?_
  refine g0_3 h lf_X6_41 dX6_termOf_55 ?_
  show Wx _ _ 58 _ _
  refine g13_1 h lf_X6_251 dX6_termOf_58 ?_
  refine r_iload_n 2 h dX6_termOf_61 rfl rfl ?_
  refine r_iload h dX6_termOf_62 rfl ?_
  refine r_aload_n 0 h dX6_termOf_64 rfl rfl ?_
  refine g0_4 h lf_X6_50 dX6_termOf_65 ?_
  refine g16_3 h lf_X6_234 dX6_termOf_68 ?_
  show Wx _ _ 71 _ _
  refine r_iload_n 1 h dX6_termOf_71 rfl rfl ?_
  refine alN_18 h (by omega) dX6_termOf_72 ?_
  refine cS3 h (mX6_fromMiddle _ _ _ x _ _) kX6_fromMiddle lm_X6_254 (by decide) (Nat.le_of_ble_eq_true rfl) dX6_termOf_73 ?_
  refine r_i2l h dX6_termOf_76 ?_
  refine r_iload_n 3 h dX6_termOf_77 rfl rfl ?_
  refine r_iload h dX6_termOf_78 rfl ?_
  show Wx _ _ 80 _ _
  refine r_aload_n 0 h dX6_termOf_80 rfl rfl ?_
  refine g0_4 h lf_X6_50 dX6_termOf_81 ?_
  refine g16_4 h lf_X6_244 dX6_termOf_84 ?_
  refine r_iload_n 1 h dX6_termOf_87 rfl rfl ?_
  refine alN_19 h (by omega) dX6_termOf_88 ?_
  refine cS3 h (mX6_fromMiddle _ _ _ y _ _) kX6_fromMiddle lm_X6_254 (by decide) (Nat.le_of_ble_eq_true rfl) dX6_termOf_89 ?_
  show Wx _ _ 92 _ _
  refine r_i2l h dX6_termOf_92 ?_
  refine cV2 h (mX3_valueAt14 _ _ _ _ _) kX3_valueAt lm_X6_227 (by decide) 14 (pl_14 _ _) rfl (Nat.le_of_ble_eq_true rfl) dX6_termOf_93 ?_
  exact r_lret h hr dX6_termOf_96 ⟨rfl, rfl⟩
set_option maxRecDepth 100000 in
set_option maxHeartbeats 4000000 in
theorem mX6_endOf (l : Launch) (w : Fx) (S : St) (k : Nat) (x y : Int32) (o : Nat) (hk : k < 40) (ho : o ≤ 4) : Ct l yX6_endOf cX6_endOf 6 (some .long) 4 w [.ref (aD w 0), .int (nI k), .int x, .int y, .int (nI o)] S (fun v S' => v = some (.long (edV S k x y o)) ∧ S' = edT S k o) := by
  refine Ct.of (by decide) (Nat.le_of_ble_eq_true rfl) (fun X h hr hl hw => ?_)
  subst hl hw
  have h : Ok X cX6_endOf RX6 4 := h
  show Wx X S 0 [.ref (aD (xw X) 0), .int (nI k), .int x, .int y, .int (nI o), .null] []
  refine r_aload_n 0 h dX6_endOf_0 rfl rfl ?_
  refine g0_4 h lf_X6_50 dX6_endOf_1 ?_
  refine g16_2 h lf_X6_231 dX6_endOf_4 ?_
  refine r_iload_n 1 h dX6_endOf_7 rfl rfl ?_
  refine alN_17 h (by omega) dX6_endOf_8 ?_
  show Wx _ _ 9 _ _
  refine r_istore h dX6_endOf_9 (Nat.le_of_ble_eq_true rfl) ?_
  show Wx _ _ _ [_, _, _, _, _, _] _
  refine r_aload_n 0 h dX6_endOf_11 rfl rfl ?_
  refine g0_1 h lf_X6_21 dX6_endOf_12 ?_
  refine r_iload h dX6_endOf_15 rfl ?_
  refine r_aload_n 0 h dX6_endOf_17 rfl rfl ?_
  refine g0_4 h lf_X6_50 dX6_endOf_18 ?_
  show Wx _ _ 21 _ _
  refine g16_3 h lf_X6_234 dX6_endOf_21 ?_
  refine r_iload_n 1 h dX6_endOf_24 rfl rfl ?_
  refine alN_18 h (by omega) dX6_endOf_25 ?_
  refine r_aload_n 0 h dX6_endOf_26 rfl rfl ?_
  refine g0_4 h lf_X6_50 dX6_endOf_27 ?_
  refine g16_4 h lf_X6_244 dX6_endOf_30 ?_
  show Wx _ _ 33 _ _
  refine r_iload_n 1 h dX6_endOf_33 rfl rfl ?_
  refine alN_19 h (by omega) dX6_endOf_34 ?_
  refine cV3v h (mX0_gather _ _ _ _ _ _) kX0_gather lm_X6_165 (by decide) 8 (pl_8 _ _) rfl (Nat.le_of_ble_eq_true rfl) dX6_endOf_35 ?_
  show Wx _ (edG S k) _ _ _
  refine r_aload_n 0 h dX6_endOf_38 rfl rfl ?_
  refine g0_3 h lf_X6_41 dX6_endOf_39 ?_
  refine r_aload_n 0 h dX6_endOf_42 rfl rfl ?_
  show Wx _ _ 43 _ _
  refine g0_1 h lf_X6_21 dX6_endOf_43 ?_
  refine g8_4 h lf_X6_168 dX6_endOf_46 ?_
  refine r_i2l h dX6_endOf_49 ?_
  refine r_iload h dX6_endOf_50 rfl ?_
  refine cS1 h (mX6_sideOf _ _ _ _) kX6_sideOf lm_X6_257 (by decide) (Nat.le_of_ble_eq_true rfl) dX6_endOf_52 ?_
  refine r_iconst 1 h dX6_endOf_55 (by decide) ?_
  show Wx _ _ 56 _ _
  refine r_isub h dX6_endOf_56 ?_
  refine r_iload h dX6_endOf_57 rfl ?_
  refine cV3v h (mX4_expandEnd _ _ _ _ _ o ho) kX4_expandEnd lm_X6_260 (by decide) 13 (pl_13 _ _) rfl (Nat.le_of_ble_eq_true rfl) dX6_endOf_59 ?_
  show Wx _ (edT S k o) _ _ _
  refine r_aload_n 0 h dX6_endOf_62 rfl rfl ?_
  refine g0_3 h lf_X6_41 dX6_endOf_63 ?_
  refine g13_1 h lf_X6_251 dX6_endOf_66 ?_
  show Wx _ _ 69 _ _
  refine r_iload_n 2 h dX6_endOf_69 rfl rfl ?_
  refine r_iload h dX6_endOf_70 rfl ?_
  refine r_aload_n 0 h dX6_endOf_72 rfl rfl ?_
  refine g0_4 h lf_X6_50 dX6_endOf_73 ?_
  refine g16_3 h lf_X6_234 dX6_endOf_76 ?_
  refine r_iload_n 1 h dX6_endOf_79 rfl rfl ?_
  show Wx _ _ 80 _ _
  refine alN_18 h (by omega) dX6_endOf_80 ?_
  refine cS3 h (mX6_fromMiddle _ _ _ x _ _) kX6_fromMiddle lm_X6_254 (by decide) (Nat.le_of_ble_eq_true rfl) dX6_endOf_81 ?_
  refine r_absI h lm_X6_264 (by decide) (Nat.le_of_ble_eq_true rfl) dX6_endOf_84 ?_
  refine r_i2l h dX6_endOf_87 ?_
  refine r_iload_n 3 h dX6_endOf_88 rfl rfl ?_
  refine r_iload h dX6_endOf_89 rfl ?_
  show Wx _ _ 91 _ _
  refine r_aload_n 0 h dX6_endOf_91 rfl rfl ?_
  refine g0_4 h lf_X6_50 dX6_endOf_92 ?_
  refine g16_4 h lf_X6_244 dX6_endOf_95 ?_
  refine r_iload_n 1 h dX6_endOf_98 rfl rfl ?_
  refine alN_19 h (by omega) dX6_endOf_99 ?_
  refine cS3 h (mX6_fromMiddle _ _ _ y _ _) kX6_fromMiddle lm_X6_254 (by decide) (Nat.le_of_ble_eq_true rfl) dX6_endOf_100 ?_
  show Wx _ _ 103 _ _
  refine r_absI h lm_X6_264 (by decide) (Nat.le_of_ble_eq_true rfl) dX6_endOf_103 ?_
  refine r_i2l h dX6_endOf_106 ?_
  refine cV2 h (mX3_valueAt14 _ _ _ _ _) kX3_valueAt lm_X6_227 (by decide) 14 (pl_14 _ _) rfl (Nat.le_of_ble_eq_true rfl) dX6_endOf_107 ?_
  exact r_lret h hr dX6_endOf_110 ⟨rfl, rfl⟩
set_option maxRecDepth 100000 in
set_option maxHeartbeats 4000000 in
theorem mX6_about (l : Launch) (w : Fx) (S : St) (x y : Int32) (o : Nat) (ho : o ≤ 4) (htr : trOk S) : Ct l yX6_about cX6_about 7 (some .long) 5 w [.ref (aD w 0), .int x, .int y, .int (nI o)] S (fun v S' => v = some (.long (abV S x y o (trN S))) ∧ S' = abT S o (trN S)) := by
  refine Ct.of (by decide) (Nat.le_of_ble_eq_true rfl) (fun X h hr hl hw => ?_)
  subst hl hw
  have h : Ok X cX6_about RX6 5 := h
  show Wx X S 0 [.ref (aD (xw X) 0), .int x, .int y, .int (nI o), .null, .null, .null] []
  obtain ⟨n0, hn0, e0, hk0⟩ := id htr
  have en : trN S = n0 := by unfold trN; rw [e0]; exact ncl (by omega)
  rw [en] at hr
  have loop : ∀ n i : Nat, i + n = n0 → Wx X (abT S o i) 6 [.ref (aD (xw X) 0), .int x, .int y, .int (nI o), .long (abV S x y o i), .null, .int (nI i)] [] := by
    intro n
    induction n with
    | zero =>
      intro i hi
      have hi : i = n0 := by omega
      subst hi
      refine r_iload h dX6_about_6 rfl ?_
      refine r_aload_n 0 h dX6_about_8 rfl rfl ?_
      refine g0_4 h lf_X6_50 dX6_about_9 ?_
      refine g16_5 h lf_X6_153 dX6_about_12 ?_
      refine r_icmp_ge_t 76 h dX6_about_15 (by decide) (by rw [abT_ne (by decide), e0]; exact bigT (by omega) (by omega)) ?_
      show Wx _ _ 76 _ _
      refine r_lload h dX6_about_76 rfl ?_
      exact r_lret h hr dX6_about_78 ⟨rfl, rfl⟩
    | succ n ih =>
      intro i hi
      have hq := ih (i + 1) (by omega)
      rw [abT_s, abV_s] at hq
      refine r_iload h dX6_about_6 rfl ?_
      refine r_aload_n 0 h dX6_about_8 rfl rfl ?_
      refine g0_4 h lf_X6_50 dX6_about_9 ?_
      refine g16_5 h lf_X6_153 dX6_about_12 ?_
      refine r_icmp_ge_f 76 h dX6_about_15 (by decide) (by rw [abT_ne (by decide), e0]; exact bigF (by omega) (by omega)) ?_
      show Wx _ _ 18 _ _
      refine r_aload_n 0 h dX6_about_18 rfl rfl ?_
      refine g0_4 h lf_X6_50 dX6_about_19 ?_
      refine g16_2 h lf_X6_231 dX6_about_22 ?_
      refine r_iload h dX6_about_25 rfl ?_
      refine alN_17 h (by omega) dX6_about_27 ?_
      refine r_iconst (-1) h dX6_about_28 (by decide) ?_
      show Wx _ _ 29 _ _
      refine r_icmp_ne 56 h dX6_about_29 (by decide) (fun c29 => ?_) (fun c29 => ?_)
      · refine r_lload h dX6_about_56 rfl ?_
        refine r_aload_n 0 h dX6_about_58 rfl rfl ?_
        refine r_iload h dX6_about_59 rfl ?_
        refine r_iload_n 1 h dX6_about_61 rfl rfl ?_
        refine r_iload_n 2 h dX6_about_62 rfl rfl ?_
        show Wx _ _ 63 _ _
        refine r_iload_n 3 h dX6_about_63 rfl rfl ?_
        refine cV4 h (mX6_termOf _ _ _ i x y o (by omega) ho) kX6_termOf lm_X6_237 (by decide) 0 (pl_0 _ _) rfl (Nat.le_of_ble_eq_true rfl) dX6_about_64 ?_
        refine r_ladd h dX6_about_67 ?_
        refine r_lstore h dX6_about_68 (Nat.le_of_ble_eq_true rfl) ?_
        show Wx _ _ _ [_, _, _, _, _, _, _] _
        refine r_iincN h dX6_about_70 rfl ?_
        show Wx _ _ _ [_, _, _, _, _, _, _] _
        refine r_goto 6 h dX6_about_73 (by decide) ?_
        first | (rw [if_pos c29, if_pos c29] at hq; exact hq) | (rw [if_neg c29, if_neg c29] at hq; exact hq)
      · refine r_lload h dX6_about_32 rfl ?_
        refine r_aload_n 0 h dX6_about_34 rfl rfl ?_
        refine r_aload_n 0 h dX6_about_35 rfl rfl ?_
        refine g0_4 h lf_X6_50 dX6_about_36 ?_
        refine g16_3 h lf_X6_234 dX6_about_39 ?_
        show Wx _ _ 42 _ _
        refine r_iload h dX6_about_42 rfl ?_
        refine alN_18 h (by omega) dX6_about_44 ?_
        refine r_iload_n 1 h dX6_about_45 rfl rfl ?_
        refine r_iload_n 2 h dX6_about_46 rfl rfl ?_
        refine cV3 h (mX6_pullOf _ _ _ _ x y (by rw [abT_ne (by decide)]; exact hk0 i (by omega) (by rw [← abT_ne (S := S) (o := o) (show 10 ≠ 9 by decide) i]; exact c29))) kX6_pullOf lm_X6_137 (by decide) 0 (pl_0 _ _) rfl (Nat.le_of_ble_eq_true rfl) dX6_about_47 ?_
        refine r_ladd h dX6_about_50 ?_
        show Wx _ _ 51 _ _
        refine r_lstore h dX6_about_51 (Nat.le_of_ble_eq_true rfl) ?_
        show Wx _ _ _ [_, _, _, _, _, _, _] _
        refine r_goto 70 h dX6_about_53 (by decide) ?_
        refine r_iincN h dX6_about_70 rfl ?_
        show Wx _ _ _ [_, _, _, _, _, _, _] _
        refine r_goto 6 h dX6_about_73 (by decide) ?_
        first | (rw [if_pos c29, if_pos c29] at hq; exact hq) | (rw [if_neg c29, if_neg c29] at hq; exact hq)
  refine r_lconst 0 h dX6_about_0 (by decide) ?_
  refine r_lstore h dX6_about_1 (Nat.le_of_ble_eq_true rfl) ?_
  show Wx _ _ _ [_, _, _, _, _, _, _] _
  refine r_iconst 0 h dX6_about_3 (by decide) ?_
  refine r_istore h dX6_about_4 (Nat.le_of_ble_eq_true rfl) ?_
  show Wx _ _ _ [_, _, _, _, _, _, _] _
  exact loop n0 0 (by omega)
set_option maxRecDepth 100000 in
set_option maxHeartbeats 4000000 in
theorem mX6_wholeEnd (l : Launch) (w : Fx) (S : St) (x y : Int32) (o : Nat) (ho : o ≤ 4) (htr : trOk S) : Ct l yX6_wholeEnd cX6_wholeEnd 7 (some .long) 5 w [.ref (aD w 0), .int x, .int y, .int (nI o)] S (fun v S' => v = some (.long (weV S x y o (trN S))) ∧ S' = weT S o (trN S)) := by
  refine Ct.of (by decide) (Nat.le_of_ble_eq_true rfl) (fun X h hr hl hw => ?_)
  subst hl hw
  have h : Ok X cX6_wholeEnd RX6 5 := h
  show Wx X S 0 [.ref (aD (xw X) 0), .int x, .int y, .int (nI o), .null, .null, .null] []
  obtain ⟨n0, hn0, e0, hk0⟩ := id htr
  have en : trN S = n0 := by unfold trN; rw [e0]; exact ncl (by omega)
  rw [en] at hr
  have loop : ∀ n i : Nat, i + n = n0 → Wx X (weT S o i) 6 [.ref (aD (xw X) 0), .int x, .int y, .int (nI o), .long (weV S x y o i), .null, .int (nI i)] [] := by
    intro n
    induction n with
    | zero =>
      intro i hi
      have hi : i = n0 := by omega
      subst hi
      refine r_iload h dX6_wholeEnd_6 rfl ?_
      refine r_aload_n 0 h dX6_wholeEnd_8 rfl rfl ?_
      refine g0_4 h lf_X6_50 dX6_wholeEnd_9 ?_
      refine g16_5 h lf_X6_153 dX6_wholeEnd_12 ?_
      refine r_icmp_ge_t 52 h dX6_wholeEnd_15 (by decide) (by rw [weT_ne (by decide), e0]; exact bigT (by omega) (by omega)) ?_
      show Wx _ _ 52 _ _
      refine r_lload h dX6_wholeEnd_52 rfl ?_
      exact r_lret h hr dX6_wholeEnd_54 ⟨rfl, rfl⟩
    | succ n ih =>
      intro i hi
      have hq := ih (i + 1) (by omega)
      rw [weT_s, weV_s] at hq
      refine r_iload h dX6_wholeEnd_6 rfl ?_
      refine r_aload_n 0 h dX6_wholeEnd_8 rfl rfl ?_
      refine g0_4 h lf_X6_50 dX6_wholeEnd_9 ?_
      refine g16_5 h lf_X6_153 dX6_wholeEnd_12 ?_
      refine r_icmp_ge_f 52 h dX6_wholeEnd_15 (by decide) (by rw [weT_ne (by decide), e0]; exact bigF (by omega) (by omega)) ?_
      show Wx _ _ 18 _ _
      refine r_aload_n 0 h dX6_wholeEnd_18 rfl rfl ?_
      refine g0_4 h lf_X6_50 dX6_wholeEnd_19 ?_
      refine g16_2 h lf_X6_231 dX6_wholeEnd_22 ?_
      refine r_iload h dX6_wholeEnd_25 rfl ?_
      refine alN_17 h (by omega) dX6_wholeEnd_27 ?_
      refine r_iconst (-1) h dX6_wholeEnd_28 (by decide) ?_
      show Wx _ _ 29 _ _
      refine r_icmp_eq 46 h dX6_wholeEnd_29 (by decide) (fun c29 => ?_) (fun c29 => ?_)
      · refine r_iincN h dX6_wholeEnd_46 rfl ?_
        show Wx _ _ _ [_, _, _, _, _, _, _] _
        refine r_goto 6 h dX6_wholeEnd_49 (by decide) ?_
        first | (rw [if_pos c29, if_pos c29] at hq; exact hq) | (rw [if_neg c29, if_neg c29] at hq; exact hq)
      · refine r_lload h dX6_wholeEnd_32 rfl ?_
        refine r_aload_n 0 h dX6_wholeEnd_34 rfl rfl ?_
        refine r_iload h dX6_wholeEnd_35 rfl ?_
        refine r_iload_n 1 h dX6_wholeEnd_37 rfl rfl ?_
        refine r_iload_n 2 h dX6_wholeEnd_38 rfl rfl ?_
        show Wx _ _ 39 _ _
        refine r_iload_n 3 h dX6_wholeEnd_39 rfl rfl ?_
        refine cV4 h (mX6_endOf _ _ _ i x y o (by omega) ho) kX6_endOf lm_X6_241 (by decide) 0 (pl_0 _ _) rfl (Nat.le_of_ble_eq_true rfl) dX6_wholeEnd_40 ?_
        refine r_ladd h dX6_wholeEnd_43 ?_
        refine r_lstore h dX6_wholeEnd_44 (Nat.le_of_ble_eq_true rfl) ?_
        show Wx _ _ _ [_, _, _, _, _, _, _] _
        refine r_iincN h dX6_wholeEnd_46 rfl ?_
        show Wx _ _ _ [_, _, _, _, _, _, _] _
        refine r_goto 6 h dX6_wholeEnd_49 (by decide) ?_
        first | (rw [if_pos c29, if_pos c29] at hq; exact hq) | (rw [if_neg c29, if_neg c29] at hq; exact hq)
  refine r_lconst 0 h dX6_wholeEnd_0 (by decide) ?_
  refine r_lstore h dX6_wholeEnd_1 (Nat.le_of_ble_eq_true rfl) ?_
  show Wx _ _ _ [_, _, _, _, _, _, _] _
  refine r_iconst 0 h dX6_wholeEnd_3 (by decide) ?_
  refine r_istore h dX6_wholeEnd_4 (Nat.le_of_ble_eq_true rfl) ?_
  show Wx _ _ _ [_, _, _, _, _, _, _] _
  exact loop n0 0 (by omega)
set_option maxRecDepth 100000 in
set_option maxHeartbeats 4000000 in
theorem mX6_across (l : Launch) (w : Fx) (S : St) (x y q t z : Int32) : Ct l yX6_across cX6_across 6 (some .long) 11 w [.ref (aD w 0), .int x, .int y, .int q, .int t, .int z] S (fun v S' => v = some (.long (acR S x y q t z)) ∧ S' = acT S x y q t z) := by
  refine Ct.of (by decide) (Nat.le_of_ble_eq_true rfl) (fun X h hr hl hw => ?_)
  subst hl hw
  have h : Ok X cX6_across RX6 11 := h
  show Wx X S 0 [.ref (aD (xw X) 0), .int x, .int y, .int q, .int t, .int z] []
  refine r_iload_n 1 h dX6_across_0 rfl rfl ?_
  refine r_iload_n 2 h dX6_across_1 rfl rfl ?_
  refine cS2 h (mX6_isPlace _ _ _ x y) kX6_isPlace lm_X6_63 (by decide) (Nat.le_of_ble_eq_true rfl) dX6_across_2 ?_
  refine r_if_eq 25 h dX6_across_5 (by decide) (fun c5 => ?_) (fun c5 => ?_)
  · refine r_ldc2 h lc_X6_131 dX6_across_25 ?_
    exact r_lret h hr dX6_across_28 ⟨by simp only [acR, c5, ite_true, ite_false, if_true, if_false, not_true, not_false_iff], by simp only [acT, c5, ite_true, ite_false, if_true, if_false, not_true, not_false_iff]⟩
  · refine r_iload_n 3 h dX6_across_8 rfl rfl ?_
    refine r_if_lt 25 h dX6_across_9 (by decide) (fun c9 => ?_) (fun c9 => ?_)
    · refine r_ldc2 h lc_X6_131 dX6_across_25 ?_
      exact r_lret h hr dX6_across_28 ⟨by simp only [acR, c5, c9, ite_true, ite_false, if_true, if_false, not_true, not_false_iff], by simp only [acT, c5, c9, ite_true, ite_false, if_true, if_false, not_true, not_false_iff]⟩
    · refine r_iload_n 3 h dX6_across_12 rfl rfl ?_
      refine r_iconst 4 h dX6_across_13 (by decide) ?_
      refine r_icmp_gt 25 h dX6_across_14 (by decide) (fun c14 => ?_) (fun c14 => ?_)
      · refine r_ldc2 h lc_X6_131 dX6_across_25 ?_
        exact r_lret h hr dX6_across_28 ⟨by simp only [acR, c5, c9, c14, ite_true, ite_false, if_true, if_false, not_true, not_false_iff], by simp only [acT, c5, c9, c14, ite_true, ite_false, if_true, if_false, not_true, not_false_iff]⟩
      · refine r_iload h dX6_across_17 rfl ?_
        refine cS1 h (mX6_isDistance _ _ _ t) kX6_isDistance lm_X6_141 (by decide) (Nat.le_of_ble_eq_true rfl) dX6_across_19 ?_
        refine r_if_ne 29 h dX6_across_22 (by decide) (fun c22 => ?_) (fun c22 => ?_)
        · refine r_aload_n 0 h dX6_across_29 rfl rfl ?_
          refine g0_4 h lf_X6_50 dX6_across_30 ?_
          refine r_iload_n 1 h dX6_across_33 rfl rfl ?_
          refine r_iload_n 2 h dX6_across_34 rfl rfl ?_
          refine r_iload h dX6_across_35 rfl ?_
          show Wx _ _ 37 _ _
          refine cV3v h (mX5_trace _ _ _ x y t) kX5_trace lm_X6_144 (by decide) 16 (pl_16 _ _) rfl (Nat.le_of_ble_eq_true rfl) dX6_across_37 ?_
          refine r_iload h dX6_across_40 rfl ?_
          refine r_sw3 93 68 76 84 h dX6_across_42 (by decide) (by decide) (by decide) (by decide)  (fun c42 => ?_) (fun c42 => ?_) (fun c42 => ?_) (fun c42 => ?_) 
          · refine r_ldc2 h lc_X6_131 dX6_across_93 ?_
            exact r_lret h hr dX6_across_96 ⟨by rw [acR, if_neg c5, if_neg c9, if_neg c14, if_neg c22, if_neg (q3_out c42).1, if_neg (q3_out c42).2.1, if_neg (q3_out c42).2.2], by rw [acT, if_neg c5, if_neg c9, if_neg c14, if_neg c22, if_neg (q3_out c42).1, if_neg (q3_out c42).2.1]⟩
          · obtain ⟨k, hk, rfl⟩ := nI_of2 (M := 4) (n := 4) (by decide) c9 (Int32.not_lt.mp c14)
            subst c42
            refine r_aload_n 0 h dX6_across_68 rfl rfl ?_
            refine r_iload_n 1 h dX6_across_69 rfl rfl ?_
            refine r_iload_n 2 h dX6_across_70 rfl rfl ?_
            refine r_iload_n 3 h dX6_across_71 rfl rfl ?_
            refine cV3 h (mX6_about _ _ _ x y k hk (trc_tr _ _ _ _)) kX6_about lm_X6_147 (by decide) 0 (pl_0 _ _) rfl (Nat.le_of_ble_eq_true rfl) dX6_across_72 ?_
            show Wx _ _ 75 _ _
            exact r_lret h hr dX6_across_75 ⟨by rw [acR, if_neg c5, if_neg c9, if_neg c14, if_neg c22, if_pos rfl, ncl (by omega)], by rw [acT, if_neg c5, if_neg c9, if_neg c14, if_neg c22, if_pos rfl, ncl (by omega)]⟩
          · obtain ⟨k, hk, rfl⟩ := nI_of2 (M := 4) (n := 4) (by decide) c9 (Int32.not_lt.mp c14)
            subst c42
            refine r_aload_n 0 h dX6_across_76 rfl rfl ?_
            refine r_iload_n 1 h dX6_across_77 rfl rfl ?_
            refine r_iload_n 2 h dX6_across_78 rfl rfl ?_
            refine r_iload_n 3 h dX6_across_79 rfl rfl ?_
            refine cV3 h (mX6_wholeEnd _ _ _ x y k hk (trc_tr _ _ _ _)) kX6_wholeEnd lm_X6_150 (by decide) 0 (pl_0 _ _) rfl (Nat.le_of_ble_eq_true rfl) dX6_across_80 ?_
            show Wx _ _ 83 _ _
            exact r_lret h hr dX6_across_83 ⟨by rw [acR, if_neg c5, if_neg c9, if_neg c14, if_neg c22, if_neg (by decide), if_pos rfl, ncl (by omega)], by rw [acT, if_neg c5, if_neg c9, if_neg c14, if_neg c22, if_neg (by decide), if_pos rfl, ncl (by omega)]⟩
          · refine r_aload_n 0 h dX6_across_84 rfl rfl ?_
            refine g0_4 h lf_X6_50 dX6_across_85 ?_
            refine g16_5 h lf_X6_153 dX6_across_88 ?_
            refine r_i2l h dX6_across_91 ?_
            exact r_lret h hr dX6_across_92 ⟨by rw [acR, if_neg c5, if_neg c9, if_neg c14, if_neg c22, if_neg (by rw [c42]; decide), if_neg (by rw [c42]; decide), if_pos c42], by rw [acT, if_neg c5, if_neg c9, if_neg c14, if_neg c22, if_neg (by rw [c42]; decide), if_neg (by rw [c42]; decide)]⟩
        · refine r_ldc2 h lc_X6_131 dX6_across_25 ?_
          exact r_lret h hr dX6_across_28 ⟨by simp only [acR, c5, c9, c14, c22, ite_true, ite_false, if_true, if_false, not_true, not_false_iff], by simp only [acT, c5, c9, c14, c22, ite_true, ite_false, if_true, if_false, not_true, not_false_iff]⟩
set_option maxRecDepth 100000 in
set_option maxHeartbeats 4000000 in
theorem mX6_order (l : Launch) (w : Fx) (S : St) (x y t : Int32) (e : Int64) : Ct l yX6_order cX6_order 7 (some .int) 11 w [.ref (aD w 0), .int x, .int y, .int t, .long e] S (fun v S' => v = some (.int (odR S x y t e)) ∧ S' = odT S x y t e) := by
  refine Ct.of (by decide) (Nat.le_of_ble_eq_true rfl) (fun X h hr hl hw => ?_)
  subst hl hw
  have h : Ok X cX6_order RX6 11 := h
  show Wx X S 0 [.ref (aD (xw X) 0), .int x, .int y, .int t, .long e, .null, .null] []
  have loop : ¬ plcI x y = 0 → ¬ dstI t = 0 → 0 ≤ e → ∀ (n o : Nat) (T : St), o + n = 4 → trOk T → orV x y e n o T = orV x y e 4 0 (trcS S x y t) → orS x y e n o T = orS x y e 4 0 (trcS S x y t) → Wx X T 38 [.ref (aD (xw X) 0), .int x, .int y, .int t, .long e, .null, .int (nI o)] [] := by
    intro h1 h2 h3 n
    induction n with
    | zero =>
      intro o T hi htr e1 e2
      have hi : o = 4 := by omega
      subst hi
      refine r_iload h dX6_order_38 rfl ?_
      refine r_iconst 4 h dX6_order_40 (by decide) ?_
      refine r_icmp_ge_t 67 h dX6_order_41 (by decide) (bigT (a := 4) (by omega) (by omega)) ?_
      refine r_iconst 4 h dX6_order_67 (by decide) ?_
      exact r_iret h hr dX6_order_68 ⟨by rw [odR, if_neg h1, if_neg h2, if_pos h3, ← e1]; rfl, by rw [odT, if_neg h1, if_neg h2, if_pos h3, ← e2]; rfl⟩
    | succ n ih =>
      intro o T hi htr e1 e2
      rw [orV_s (n := n) (o := o)] at e1
      rw [orS_s (n := n) (o := o)] at e2
      refine r_iload h dX6_order_38 rfl ?_
      refine r_iconst 4 h dX6_order_40 (by decide) ?_
      refine r_icmp_ge_f 67 h dX6_order_41 (by decide) (bigF (a := 4) (by omega) (by omega)) ?_
      refine r_aload_n 0 h dX6_order_44 rfl rfl ?_
      refine r_iload_n 1 h dX6_order_45 rfl rfl ?_
      show Wx _ _ 46 _ _
      refine r_iload_n 2 h dX6_order_46 rfl rfl ?_
      refine r_iload h dX6_order_47 rfl ?_
      refine cV3 h (mX6_wholeEnd _ _ _ x y o (by omega) htr) kX6_wholeEnd lm_X6_150 (by decide) 0 (pl_0 _ _) rfl (Nat.le_of_ble_eq_true rfl) dX6_order_49 ?_
      refine r_lload h dX6_order_52 rfl ?_
      refine r_lc_gt 61 h dX6_order_54 dX6_order_55 (by decide) (fun c54 => ?_) (fun c54 => ?_)
      · refine r_iincN h dX6_order_61 rfl ?_
        show Wx _ _ _ [_, _, _, _, _, _, _] _
        refine r_goto 38 h dX6_order_64 (by decide) ?_
        exact ih (o + 1) _ (by omega) (tr_of (fun a ha => weT_ne ha _) htr) (by rw [← e1, if_pos c54]) (by rw [← e2, if_pos c54])
      · refine r_iload h dX6_order_58 rfl ?_
        exact r_iret h hr dX6_order_60 ⟨by rw [odR, if_neg h1, if_neg h2, if_pos h3, ← e1, if_neg c54], by rw [odT, if_neg h1, if_neg h2, if_pos h3, ← e2, if_neg c54]⟩
  refine r_iload_n 1 h dX6_order_0 rfl rfl ?_
  refine r_iload_n 2 h dX6_order_1 rfl rfl ?_
  refine cS2 h (mX6_isPlace _ _ _ x y) kX6_isPlace lm_X6_63 (by decide) (Nat.le_of_ble_eq_true rfl) dX6_order_2 ?_
  refine r_if_eq 22 h dX6_order_5 (by decide) (fun c5 => ?_) (fun c5 => ?_)
  · refine r_bipush (-2) h dX6_order_22 (by decide) ?_
    exact r_iret h hr dX6_order_24 ⟨by simp only [odR, c5, ite_true, ite_false, if_true, if_false, not_true, not_false_iff], by simp only [odT, c5, ite_true, ite_false, if_true, if_false, not_true, not_false_iff]⟩
  · refine r_iload_n 3 h dX6_order_8 rfl rfl ?_
    refine cS1 h (mX6_isDistance _ _ _ t) kX6_isDistance lm_X6_141 (by decide) (Nat.le_of_ble_eq_true rfl) dX6_order_9 ?_
    refine r_if_eq 22 h dX6_order_12 (by decide) (fun c12 => ?_) (fun c12 => ?_)
    · refine r_bipush (-2) h dX6_order_22 (by decide) ?_
      exact r_iret h hr dX6_order_24 ⟨by simp only [odR, c5, c12, ite_true, ite_false, if_true, if_false, not_true, not_false_iff], by simp only [odT, c5, c12, ite_true, ite_false, if_true, if_false, not_true, not_false_iff]⟩
    · refine r_lload h dX6_order_15 rfl ?_
      refine r_lconst 0 h dX6_order_17 (by decide) ?_
      refine r_lc_ge 25 h dX6_order_18 dX6_order_19 (by decide) (fun c18 => ?_) (fun c18 => ?_)
      · refine r_aload_n 0 h dX6_order_25 rfl rfl ?_
        refine g0_4 h lf_X6_50 dX6_order_26 ?_
        refine r_iload_n 1 h dX6_order_29 rfl rfl ?_
        refine r_iload_n 2 h dX6_order_30 rfl rfl ?_
        refine r_iload_n 3 h dX6_order_31 rfl rfl ?_
        show Wx _ _ 32 _ _
        refine cV3v h (mX5_trace _ _ _ x y t) kX5_trace lm_X6_144 (by decide) 16 (pl_16 _ _) rfl (Nat.le_of_ble_eq_true rfl) dX6_order_32 ?_
        refine r_iconst 0 h dX6_order_35 (by decide) ?_
        refine r_istore h dX6_order_36 (Nat.le_of_ble_eq_true rfl) ?_
        show Wx _ _ _ [_, _, _, _, _, _, _] _
        exact loop c5 c12 c18 4 0 _ rfl (trc_tr _ _ _ _) rfl rfl
      · refine r_bipush (-2) h dX6_order_22 (by decide) ?_
        exact r_iret h hr dX6_order_24 ⟨by simp only [odR, c5, c12, c18, ite_true, ite_false, if_true, if_false, not_true, not_false_iff], by simp only [odT, c5, c12, c18, ite_true, ite_false, if_true, if_false, not_true, not_false_iff]⟩
set_option maxRecDepth 100000 in
set_option maxHeartbeats 4000000 in
theorem mX6_way (l : Launch) (w : Fx) (S : St) (x y t k q : Int32) : Ct l yX6_way cX6_way 6 (some .int) 11 w [.ref (aD w 0), .int x, .int y, .int t, .int k, .int q] S (fun v S' => v = some (.int (wyR S x y t k q)) ∧ S' = wyT S x y t k q) := by
  refine Ct.of (by decide) (Nat.le_of_ble_eq_true rfl) (fun X h hr hl hw => ?_)
  subst hl hw
  have h : Ok X cX6_way RX6 11 := h
  show Wx X S 0 [.ref (aD (xw X) 0), .int x, .int y, .int t, .int k, .int q] []
  refine r_iload_n 1 h dX6_way_0 rfl rfl ?_
  refine r_iload_n 2 h dX6_way_1 rfl rfl ?_
  refine cS2 h (mX6_isPlace _ _ _ x y) kX6_isPlace lm_X6_63 (by decide) (Nat.le_of_ble_eq_true rfl) dX6_way_2 ?_
  refine r_if_eq 31 h dX6_way_5 (by decide) (fun c5 => ?_) (fun c5 => ?_)
  · refine r_bipush (-2) h dX6_way_31 (by decide) ?_
    exact r_iret h hr dX6_way_33 ⟨by simp only [wyR, c5, ite_true, ite_false, if_true, if_false, not_true, not_false_iff], by simp only [wyT, c5, ite_true, ite_false, if_true, if_false, not_true, not_false_iff]⟩
  · refine r_iload_n 3 h dX6_way_8 rfl rfl ?_
    refine cS1 h (mX6_isDistance _ _ _ t) kX6_isDistance lm_X6_141 (by decide) (Nat.le_of_ble_eq_true rfl) dX6_way_9 ?_
    refine r_if_eq 31 h dX6_way_12 (by decide) (fun c12 => ?_) (fun c12 => ?_)
    · refine r_bipush (-2) h dX6_way_31 (by decide) ?_
      exact r_iret h hr dX6_way_33 ⟨by simp only [wyR, c5, c12, ite_true, ite_false, if_true, if_false, not_true, not_false_iff], by simp only [wyT, c5, c12, ite_true, ite_false, if_true, if_false, not_true, not_false_iff]⟩
    · refine r_iload h dX6_way_15 rfl ?_
      refine r_if_lt 31 h dX6_way_17 (by decide) (fun c17 => ?_) (fun c17 => ?_)
      · refine r_bipush (-2) h dX6_way_31 (by decide) ?_
        exact r_iret h hr dX6_way_33 ⟨by simp only [wyR, c5, c12, c17, ite_true, ite_false, if_true, if_false, not_true, not_false_iff], by simp only [wyT, c5, c12, c17, ite_true, ite_false, if_true, if_false, not_true, not_false_iff]⟩
      · refine r_iload h dX6_way_20 rfl ?_
        refine r_if_lt 31 h dX6_way_22 (by decide) (fun c22 => ?_) (fun c22 => ?_)
        · refine r_bipush (-2) h dX6_way_31 (by decide) ?_
          exact r_iret h hr dX6_way_33 ⟨by simp only [wyR, c5, c12, c17, c22, ite_true, ite_false, if_true, if_false, not_true, not_false_iff], by simp only [wyT, c5, c12, c17, c22, ite_true, ite_false, if_true, if_false, not_true, not_false_iff]⟩
        · refine r_iload h dX6_way_25 rfl ?_
          refine r_iconst 2 h dX6_way_27 (by decide) ?_
          refine r_icmp_le 34 h dX6_way_28 (by decide) (fun c28 => ?_) (fun c28 => ?_)
          · refine r_aload_n 0 h dX6_way_34 rfl rfl ?_
            refine g0_4 h lf_X6_50 dX6_way_35 ?_
            refine r_iload_n 1 h dX6_way_38 rfl rfl ?_
            refine r_iload_n 2 h dX6_way_39 rfl rfl ?_
            refine r_iload_n 3 h dX6_way_40 rfl rfl ?_
            show Wx _ _ 41 _ _
            refine cV3v h (mX5_trace _ _ _ x y t) kX5_trace lm_X6_144 (by decide) 16 (pl_16 _ _) rfl (Nat.le_of_ble_eq_true rfl) dX6_way_41 ?_
            refine r_aload_n 0 h dX6_way_44 rfl rfl ?_
            refine g0_4 h lf_X6_50 dX6_way_45 ?_
            refine r_iload h dX6_way_48 rfl ?_
            refine r_iload h dX6_way_50 rfl ?_
            refine cV2 h (mX5_read _ _ _ k q (trc_ok _ _ _ _)) kX5_read lm_X6_156 (by decide) 16 (pl_16 _ _) rfl (Nat.le_of_ble_eq_true rfl) dX6_way_52 ?_
            show Wx _ _ 55 _ _
            exact r_iret h hr dX6_way_55 ⟨by simp only [wyR, c5, c12, c17, c22, c28, ite_true, ite_false, if_true, if_false, not_true, not_false_iff], by simp only [wyT, c5, c12, c17, c22, c28, ite_true, ite_false, if_true, if_false, not_true, not_false_iff]⟩
          · refine r_bipush (-2) h dX6_way_31 (by decide) ?_
            exact r_iret h hr dX6_way_33 ⟨by simp only [wyR, c5, c12, c17, c22, c28, ite_true, ite_false, if_true, if_false, not_true, not_false_iff], by simp only [wyT, c5, c12, c17, c22, c28, ite_true, ite_false, if_true, if_false, not_true, not_false_iff]⟩
set_option maxRecDepth 100000 in
set_option maxHeartbeats 4000000 in
theorem mX6_step (l : Launch) (w : Fx) (S : St) (n : Int32) (hpl : plOk S) : Ct l yX6_step cX6_step 3 (some .int) 6 w [.ref (aD w 0), .int n] S (fun v S' => v = some (.int (spR S n)) ∧ S' = spT S n) := by
  refine Ct.of (by decide) (Nat.le_of_ble_eq_true rfl) (fun X h hr hl hw => ?_)
  subst hl hw
  have h : Ok X cX6_step RX6 6 := h
  show Wx X S 0 [.ref (aD (xw X) 0), .int n, .null] []
  have up : ∀ k : Nat, 1 ≤ k → k ≤ 8 → n = nI k → Wx X S 19 [.ref (aD (xw X) 0), .int n, .null] [] := by
    intro k hk1 hk8 en
    subst en
    have loop : ∀ n i : Nat, i + n = k → Wx X (itr fthS i S) 21 [.ref (aD (xw X) 0), .int (nI k), .int (nI i)] [] := by
      intro n
      induction n with
      | zero =>
        intro i hi
        have hi : i = k := by omega
        subst hi
        have q1 : ¬ nI i = 0 := nI_ne0 (by omega) (by omega)
        have q2 : ¬ nI i < -8 := fun z => nI_pos (n := i) (by omega) (Int32.lt_trans z (by decide))
        have q3 : nI i ≤ 8 := nI_le (b := 8) (by omega) (by decide)
        refine r_iload_n 2 h dX6_step_21 rfl rfl ?_
        refine r_iload_n 1 h dX6_step_22 rfl rfl ?_
        refine r_icmp_ge_t 39 h dX6_step_23 (by decide) (bigT (by omega) (by omega)) ?_
        refine r_iconst 0 h dX6_step_39 (by decide) ?_
        refine r_istore_n 2 h dX6_step_40 rfl (Nat.le_of_ble_eq_true rfl) ?_
        show Wx _ _ _ [_, _, _] _
        show Wx _ _ 41 _ _
        refine r_iload_n 2 h dX6_step_41 rfl rfl ?_
        refine r_iload_n 1 h dX6_step_42 rfl rfl ?_
        refine r_icmp_le_t 59 h dX6_step_43 (by decide) (nI_le (a := 0) (by omega) (by omega)) ?_
        refine r_aload_n 0 h dX6_step_59 rfl rfl ?_
        refine g0_5 h lf_X6_59 dX6_step_60 ?_
        refine g20_5 h lf_X6_193 dX6_step_63 ?_
        show Wx _ _ 66 _ _
        exact r_iret h hr dX6_step_66 ⟨by rw [spR, if_neg q1, if_neg q2, if_pos q3, spT, if_neg q1, if_neg q2, if_pos q3, if_neg (nI_pos (by omega)), ncl (by omega)], by rw [spT, if_neg q1, if_neg q2, if_pos q3, if_neg (nI_pos (by omega)), ncl (by omega)]⟩
      | succ n ih =>
        intro i hi
        have hq := ih (i + 1) (by omega)
        refine r_iload_n 2 h dX6_step_21 rfl rfl ?_
        refine r_iload_n 1 h dX6_step_22 rfl rfl ?_
        refine r_icmp_ge_f 39 h dX6_step_23 (by decide) (bigF (by omega) (by omega)) ?_
        refine r_aload_n 0 h dX6_step_26 rfl rfl ?_
        refine g0_5 h lf_X6_59 dX6_step_27 ?_
        show Wx _ _ 30 _ _
        refine cV0v h (mX1_forth _ _ _ (itf_pl hpl i)) kX1_forth lm_X6_187 (by decide) 20 (pl_20 _ _) rfl (Nat.le_of_ble_eq_true rfl) dX6_step_30 ?_
        refine r_iincN h dX6_step_33 rfl ?_
        show Wx _ _ _ [_, _, _] _
        refine r_goto 21 h dX6_step_36 (by decide) ?_
        exact hq
    refine r_iconst 0 h dX6_step_19 (by decide) ?_
    refine r_istore_n 2 h dX6_step_20 rfl (Nat.le_of_ble_eq_true rfl) ?_
    show Wx _ _ _ [_, _, _] _
    exact loop k 0 (by omega)
  have down : ∀ k : Nat, 1 ≤ k → k ≤ 8 → n = -nI k → Wx X S 19 [.ref (aD (xw X) 0), .int n, .null] [] := by
    intro k hk1 hk8 en
    subst en
    have q4 : -nI k < 0 := (sb_nlt (a := k) (b := 0) (by omega) (by omega)).mpr (by omega)
    have loop : ∀ n i : Nat, i + n = k → Wx X (itr bckS i S) 41 [.ref (aD (xw X) 0), .int (-nI k), .int (-nI i)] [] := by
      intro n
      induction n with
      | zero =>
        intro i hi
        have hi : i = k := by omega
        subst hi
        have q1 : ¬ -nI i = 0 := fun z => by rw [z] at q4; exact absurd q4 (by decide)
        have q2 : ¬ -nI i < -8 := fun z => absurd ((sb_nlt (a := i) (b := 8) (by omega) (by omega)).mp z) (by omega)
        have q3 : -nI i ≤ 8 := Int32.le_of_lt (Int32.lt_trans q4 (by decide))
        refine r_iload_n 2 h dX6_step_41 rfl rfl ?_
        refine r_iload_n 1 h dX6_step_42 rfl rfl ?_
        refine r_icmp_le_t 59 h dX6_step_43 (by decide) (nle_T (by omega) (by omega) (by omega)) ?_
        refine r_aload_n 0 h dX6_step_59 rfl rfl ?_
        refine g0_5 h lf_X6_59 dX6_step_60 ?_
        show Wx _ _ 63 _ _
        refine g20_5 h lf_X6_193 dX6_step_63 ?_
        exact r_iret h hr dX6_step_66 ⟨by rw [spR, if_neg q1, if_neg q2, if_pos q3, spT, if_neg q1, if_neg q2, if_pos q3, if_pos q4, Int32.neg_neg, ncl (by omega)], by rw [spT, if_neg q1, if_neg q2, if_pos q3, if_pos q4, Int32.neg_neg, ncl (by omega)]⟩
      | succ n ih =>
        intro i hi
        have hq := ih (i + 1) (by omega)
        refine r_iload_n 2 h dX6_step_41 rfl rfl ?_
        refine r_iload_n 1 h dX6_step_42 rfl rfl ?_
        refine r_icmp_le_f 59 h dX6_step_43 (by decide) (nle_F (by omega) (by omega) (by omega)) ?_
        refine r_aload_n 0 h dX6_step_46 rfl rfl ?_
        refine g0_5 h lf_X6_59 dX6_step_47 ?_
        show Wx _ _ 50 _ _
        refine cV0v h (mX1_back _ _ _ (itb_pl hpl i)) kX1_back lm_X6_190 (by decide) 20 (pl_20 _ _) rfl (Nat.le_of_ble_eq_true rfl) dX6_step_50 ?_
        refine r_iinc (-1) h dX6_step_53 (by decide) rfl ?_
        show Wx _ _ _ [_, _, .int (-nI i + (-1))] _
        rw [neg_1]
        refine r_goto 41 h dX6_step_56 (by decide) ?_
        exact hq
    refine r_iconst 0 h dX6_step_19 (by decide) ?_
    refine r_istore_n 2 h dX6_step_20 rfl (Nat.le_of_ble_eq_true rfl) ?_
    show Wx _ _ _ [_, _, _] _
    refine r_iload_n 2 h dX6_step_21 rfl rfl ?_
    refine r_iload_n 1 h dX6_step_22 rfl rfl ?_
    refine r_icmp_ge_t 39 h dX6_step_23 (by decide) (Int32.le_of_lt q4) ?_
    show Wx _ _ 39 _ _
    refine r_iconst 0 h dX6_step_39 (by decide) ?_
    refine r_istore_n 2 h dX6_step_40 rfl (Nat.le_of_ble_eq_true rfl) ?_
    show Wx _ _ _ [_, _, _] _
    exact loop k 0 (by omega)
  refine r_iload_n 1 h dX6_step_0 rfl rfl ?_
  refine r_if_eq 16 h dX6_step_1 (by decide) (fun c1 => ?_) (fun c1 => ?_)
  · refine r_bipush (-2) h dX6_step_16 (by decide) ?_
    exact r_iret h hr dX6_step_18 ⟨by simp only [spR, c1, ite_true, ite_false, if_true, if_false, not_true, not_false_iff], by simp only [spT, c1, ite_true, ite_false, if_true, if_false, not_true, not_false_iff]⟩
  · refine r_iload_n 1 h dX6_step_4 rfl rfl ?_
    refine r_bipush (-8) h dX6_step_5 (by decide) ?_
    refine r_icmp_lt 16 h dX6_step_7 (by decide) (fun c7 => ?_) (fun c7 => ?_)
    · refine r_bipush (-2) h dX6_step_16 (by decide) ?_
      exact r_iret h hr dX6_step_18 ⟨by simp only [spR, c1, c7, ite_true, ite_false, if_true, if_false, not_true, not_false_iff], by simp only [spT, c1, c7, ite_true, ite_false, if_true, if_false, not_true, not_false_iff]⟩
    · refine r_iload_n 1 h dX6_step_10 rfl rfl ?_
      refine r_bipush 8 h dX6_step_11 (by decide) ?_
      refine r_icmp_le 19 h dX6_step_13 (by decide) (fun c13 => ?_) (fun c13 => ?_)
      · by_cases c0 : n < 0
        · obtain ⟨k, k1, k8, en⟩ := neg_at c7 c0
          exact down k k1 k8 en
        · obtain ⟨k, k8, en⟩ := nI_of2 (M := 8) (n := 8) (by decide) c0 c13
          refine up k ?_ k8 en
          rcases Nat.eq_zero_or_pos k with z | z
          · subst z; exact absurd en c1
          · exact z
      · refine r_bipush (-2) h dX6_step_16 (by decide) ?_
        exact r_iret h hr dX6_step_18 ⟨by simp only [spR, c1, c7, c13, ite_true, ite_false, if_true, if_false, not_true, not_false_iff], by simp only [spT, c1, c7, c13, ite_true, ite_false, if_true, if_false, not_true, not_false_iff]⟩
