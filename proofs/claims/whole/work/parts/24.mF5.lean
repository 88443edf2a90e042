theorem sI_ne {S : St} {k i a : Nat} {v : Int32} (h : a ≠ k) : (sI S k i v).1 a = S.1 a := if_neg h
theorem sI_eq {S : St} {k i : Nat} {v : Int32} : (sI S k i v).1 k = upd (S.1 k) i v := if_pos rfl
theorem sI_J {S : St} {k i : Nat} {v : Int32} : (sI S k i v).2 = S.2 := rfl
theorem sJ_ne {S : St} {k i a : Nat} {v : Int64} (h : a ≠ k) : (sJ S k i v).2 a = S.2 a := if_neg h
theorem sJ_eq {S : St} {k i : Nat} {v : Int64} : (sJ S k i v).2 k = vp_updL (S.2 k) i v := if_pos rfl
theorem sJ_I {S : St} {k i : Nat} {v : Int64} : (sJ S k i v).1 = S.1 := rfl
theorem upd_eq {f : Nat → Int32} {i : Nat} {v : Int32} : upd f i v i = v := if_pos rfl
theorem upd_ne {f : Nat → Int32} {i j : Nat} {v : Int32} (h : j ≠ i) : upd f i v j = f j := if_neg h
theorem updL_eq {f : Nat → Int64} {i : Nat} {v : Int64} : vp_updL f i v i = v := if_pos rfl
theorem updL_ne {f : Nat → Int64} {i j : Nat} {v : Int64} (h : j ≠ i) : vp_updL f i v j = f j := if_neg h
def lenOk (S : St) : Prop := ∃ n : Nat, n ≤ 40 ∧ S.1 13 0 = nI n
theorem lenOk_nn {S : St} (h : lenOk S) : ¬ S.1 13 0 < 0 := by
  obtain ⟨n, hn, e⟩ := h
  rw [e]; exact nI_pos (by omega)
theorem lenOk_le {S : St} (h : lenOk S) : S.1 13 0 ≤ 40 := by
  obtain ⟨n, hn, e⟩ := h
  rw [e]; exact nI_le (b := 40) hn (by decide)
def notS (S : St) (a b c : Int32) : St := if 40 ≤ S.1 13 0 then S else sI (sI (sI (sI S 10 (S.1 13 0).toNatClampNeg a) 11 (S.1 13 0).toNatClampNeg b) 12 (S.1 13 0).toNatClampNeg c) 13 0 (S.1 13 0 + 1)
theorem notS_ok {S : St} {a b c : Int32} (h : lenOk S) : lenOk (notS S a b c) := by
  unfold notS
  by_cases q : (40 : Int32) ≤ S.1 13 0
  · rw [if_pos q]; exact h
  · rw [if_neg q]
    obtain ⟨n, hn, e⟩ := h
    refine ⟨n + 1, ?_, ?_⟩
    · rcases Nat.lt_or_ge n 40 with z | z
      · omega
      · exact absurd (by rw [e]; exact nI_le (a := 40) z (by omega)) q
    · rw [sI_eq, upd_eq, e, nI_1]
def npS (S : St) (l i j : Int32) : Nat → St
  | 0 => S
  | p + 1 => if holI (npS S l i j p) l i j p = 0 then npS S l i j p else notS (npS S l i j p) (-1) (nI p) (-1)
theorem npS_s {S : St} {l i j : Int32} {p : Nat} : npS S l i j (p + 1) = if holI (npS S l i j p) l i j p = 0 then npS S l i j p else notS (npS S l i j p) (-1) (nI p) (-1) := rfl
theorem npS_ok {S : St} {l i j : Int32} (h : lenOk S) : ∀ p, lenOk (npS S l i j p)
  | 0 => h
  | p + 1 => by
    rw [npS_s]
    split
    · exact npS_ok h p
    · exact notS_ok (npS_ok h p)
def farI (S : St) (l i j : Int32) : Int32 := if 2 * sideI l * S.1 16 0 ≤ absI (frmI (S.1 14 0) l i) then 1 else if absI (frmI (S.1 15 0) l j) < 2 * sideI l * S.1 16 0 then 0 else 1
def visS : Nat → St → Nat → Nat → Nat → St
  | 0, S, _, _, _ => S
  | d + 1, S, l, i, j => if (5 : Int32) < nI l then S else if S.1 7 (bixN l i j) = 0 then S else if farI S (nI l) (nI i) (nI j) = 0 then (if splI S l i j = 0 then npS S (nI l) (nI i) (nI j) 40 else visS d (visS d (visS d (visS d S (l + 1) (2 * i) (2 * j)) (l + 1) (2 * i + 1) (2 * j)) (l + 1) (2 * i) (2 * j + 1)) (l + 1) (2 * i + 1) (2 * j + 1)) else notS S (nI l) (nI i) (nI j)
theorem visS_s {d : Nat} {S : St} {l i j : Nat} : visS (d + 1) S l i j = if (5 : Int32) < nI l then S else if S.1 7 (bixN l i j) = 0 then S else if farI S (nI l) (nI i) (nI j) = 0 then (if splI S l i j = 0 then npS S (nI l) (nI i) (nI j) 40 else visS d (visS d (visS d (visS d S (l + 1) (2 * i) (2 * j)) (l + 1) (2 * i + 1) (2 * j)) (l + 1) (2 * i) (2 * j + 1)) (l + 1) (2 * i + 1) (2 * j + 1)) else notS S (nI l) (nI i) (nI j) := rfl
theorem visS_ok : ∀ (d : Nat) {S : St} {l i j : Nat}, lenOk S → lenOk (visS d S l i j)
  | 0, _, _, _, _, h => h
  | d + 1, S, l, i, j, h => by
    rw [visS_s]
    split
    · exact h
    split
    · exact h
    split
    · split
      · exact npS_ok h 40
      · exact visS_ok d (visS_ok d (visS_ok d (visS_ok d h)))
    · exact notS_ok h
def trcS (S : St) (x y t : Int32) : St := visS 6 (sI (sI (sI (sI S 14 0 x) 15 0 y) 16 0 t) 13 0 0) 0 0 0
theorem trc_ok (S : St) (x y t : Int32) : lenOk (trcS S x y t) := visS_ok 6 ⟨0, by omega, rfl⟩
def rdI (S : St) (k q : Int32) : Int32 := if k < 0 then -1 else if k < S.1 13 0 then (if q = 0 then S.1 10 k.toNatClampNeg else if q = 1 then S.1 11 k.toNatClampNeg else S.1 12 k.toNatClampNeg) else -1
theorem rd_in {S : St} {k : Int32} (h : lenOk S) (h1 : ¬ k < 0) (h2 : k < S.1 13 0) : vp_in k 40 := by
  refine ixN (N := 40) (by decide) h1 (fun z => ?_)
  exact absurd (Int32.lt_of_lt_of_le h2 (lenOk_le h)) (Int32.not_lt.mpr z)
theorem nI_2 (i : Nat) : 2 * nI i = nI (2 * i) := pk_mul 2 i
theorem dbl {i k : Nat} (h : i < 2 ^ k) : 2 * i < 2 ^ (k + 1) := by rw [Nat.pow_succ]; omega
theorem dbl1 {i k : Nat} (h : i < 2 ^ k) : 2 * i + 1 < 2 ^ (k + 1) := by rw [Nat.pow_succ]; omega
theorem spl_lt {S : St} {l i j : Nat} (hl : l ≤ 5) (h : ¬ splI S l i j = 0) : l < 5 := by
  rcases Nat.lt_or_ge l 5 with q | q
  · exact q
  · have : l = 5 := by omega
    subst this
    exact absurd (by unfold splI; rw [if_pos (show (5 : Int32) ≤ nI 5 by decide)]) h
set_option maxRecDepth 100000 in
set_option maxHeartbeats 4000000 in
theorem mX5_note (l : Launch) (w : Fx) (S : St) (a b c : Int32) (hlen : lenOk S) : Ct l yX5_note cX5_note 4 none 0 w [.ref (aD w 16), .int a, .int b, .int c] S (fun v S' => v = none ∧ S' = notS S a b c) := by
  refine Ct.of (by decide) (Nat.le_of_ble_eq_true rfl) (fun X h hr hl hw => ?_)
  subst hl hw
  have h : Ok X cX5_note RX5 0 := h
  show Wx X S 0 [.ref (aD (xw X) 16), .int a, .int b, .int c] []
  refine r_aload_n 0 h dX5_note_0 rfl rfl ?_
  refine g16_5 h lf_X5_21 dX5_note_1 ?_
  refine r_bipush 40 h dX5_note_4 (by decide) ?_
  refine r_icmp_ge 49 h dX5_note_6 (by decide) (fun c6 => ?_) (fun c6 => ?_)
  · exact r_vret h hr dX5_note_49 ⟨rfl, by unfold notS; first | (rw [if_pos c6]; done) | (rw [if_neg c6]; rfl)⟩
  · refine r_aload_n 0 h dX5_note_9 rfl rfl ?_
    refine g16_2 h lf_X5_9 dX5_note_10 ?_
    refine r_aload_n 0 h dX5_note_13 rfl rfl ?_
    refine g16_5 h lf_X5_21 dX5_note_14 ?_
    refine r_iload_n 1 h dX5_note_17 rfl rfl ?_
    show Wx _ _ 18 _ _
    refine as_17 h (show vp_in (S.1 13 0) 40 from ixN (N := 40) (by decide) (lenOk_nn hlen) c6) dX5_note_18 ?_
    refine r_aload_n 0 h dX5_note_19 rfl rfl ?_
    refine g16_3 h lf_X5_15 dX5_note_20 ?_
    refine r_aload_n 0 h dX5_note_23 rfl rfl ?_
    refine g16_5 h lf_X5_21 dX5_note_24 ?_
    refine r_iload_n 2 h dX5_note_27 rfl rfl ?_
    show Wx _ _ 28 _ _
    refine as_18 h (show vp_in (S.1 13 0) 40 from ixN (N := 40) (by decide) (lenOk_nn hlen) c6) dX5_note_28 ?_
    refine r_aload_n 0 h dX5_note_29 rfl rfl ?_
    refine g16_4 h lf_X5_18 dX5_note_30 ?_
    refine r_aload_n 0 h dX5_note_33 rfl rfl ?_
    refine g16_5 h lf_X5_21 dX5_note_34 ?_
    refine r_iload_n 3 h dX5_note_37 rfl rfl ?_
    show Wx _ _ 38 _ _
    refine as_19 h (show vp_in (S.1 13 0) 40 from ixN (N := 40) (by decide) (lenOk_nn hlen) c6) dX5_note_38 ?_
    refine r_aload_n 0 h dX5_note_39 rfl rfl ?_
    refine r_dup h dX5_note_40 rfl ?_
    refine g16_5 h lf_X5_21 dX5_note_41 ?_
    refine r_iconst 1 h dX5_note_44 (by decide) ?_
    refine r_iadd h dX5_note_45 ?_
    show Wx _ _ 46 _ _
    refine p16_5 h lf_X5_21 dX5_note_46 ?_
    exact r_vret h hr dX5_note_49 ⟨rfl, by unfold notS; first | (rw [if_pos c6]; done) | (rw [if_neg c6]; rfl)⟩
set_option maxRecDepth 100000 in
set_option maxHeartbeats 4000000 in
theorem mX5_notePoints (l : Launch) (w : Fx) (S : St) (q i j : Int32) (hlen : lenOk S) : Ct l yX5_notePoints cX5_notePoints 5 none 2 w [.ref (aD w 16), .int q, .int i, .int j] S (fun v S' => v = none ∧ S' = npS S q i j 40) := by
  refine Ct.of (by decide) (Nat.le_of_ble_eq_true rfl) (fun X h hr hl hw => ?_)
  subst hl hw
  have h : Ok X cX5_notePoints RX5 2 := h
  show Wx X S 0 [.ref (aD (xw X) 16), .int q, .int i, .int j, .null] []
  have loop : ∀ n p : Nat, p + n = 40 → Wx X (npS S q i j p) 3 [.ref (aD (xw X) 16), .int q, .int i, .int j, .int (nI p)] [] := by
    intro n
    induction n with
    | zero =>
      intro p hi
      have hi : p = 40 := by omega
      subst hi
      refine r_iload h dX5_notePoints_3 rfl ?_
      refine r_bipush 40 h dX5_notePoints_5 (by decide) ?_
      refine r_icmp_ge_t 39 h dX5_notePoints_7 (by decide) (bigT (a := 40) (by omega) (by omega)) ?_
      exact r_vret h hr dX5_notePoints_39 ⟨rfl, rfl⟩
    | succ n ih =>
      intro p hi
      have hq := ih (p + 1) (by omega)
      rw [npS_s] at hq
      refine r_iload h dX5_notePoints_3 rfl ?_
      refine r_bipush 40 h dX5_notePoints_5 (by decide) ?_
      refine r_icmp_ge_f 39 h dX5_notePoints_7 (by decide) (bigF (a := 40) (by omega) (by omega)) ?_
      refine r_aload_n 0 h dX5_notePoints_10 rfl rfl ?_
      refine g16_1 h lf_X5_38 dX5_notePoints_11 ?_
      show Wx _ _ 14 _ _
      refine r_iload_n 1 h dX5_notePoints_14 rfl rfl ?_
      refine r_iload_n 2 h dX5_notePoints_15 rfl rfl ?_
      refine r_iload_n 3 h dX5_notePoints_16 rfl rfl ?_
      refine r_iload h dX5_notePoints_17 rfl ?_
      refine cV4 h (mX0_holds _ _ _ q i j p (by omega)) kX0_holds lm_X5_77 (by decide) 8 (pl_8 _ _) rfl (Nat.le_of_ble_eq_true rfl) dX5_notePoints_19 ?_
      refine r_if_eq 33 h dX5_notePoints_22 (by decide) (fun c22 => ?_) (fun c22 => ?_)
      · refine r_iincN h dX5_notePoints_33 rfl ?_
        show Wx _ _ _ [_, _, _, _, _] _
        refine r_goto 3 h dX5_notePoints_36 (by decide) ?_
        first | (rw [if_pos c22] at hq; exact hq) | (rw [if_neg c22] at hq; exact hq)
      · refine r_aload_n 0 h dX5_notePoints_25 rfl rfl ?_
        refine r_iconst (-1) h dX5_notePoints_26 (by decide) ?_
        refine r_iload h dX5_notePoints_27 rfl ?_
        refine r_iconst (-1) h dX5_notePoints_29 (by decide) ?_
        refine cV3v h (mX5_note _ _ _ (-1) (nI p) (-1) (npS_ok hlen p)) kX5_note lm_X5_56 (by decide) 16 (pl_16 _ _) rfl (Nat.le_of_ble_eq_true rfl) dX5_notePoints_30 ?_
        show Wx _ _ 33 _ _
        refine r_iincN h dX5_notePoints_33 rfl ?_
        show Wx _ _ _ [_, _, _, _, _] _
        refine r_goto 3 h dX5_notePoints_36 (by decide) ?_
        first | (rw [if_pos c22] at hq; exact hq) | (rw [if_neg c22] at hq; exact hq)
  refine r_iconst 0 h dX5_notePoints_0 (by decide) ?_
  refine r_istore h dX5_notePoints_1 (Nat.le_of_ble_eq_true rfl) ?_
  show Wx _ _ _ [_, _, _, _, _] _
  exact loop 40 0 rfl
set_option maxRecDepth 100000 in
set_option maxHeartbeats 4000000 in
theorem mX5_isFar (l : Launch) (w : Fx) (S : St) (q i j : Int32) : Ct l yX5_isFar cX5_isFar 5 (some .boolean) 2 w [.ref (aD w 16), .int q, .int i, .int j] S (fun v S' => v = some (.int (farI S q i j)) ∧ S' = S) := by
  refine Ct.of (by decide) (Nat.le_of_ble_eq_true rfl) (fun X h hr hl hw => ?_)
  subst hl hw
  have h : Ok X cX5_isFar RX5 2 := h
  show Wx X S 0 [.ref (aD (xw X) 16), .int q, .int i, .int j, .null] []
  refine r_iconst 2 h dX5_isFar_0 (by decide) ?_
  refine r_iload_n 1 h dX5_isFar_1 rfl rfl ?_
  refine cN1 h (mX6_sideOf _ _ _ q) kX6_sideOf ln_X5_65 (by decide) (Nat.le_of_ble_eq_true rfl) dX5_isFar_2 ?_
  refine r_imul h dX5_isFar_5 ?_
  refine r_aload_n 0 h dX5_isFar_6 rfl rfl ?_
  show Wx _ _ 7 _ _
  refine g16_8 h lf_X5_31 dX5_isFar_7 ?_
  refine r_imul h dX5_isFar_10 ?_
  refine r_istore h dX5_isFar_11 (Nat.le_of_ble_eq_true rfl) ?_
  show Wx _ _ _ [_, _, _, _, _] _
  refine r_aload_n 0 h dX5_isFar_13 rfl rfl ?_
  refine g16_6 h lf_X5_25 dX5_isFar_14 ?_
  refine r_iload_n 1 h dX5_isFar_17 rfl rfl ?_
  show Wx _ _ 18 _ _
  refine r_iload_n 2 h dX5_isFar_18 rfl rfl ?_
  refine cN3 h (mX6_fromMiddle _ _ _ _ q i) kX6_fromMiddle ln_X5_69 (by decide) (Nat.le_of_ble_eq_true rfl) dX5_isFar_19 ?_
  refine r_absI h lm_X5_72 (by decide) (Nat.le_of_ble_eq_true rfl) dX5_isFar_22 ?_
  refine r_iload h dX5_isFar_25 rfl ?_
  refine r_icmp_ge 47 h dX5_isFar_27 (by decide) (fun c27 => ?_) (fun c27 => ?_)
  · refine r_iconst 1 h dX5_isFar_47 (by decide) ?_
    refine r_goto 52 h dX5_isFar_48 (by decide) ?_
    exact r_zret h hr dX5_isFar_52 rfl ⟨by simp only [farI, c27, ite_true, ite_false, if_true, if_false, not_true, not_false_iff], rfl⟩
  · refine r_aload_n 0 h dX5_isFar_30 rfl rfl ?_
    refine g16_7 h lf_X5_28 dX5_isFar_31 ?_
    refine r_iload_n 1 h dX5_isFar_34 rfl rfl ?_
    refine r_iload_n 3 h dX5_isFar_35 rfl rfl ?_
    refine cN3 h (mX6_fromMiddle _ _ _ _ q j) kX6_fromMiddle ln_X5_69 (by decide) (Nat.le_of_ble_eq_true rfl) dX5_isFar_36 ?_
    show Wx _ _ 39 _ _
    refine r_absI h lm_X5_72 (by decide) (Nat.le_of_ble_eq_true rfl) dX5_isFar_39 ?_
    refine r_iload h dX5_isFar_42 rfl ?_
    refine r_icmp_lt 51 h dX5_isFar_44 (by decide) (fun c44 => ?_) (fun c44 => ?_)
    · refine r_iconst 0 h dX5_isFar_51 (by decide) ?_
      exact r_zret h hr dX5_isFar_52 rfl ⟨by simp only [farI, c27, c44, ite_true, ite_false, if_true, if_false, not_true, not_false_iff], rfl⟩
    · refine r_iconst 1 h dX5_isFar_47 (by decide) ?_
      refine r_goto 52 h dX5_isFar_48 (by decide) ?_
      exact r_zret h hr dX5_isFar_52 rfl ⟨by simp only [farI, c27, c44, ite_true, ite_false, if_true, if_false, not_true, not_false_iff], rfl⟩
