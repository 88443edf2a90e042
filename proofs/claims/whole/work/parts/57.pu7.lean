/-! F's sum over its trail -/
theorem w16 {w : Int32} (h1 : -1000 ≤ w.toInt) (h2 : w.toInt ≤ 1000) : (16 * w).toInt64 = 16 * w.toInt64 := by
  rw [← Int64.toInt_inj, Int32.toInt_toInt64, Int32.toInt_mul, Int64.toInt_mul, Int32.toInt_toInt64, show (16 : Int32).toInt = 16 from rfl, show (16 : Int64).toInt = 16 from rfl, bm32 (by omega) (by omega), bm64 (by omega) (by omega)]
theorem pul_eq {T : St} {K : Nat → Int32} (hk : kOk (T.2 1) K) (hw : wOk (T.1 0) (T.1 3)) {p : Nat} (hp : p < 40) (hh : ¬ T.1 0 p = 0) (x y : Int32) : pulL T (nI p) x y = mpuL K (T.1 1) (T.1 2) (T.1 3) p x y := by
  unfold pulL mpuL
  have w1 := hw p hp hh
  rw [ncl (by omega), w16 w1.1 w1.2, valP_pu hk]
theorem tm_eq {T : St} {K : Nat → Int32} (hk : kOk (T.2 1) K) {k a b l i j o : Nat} (ha : a < 64) (hb : b < 64) (hl : l ≤ 5) (hi : i < 2 ^ l) (hj : j < 2 ^ l) (ho : o ≤ 4) (e1 : T.1 10 k = nI l) (e2 : T.1 11 k = nI i) (e3 : T.1 12 k = nI j) : tmV T k (nI a) (nI b) o = mteL (T.1 0) (T.1 1) (T.1 2) (T.1 3) K (nI l) (nI i) (nI j) (nI a) (nI b) o := by
  unfold tmV
  rw [tm_ne (by decide), tm_ne (by decide), e1, e2, e3]
  unfold tmT
  rw [e1, e2, e3, etS_v, (frm_L ha hl hi).1, (frm_L hb hl hj).1]
  exact term_eq (by rw [(gat_f T (nI l) (nI i) (nI j)).2 1 (by decide)]; exact hk) (fun u v h => gat_m T _ _ _ h) ho
theorem ed_eq {T : St} {K : Nat → Int32} (hk : kOk (T.2 1) K) (hw : wOk (T.1 0) (T.1 3)) {k a b l i j o : Nat} (ha : a < 64) (hb : b < 64) (hl : l ≤ 5) (hi : i < 2 ^ l) (hj : j < 2 ^ l) (ho : o ≤ 4) (e1 : T.1 10 k = nI l) (e2 : T.1 11 k = nI i) (e3 : T.1 12 k = nI j) : edV T k (nI a) (nI b) o = menL (T.1 0) (T.1 1) (T.1 2) (T.1 3) K (nI l) (nI i) (nI j) (nI a) (nI b) o := by
  have f1 := frm_L ha hl hi
  have f2 := frm_L hb hl hj
  unfold edV
  rw [ed_ne (by decide), ed_ne (by decide), e1, e2, e3]
  unfold edT edG
  rw [e1, e2, e3, eeS_v, abs_L (by omega), abs_L (by omega), f1.1, f2.1, end_eq (K := K) (by rw [(gat_f T (nI l) (nI i) (nI j)).2 1 (by decide)]; exact hk) _ _ _ _ ho, gat_bL hw]
  rfl
theorem tm_J1 (T : St) (k o : Nat) : (tmT T k o).2 1 = T.2 1 := by unfold tmT; rw [(etS_f _ _).2 1 (by decide), (gat_f _ _ _ _).2 1 (by decide)]
theorem ed_J1 (T : St) (k o : Nat) : (edT T k o).2 1 = T.2 1 := by unfold edT edG; rw [(eeS_f _ _ _ _).2 1 (by decide), (gat_f _ _ _ _).2 1 (by decide)]
theorem tm_q (T : St) (k o : Nat) : qf T (tmT T k o) := by unfold tmT; exact (gat_f _ _ _ _).qf.trans (etS_f _ _).qf
theorem ed_q (T : St) (k o : Nat) : qf T (edT T k o) := by unfold edT edG; exact (gat_f _ _ _ _).qf.trans (eeS_f _ _ _ _).qf
theorem abT_q (T : St) (o : Nat) : ∀ n, qf T (abT T o n)
  | 0 => qf.refl _
  | n + 1 => by
    rw [abT_s]; split
    · exact abT_q T o n
    · exact (abT_q T o n).trans (tm_q _ _ _)
theorem weT_q (T : St) (o : Nat) : ∀ n, qf T (weT T o n)
  | 0 => qf.refl _
  | n + 1 => by
    rw [weT_s]; split
    · exact weT_q T o n
    · exact (weT_q T o n).trans (ed_q _ _ _)
theorem take_1 {A : List Pt} {n : Nat} {e : Pt} (h : A[n]? = some e) : A.take (n + 1) = A.take n ++ [e] := by
  rw [List.take_add_one, h]; rfl
theorem ab_v {T : St} {K : Nat → Int32} {A : List Pt} (hk : kOk (T.2 1) K) (hw : wOk (T.1 0) (T.1 3)) (h : hd T A) (hA : ∀ e ∈ A, pOkE (T.1 0) e) {a b o : Nat} (ha : a < 64) (hb : b < 64) (ho : o ≤ 4) : ∀ n, n ≤ A.length → abV T (nI a) (nI b) o n = ls (pv (T.1 0) (T.1 1) (T.1 2) (T.1 3) K (nI a) (nI b) o) 0 (A.take n)
  | 0, _ => by rw [abV, List.take_zero]; rfl
  | n + 1, hn => by
    have ih := ab_v hk hw h hA ha hb ho n (by omega)
    have he := h.2.2 n (by omega)
    have hq := abT_q T o n
    have f10 : (abT T o n).1 10 = T.1 10 := abT_ne (by decide) n
    have f11 : (abT T o n).1 11 = T.1 11 := abT_ne (by decide) n
    have f12 : (abT T o n).1 12 = T.1 12 := abT_ne (by decide) n
    have f0 := hq.1 0 (by omega)
    have f1 := hq.1 1 (by omega)
    have f2 := hq.1 2 (by omega)
    have f3 := hq.1 3 (by omega)
    have k1 := hq.2 1 (by decide) (by decide)
    have ok := hA _ (List.mem_of_getElem? he)
    rw [take_1 he, ls_1, abV_s, f10, ih]
    by_cases c : T.1 10 n = -1
    · rw [if_pos c]
      obtain ⟨p, hp, hh, e⟩ := ok.1 c
      have e : T.1 11 n = nI p := e
      unfold pv
      rw [if_pos c, f11]
      show _ + pulL (abT T o n) (T.1 11 n) _ _ = _ + mpuL _ _ _ _ (T.1 11 n).toNatClampNeg _ _
      rw [e, pul_eq (K := K) (by rw [k1]; exact hk) (by rw [f0, f3]; exact hw) hp (by rw [f0]; exact hh), f1, f2, f3, ncl (by omega)]
    · rw [if_neg c]
      obtain ⟨l, i, j, hl, hi, hj, e⟩ := ok.2 c
      have e1 : T.1 10 n = nI l := congrArg (·.1) e
      have e2 : T.1 11 n = nI i := congrArg (·.2.1) e
      have e3 : T.1 12 n = nI j := congrArg (·.2.2) e
      unfold pv
      rw [if_neg c, tm_eq (K := K) (by rw [k1]; exact hk) ha hb hl hi hj ho ((congrFun f10 n).trans e1) ((congrFun f11 n).trans e2) ((congrFun f12 n).trans e3), f0, f1, f2, f3]
      show _ = _ + mteL _ _ _ _ _ (T.1 10 n) (T.1 11 n) (T.1 12 n) _ _ _
      rw [e1, e2, e3]
theorem we_v {T : St} {K : Nat → Int32} {A : List Pt} (hk : kOk (T.2 1) K) (hw : wOk (T.1 0) (T.1 3)) (h : hd T A) (hA : ∀ e ∈ A, pOkE (T.1 0) e) {a b o : Nat} (ha : a < 64) (hb : b < 64) (ho : o ≤ 4) : ∀ n, n ≤ A.length → weV T (nI a) (nI b) o n = ls (ev (T.1 0) (T.1 1) (T.1 2) (T.1 3) K (nI a) (nI b) o) 0 (A.take n)
  | 0, _ => by rw [weV, List.take_zero]; rfl
  | n + 1, hn => by
    have ih := we_v hk hw h hA ha hb ho n (by omega)
    have he := h.2.2 n (by omega)
    have hq := weT_q T o n
    have f10 : (weT T o n).1 10 = T.1 10 := weT_ne (by decide) n
    have f11 : (weT T o n).1 11 = T.1 11 := weT_ne (by decide) n
    have f12 : (weT T o n).1 12 = T.1 12 := weT_ne (by decide) n
    have f0 := hq.1 0 (by omega)
    have f1 := hq.1 1 (by omega)
    have f2 := hq.1 2 (by omega)
    have f3 := hq.1 3 (by omega)
    have k1 := hq.2 1 (by decide) (by decide)
    have ok := hA _ (List.mem_of_getElem? he)
    rw [take_1 he, ls_1, weV_s, f10, ih]
    by_cases c : T.1 10 n = -1
    · rw [if_pos c]; unfold ev; rw [if_pos c]; simp
    · rw [if_neg c]
      obtain ⟨l, i, j, hl, hi, hj, e⟩ := ok.2 c
      have e1 : T.1 10 n = nI l := congrArg (·.1) e
      have e2 : T.1 11 n = nI i := congrArg (·.2.1) e
      have e3 : T.1 12 n = nI j := congrArg (·.2.2) e
      unfold ev
      rw [if_neg c, ed_eq (K := K) (by rw [k1]; exact hk) (by rw [f0, f3]; exact hw) ha hb hl hi hj ho ((congrFun f10 n).trans e1) ((congrFun f11 n).trans e2) ((congrFun f12 n).trans e3), f0, f1, f2, f3]
      show _ = _ + menL _ _ _ _ _ (T.1 10 n) (T.1 11 n) (T.1 12 n) _ _ _
      rw [e1, e2, e3]
theorem trN_A {T : St} {A : List Pt} (h : hd T A) : trN T = A.length := by unfold trN; rw [h.1, ncl (by have := h.2.1; omega)]
theorem ab_all {T : St} {K : Nat → Int32} {A : List Pt} (hk : kOk (T.2 1) K) (hw : wOk (T.1 0) (T.1 3)) (h : hd T A) (hA : ∀ e ∈ A, pOkE (T.1 0) e) {a b o : Nat} (ha : a < 64) (hb : b < 64) (ho : o ≤ 4) : abV T (nI a) (nI b) o (trN T) = ls (pv (T.1 0) (T.1 1) (T.1 2) (T.1 3) K (nI a) (nI b) o) 0 A := by
  rw [trN_A h, ab_v hk hw h hA ha hb ho _ (Nat.le_refl _), List.take_length]
theorem we_all {T : St} {K : Nat → Int32} {A : List Pt} (hk : kOk (T.2 1) K) (hw : wOk (T.1 0) (T.1 3)) (h : hd T A) (hA : ∀ e ∈ A, pOkE (T.1 0) e) {a b o : Nat} (ha : a < 64) (hb : b < 64) (ho : o ≤ 4) : weV T (nI a) (nI b) o (trN T) = ls (ev (T.1 0) (T.1 1) (T.1 2) (T.1 3) K (nI a) (nI b) o) 0 A := by
  rw [trN_A h, we_v hk hw h hA ha hb ho _ (Nat.le_refl _), List.take_length]
/-! bounds, both ways of asking -/
theorem bo63 (x : Int32) : inL x.toInt64 0 63 = 0 ↔ x < 0 ∨ 63 < x := in_0 (a := 0) (b := 63)
theorem plc_m (x y : Int32) : mplI x y = plcI x y := by
  unfold mplI plcI
  have e1 : ∀ z : Int32, 63 < z ↔ 64 ≤ z := fun z => by rw [Int32.lt_iff_toInt_lt, Int32.le_iff_toInt_le, show (63 : Int32).toInt = 63 from rfl, show (64 : Int32).toInt = 64 from rfl]; omega
  simp only [bo63, e1]
  by_cases a1 : x < 0 <;> by_cases a2 : 64 ≤ x <;> by_cases a3 : y < 0 <;> by_cases a4 : 64 ≤ y <;> simp [a1, a2, a3, a4]
theorem bo04 (x : Int32) : inL x.toInt64 0 4 = 0 ↔ x < 0 ∨ 4 < x := in_0 (a := 0) (b := 4)
theorem bo14 (x : Int32) : inL x.toInt64 1 4 = 0 ↔ x < 1 ∨ 4 < x := in_0 (a := 1) (b := 4)
theorem bo02 (x : Int32) : inL x.toInt64 0 2 = 0 ↔ x < 0 ∨ 2 < x := in_0 (a := 0) (b := 2)
theorem dst_m (t : Int32) : inL t.toInt64 1 4 = 0 ↔ dstI t = 0 := by
  rw [bo14]; unfold dstI
  by_cases a1 : t < 1 <;> by_cases a2 : 4 < t <;> simp [a1, a2]
theorem v3 (v : Int32) : (v < 0 ∨ 2 < v) ↔ (¬ v = 0 ∧ ¬ v = 1 ∧ ¬ v = 2) := by
  simp only [Int32.lt_iff_toInt_lt, ← Int32.toInt_inj, show (0 : Int32).toInt = 0 from rfl, show (1 : Int32).toInt = 1 from rfl, show (2 : Int32).toInt = 2 from rfl]; omega
theorem Inv_p {S : St} (h : Inv S) : pOk (S.1 20) (S.1 21) (S.1 22) := by
  have l := h.2.1; rw [← l.1, ← l.2.1, ← l.2.2.1]; exact h.1.1
theorem trAB {S : St} (h : Inv S) (x y t : Int32) : trA S x y t = trB S x y t := by
  unfold trA trB; rw [h.2.1.1, h.2.1.2.1, h.2.1.2.2.1, h.2.2.1]
theorem trB_q {S T : St} (h : qf S T) (x y t : Int32) : trB T x y t = trB S x y t := by
  unfold trB; rw [h.1 20 (by omega), h.1 21 (by omega), h.1 22 (by omega), h.1 27 (by omega)]
theorem trA_ok {S : St} (x y t : Int32) : ∀ e ∈ trA S x y t, pOkE (S.1 0) e := trl_ok 6 0 0 0 (by omega) (by decide) (by decide)
theorem ac_q {S : St} (hF : FI S) (x y q t v : Int32) : qf S (acT S x y q t v) := by
  unfold acT
  by_cases c1 : plcI x y = 0
  · rw [if_pos c1]; exact qf.refl _
  rw [if_neg c1]
  by_cases c2 : q < 0
  · rw [if_pos c2]; exact qf.refl _
  rw [if_neg c2]
  by_cases c3 : 4 < q
  · rw [if_pos c3]; exact qf.refl _
  rw [if_neg c3]
  by_cases c4 : dstI t = 0
  · rw [if_pos c4]; exact qf.refl _
  rw [if_neg c4]
  obtain ⟨a, b, ha, hb, rfl, rfl⟩ := plc_at c1
  obtain ⟨s, h1, h2, rfl⟩ := dst_at c4
  have f := (trc_hd hF ha hb h2).2
  split
  · exact f.trans (abT_q _ _ _)
  · split
    · exact f.trans (weT_q _ _ _)
    · exact f
theorem op_across {S : St} (h : Inv S) (x y q t v : Int32) : acR S x y q t v = macR (acT S x y q t v) x y q t v ∧ Inv (acT S x y q t v) := by
  have hq := ac_q h.1 x y q t v
  refine ⟨?_, Inv_q hq h⟩
  generalize acT S x y q t v = T at hq
  have hT := Inv_q hq h
  unfold acR macR
  rw [plc_m]
  by_cases c1 : plcI x y = 0
  · rw [if_pos c1, if_pos c1]
  rw [if_neg c1, if_neg c1]
  by_cases c2 : q < 0
  · rw [if_pos c2, if_pos ((bo04 q).mpr (Or.inl c2))]
  by_cases c3 : 4 < q
  · rw [if_neg c2, if_pos c3, if_pos ((bo04 q).mpr (Or.inr c3))]
  rw [if_neg c2, if_neg c3, if_neg (fun z => ((bo04 q).mp z).elim c2 c3)]
  by_cases c4 : dstI t = 0
  · rw [if_pos c4, if_pos ((dst_m t).mpr c4)]
  rw [if_neg c4, if_neg (fun z => c4 ((dst_m t).mp z))]
  obtain ⟨a, b, ha, hb, rfl, rfl⟩ := plc_at c1
  obtain ⟨s, h1, h2, rfl⟩ := dst_at c4
  obtain ⟨o, ho, rfl⟩ := nI_of2 (x := q) (M := 4) (n := 4) (by decide) c2 (Int32.not_lt.mp c3)
  rw [ncl (by omega)]
  obtain ⟨g, f⟩ := trc_hd h.1 ha hb h2
  have hU := Inv_q f h
  have gm := (gac_hm (Inv_p hT) (nI a) (nI b) (nI s) o).1
  have fm := (gac_hm (Inv_p hT) (nI a) (nI b) (nI s) o).2
  rw [trB_q hq, ← trAB h] at gm
  have l := h.2.1
  by_cases d0 : v = 0
  · subst d0
    rw [if_pos rfl, if_neg (by decide), if_pos rfl, gm.2.1, ab_all hU.2.2.2.1 hU.1.2.1 g (by rw [f.1 0 (by omega)]; exact trA_ok _ _ _) ha hb ho, fm 20 (by omega), fm 21 (by omega), fm 22 (by omega), fm 23 (by omega), fm 26 (by omega), hq.1 20 (by omega), hq.1 21 (by omega), hq.1 22 (by omega), hq.1 23 (by omega), hq.1 26 (by omega), f.1 0 (by omega), f.1 1 (by omega), f.1 2 (by omega), f.1 3 (by omega), f.1 26 (by omega), l.1, l.2.1, l.2.2.1, l.2.2.2.1]
  by_cases d1 : v = 1
  · subst d1
    rw [if_neg d0, if_pos rfl, if_neg (by decide), if_neg d0, if_pos rfl, gm.2.2, we_all hU.2.2.2.1 hU.1.2.1 g (by rw [f.1 0 (by omega)]; exact trA_ok _ _ _) ha hb ho, fm 20 (by omega), fm 21 (by omega), fm 22 (by omega), fm 23 (by omega), fm 26 (by omega), hq.1 20 (by omega), hq.1 21 (by omega), hq.1 22 (by omega), hq.1 23 (by omega), hq.1 26 (by omega), f.1 0 (by omega), f.1 1 (by omega), f.1 2 (by omega), f.1 3 (by omega), f.1 26 (by omega), l.1, l.2.1, l.2.2.1, l.2.2.2.1]
  by_cases d2 : v = 2
  · subst d2
    rw [if_neg d0, if_neg d1, if_pos rfl, if_neg (by decide), if_neg d0, if_neg d1, gm.1.1, g.1]
  · rw [if_neg d0, if_neg d1, if_neg d2, if_pos ((bo02 v).mpr ((v3 v).mpr ⟨d0, d1, d2⟩))]
theorem orS_q (x y : Int32) (e : Int64) : ∀ (n o : Nat) (S : St), qf S (orS x y e n o S)
  | 0, _, S => qf.refl S
  | n + 1, o, S => by
    rw [orS_s]; split
    · exact (weT_q S o (trN S)).trans (orS_q x y e n (o + 1) _)
    · exact weT_q S o (trN S)
theorem od_q {S : St} (hF : FI S) (x y t : Int32) (e : Int64) : qf S (odT S x y t e) := by
  unfold odT
  by_cases c1 : plcI x y = 0
  · rw [if_pos c1]; exact qf.refl _
  rw [if_neg c1]
  by_cases c4 : dstI t = 0
  · rw [if_pos c4]; exact qf.refl _
  rw [if_neg c4]
  obtain ⟨a, b, ha, hb, rfl, rfl⟩ := plc_at c1
  obtain ⟨s, h1, h2, rfl⟩ := dst_at c4
  split
  · exact (trc_hd hF ha hb h2).2.trans (orS_q _ _ _ _ _ _)
  · exact qf.refl _
theorem or_mo {S T : St} (h : Inv S) (hq : qf S T) {a b s : Nat} (ha : a < 64) (hb : b < 64) (e : Int64) : ∀ (n o : Nat) (U : St), o + n = 4 → qf S U → hd U (trA S (nI a) (nI b) (nI s)) → orV (nI a) (nI b) e n o U = moV T (nI a) (nI b) (nI s) e n o
  | 0, o, U, ho, _, _ => by rw [orV, moV, show o = 4 by omega]; rfl
  | n + 1, o, U, ho, f, g => by
    have hU := Inv_q f h
    have l := h.2.1
    have ew : weV U (nI a) (nI b) o (trN U) = gaEs T (nI a) (nI b) (nI s) o 6 0 0 0 0 := by
      unfold gaEs
      rw [gaE_ls 6 0 0 0 0 (by omega), we_all hU.2.2.2.1 hU.1.2.1 g (by rw [f.1 0 (by omega)]; exact trA_ok _ _ _) ha hb (by omega), hq.1 20 (by omega), hq.1 21 (by omega), hq.1 22 (by omega), hq.1 23 (by omega), hq.1 26 (by omega), hq.1 27 (by omega), f.1 0 (by omega), f.1 1 (by omega), f.1 2 (by omega), f.1 3 (by omega), f.1 26 (by omega), l.1, l.2.1, l.2.2.1, l.2.2.2.1]
      unfold trA; rw [l.1, l.2.1, l.2.2.1, h.2.2.1]
    rw [orV_s, moV, ← ew]
    by_cases c : e < weV U (nI a) (nI b) o (trN U)
    · rw [if_pos c, if_neg (fun z => by rw [Int64.le_iff_toInt_le] at z; rw [Int64.lt_iff_toInt_lt] at c; omega)]
      refine or_mo h hq ha hb e n (o + 1) _ (by omega) (f.trans (weT_q _ _ _)) ?_
      unfold hd
      rw [weT_ne (by decide), weT_ne (by decide), weT_ne (by decide), weT_ne (by decide)]
      exact g
    · rw [if_neg c, if_pos (by rw [Int64.le_iff_toInt_le]; rw [Int64.lt_iff_toInt_lt] at c; omega)]
theorem op_order {S : St} (h : Inv S) (x y t : Int32) (e : Int64) : odR S x y t e = modR (odT S x y t e) x y t e ∧ Inv (odT S x y t e) := by
  have hq := od_q h.1 x y t e
  refine ⟨?_, Inv_q hq h⟩
  generalize odT S x y t e = T at hq
  unfold odR modR
  rw [plc_m]
  by_cases c1 : plcI x y = 0
  · rw [if_pos c1, if_pos c1]
  rw [if_neg c1, if_neg c1]
  by_cases c4 : dstI t = 0
  · rw [if_pos c4, if_pos ((dst_m t).mpr c4)]
  rw [if_neg c4, if_neg (fun z => c4 ((dst_m t).mp z))]
  obtain ⟨a, b, ha, hb, rfl, rfl⟩ := plc_at c1
  obtain ⟨s, h1, h2, rfl⟩ := dst_at c4
  obtain ⟨g, f⟩ := trc_hd h.1 ha hb h2
  by_cases c : 0 ≤ e
  · rw [if_pos c, if_pos c]; exact or_mo h hq ha hb e 4 0 _ (by omega) f g
  · rw [if_neg c, if_neg c]
theorem wy_q {S : St} (hF : FI S) (x y t k q : Int32) : qf S (wyT S x y t k q) := by
  unfold wyT
  by_cases c1 : plcI x y = 0
  · rw [if_pos c1]; exact qf.refl _
  rw [if_neg c1]
  by_cases c4 : dstI t = 0
  · rw [if_pos c4]; exact qf.refl _
  rw [if_neg c4]
  obtain ⟨a, b, ha, hb, rfl, rfl⟩ := plc_at c1
  obtain ⟨s, h1, h2, rfl⟩ := dst_at c4
  have f := (trc_hd hF ha hb h2).2
  split
  · exact qf.refl _
  · split
    · exact qf.refl _
    · split
      · exact f
      · exact qf.refl _
theorem op_way {S : St} (h : Inv S) (x y t k q : Int32) : wyR S x y t k q = mwyR (wyT S x y t k q) x y t k q ∧ Inv (wyT S x y t k q) := by
  have hq := wy_q h.1 x y t k q
  refine ⟨?_, Inv_q hq h⟩
  generalize wyT S x y t k q = T at hq
  have hT := Inv_q hq h
  unfold wyR mwyR
  rw [plc_m]
  by_cases c1 : plcI x y = 0
  · rw [if_pos c1, if_pos c1]
  rw [if_neg c1, if_neg c1]
  by_cases c4 : dstI t = 0
  · rw [if_pos c4, if_pos ((dst_m t).mpr c4)]
  rw [if_neg c4, if_neg (fun z => c4 ((dst_m t).mp z))]
  obtain ⟨a, b, ha, hb, rfl, rfl⟩ := plc_at c1
  obtain ⟨s, h1, h2, rfl⟩ := dst_at c4
  by_cases c5 : k < 0
  · rw [if_pos c5, if_pos c5]
  rw [if_neg c5, if_neg c5]
  obtain ⟨g, f⟩ := trc_hd h.1 ha hb h2
  have gm := (gac_hm (Inv_p hT) (nI a) (nI b) (nI s) 0).1
  rw [trB_q hq, ← trAB h] at gm
  by_cases c6 : q < 0
  · rw [if_pos c6, if_pos ((bo02 q).mpr (Or.inl c6))]
  by_cases c7 : q ≤ 2
  · rw [if_neg c6, if_pos c7, if_neg (fun z => ((bo02 q).mp z).elim c6 (fun w => by rw [Int32.lt_iff_toInt_lt] at w; rw [Int32.le_iff_toInt_le] at c7; omega))]
    unfold rdI
    rw [if_neg c5, g.1, gm.1.1]
    by_cases c8 : k < nI (trA S (nI a) (nI b) (nI s)).length
    · rw [if_pos c8, if_pos c8]
      obtain ⟨n, hn, rfl⟩ := nI_of (x := k) c5
      have l40 := g.2.1
      have hlt := (nI_ltI hn (show (trA S (nI a) (nI b) (nI s)).length < 2 ^ 31 by omega)).mp c8
      have e := Option.some.inj ((g.2.2 n hlt).symm.trans (gm.1.2.2 n hlt))
      rw [ncl hn]
      have e1 := congrArg (·.1) e
      have e2 := congrArg (·.2.1) e
      have e3 := congrArg (·.2.2) e
      dsimp only at e1 e2 e3
      rw [e1, e2, e3]
    · rw [if_neg c8, if_neg c8]
  · rw [if_neg c6, if_neg c7, if_pos ((bo02 q).mpr (Or.inr (Int32.not_le.mp c7)))]
