/-! the two sides, held together -/
def ag (U T : St) : Prop := (U.1 0 = T.1 20 ∧ U.1 1 = T.1 21 ∧ U.1 2 = T.1 22 ∧ U.1 3 = T.1 23 ∧ U.1 4 = T.1 24 ∧ U.1 5 = T.1 25) ∧ U.1 8 0 = T.1 27 0 ∧ kOk (U.2 1) (T.1 26) ∧ U.1 19 0 = T.1 28 0
theorem ag_of {S T : St} (h : Lk S) (f : ∀ a, 19 < a → T.1 a = S.1 a) : ag S T := by
  unfold ag
  rw [f 20 (by omega), f 21 (by omega), f 22 (by omega), f 23 (by omega), f 24 (by omega), f 25 (by omega), f 26 (by omega), f 27 (by omega), f 28 (by omega)]
  exact h
theorem ag_q {S T : St} (h : Lk S) (f : qf S T) : ag S T := ag_of h (fun a ha => f.1 a (by omega))
theorem ag_l {S U T : St} (h : ag S T) (f : qf S U) : ag U T := by
  unfold ag
  rw [f.1 0 (by omega), f.1 1 (by omega), f.1 2 (by omega), f.1 3 (by omega), f.1 4 (by omega), f.1 5 (by omega), f.1 8 (by omega), f.1 19 (by omega), f.2 1 (by decide) (by decide)]
  exact h
/-! SUM -/
theorem su_v {S T : St} (hw : wOk (S.1 0) (S.1 3)) (h : ag S T) (x y : Int32) : ∀ n, n ≤ 40 → suV S x y n = saV (T.1 20) (T.1 26) (T.1 21) (T.1 22) (T.1 23) x y n
  | 0, _ => rfl
  | n + 1, hn => by
    have l := h.1
    rw [suV, saV, su_v hw h x y n (by omega), ← l.1]
    by_cases c : S.1 0 n = 0
    · rw [if_pos c, if_pos c]; simp
    · rw [if_neg c, if_neg c, pul_eq h.2.2.1 hw (by omega) c, l.2.1, l.2.2.1, l.2.2.2.1]
theorem op_sum {S : St} (h : Inv S) (x y : Int32) : suR S x y = msuR S x y ∧ Inv S := by
  refine ⟨?_, h⟩
  unfold suR msuR
  rw [plc_m, su_v h.1.2.1 h.2 x y 40 (Nat.le_refl _)]
/-! AT -/
theorem bo39 (x : Int32) : inL x.toInt64 0 39 = 0 ↔ x < 0 ∨ 39 < x := in_0 (a := 0) (b := 39)
theorem has_m (S : St) (p : Int32) : mptI (S.1 0) p = hasI S p := by
  unfold mptI hasI
  have e1 : 39 < p ↔ 40 ≤ p := by rw [Int32.lt_iff_toInt_lt, Int32.le_iff_toInt_le, show (39 : Int32).toInt = 39 from rfl, show (40 : Int32).toInt = 40 from rfl]; omega
  simp only [bo39, e1]
  by_cases a1 : p < 0 <;> by_cases a2 : 40 ≤ p <;> simp [a1, a2]
theorem has_a {S T : St} (h : ag S T) (p : Int32) : mptI (T.1 20) p = hasI S p := by rw [← h.1.1]; exact has_m S p
theorem at_m {S T : St} (h : ag S T) (p q : Int32) : aqR S p q = matR T p q := by
  have l := h.1
  unfold aqR matR readI
  rw [has_a h, l.2.1, l.2.2.1, l.2.2.2.1, l.2.2.2.2.1, l.2.2.2.2.2]
theorem op_at {S : St} (h : Inv S) (p q : Int32) : aqR S p q = matR S p q ∧ Inv S := ⟨at_m h.2 p q, h⟩
/-! LEAF -/
theorem lv_m {S : St} (h : FI S) {a b : Nat} (ha : a < 64) (hb : b < 64) : ∀ n l, l + n = 5 → lvI S a b n l = mlfI (S.1 0) (S.1 1) (S.1 2) (S.1 8 0) (nI a) (nI b) n l
  | 0, l, hl => by rw [lvI, mlfI, show l = 5 by omega]; rfl
  | n + 1, l, hl => by
    have e := cap_01 h (show l ≤ 5 by omega) (num_lt (l := l) (by omega) ha) (num_lt (l := l) (by omega) hb)
    rw [lvI, mlfI, num_N (by omega) (by omega), num_N (by omega) (by omega), ← e, lv_m h ha hb n (l + 1) (by omega)]
    unfold splI pixN
    rw [if_neg (show ¬ (5 : Int32) ≤ nI l from nI_ge (b := 5) (by omega) (by decide))]
    by_cases c : S.1 7 (bixN l (numN l a) (numN l b)) ≤ S.1 8 0
    · rw [if_pos c, if_pos rfl, if_neg (Int32.not_lt.mpr c)]
    · rw [if_neg c, if_pos (Int32.not_le.mp c), if_neg (by decide)]
theorem op_leaf {S : St} (h : Inv S) (x y : Int32) : lfyR S x y = mleR S x y ∧ Inv S := by
  refine ⟨?_, h⟩
  have l := h.2.1
  unfold lfyR mleR
  rw [plc_m]
  by_cases c1 : plcI x y = 0
  · rw [if_pos c1, if_pos c1]
  rw [if_neg c1, if_neg c1]
  obtain ⟨a, b, ha, hb, rfl, rfl⟩ := plc_at c1
  rw [ncl (by omega), ncl (by omega), lv_m h.1 ha hb 5 0 rfl, l.1, l.2.1, l.2.2.1, h.2.2.1]
/-! NEAREST -/
theorem sq_N {a c : Nat} (ha : a < 64) (hc : c < 64) : ∃ d : Nat, d < 4096 ∧ (nI a - nI c) * (nI a - nI c) = nI d := by
  rcases Nat.le_total c a with g | g
  · refine ⟨(a - c) * (a - c), ?_, by rw [pk_sub g, pk_mul]⟩
    have : (a - c) * (a - c) ≤ 63 * 63 := Nat.mul_le_mul (by omega) (by omega)
    omega
  · refine ⟨(c - a) * (c - a), ?_, by rw [show (nI a - nI c) * (nI a - nI c) = (nI c - nI a) * (nI c - nI a) by grind, pk_sub g, pk_mul]⟩
    have : (c - a) * (c - a) ≤ 63 * 63 := Nat.mul_le_mul (by omega) (by omega)
    omega
theorem fa_N {S : St} (h : plOk S) {p a b : Nat} (hp : p < 40) (hh : ¬ S.1 0 p = 0) (ha : a < 64) (hb : b < 64) : ∃ d : Nat, d < 8192 ∧ faI (S.1 1) (S.1 2) p (nI a) (nI b) = nI d ∧ rkI S (nI p) (nI a) (nI b) = nI (d * 40 + p) := by
  obtain ⟨u, hu, eu⟩ := vp_in_of (h p hp hh).1 (by decide)
  obtain ⟨w, hw, ew⟩ := vp_in_of (h p hp hh).2 (by decide)
  obtain ⟨d1, h1, e1⟩ := sq_N hu ha
  obtain ⟨d2, h2, e2⟩ := sq_N hw hb
  refine ⟨d1 + d2, by omega, ?_, ?_⟩
  · unfold faI; rw [eu, ew, e1, e2, nI_add]
  · unfold rkI; rw [ncl (by omega), eu, ew, e1, e2, nI_add, show (40 : Int32) = nI 40 from rfl, pk_mul, nI_add]
theorem nr_m {S : St} (h : plOk S) {p a b : Nat} (hp : p < 40) (hh : ¬ S.1 0 p = 0) (ha : a < 64) (hb : b < 64) : ∀ n, n ≤ 40 → nrI S (nI p) (nI a) (nI b) n = ahI (S.1 0) (S.1 1) (S.1 2) p (nI a) (nI b) n
  | 0, _ => rfl
  | n + 1, hn => by
    rw [nrI, ahI, nr_m h hp hh ha hb n (by omega)]
    by_cases c : S.1 0 n = 0
    · rw [if_pos c, if_pos c]; simp
    · rw [if_neg c, if_neg c]
      obtain ⟨d1, h1, e1, f1⟩ := fa_N h hp hh ha hb
      obtain ⟨d2, h2, e2, f2⟩ := fa_N h (show n < 40 by omega) c ha hb
      rw [e1, f1, e2, f2]
      simp only [nI_leI (show d1 * 40 + p < 2 ^ 31 by omega) (show d2 * 40 + n < 2 ^ 31 by omega), nI_ltI (show d2 < 2 ^ 31 by omega) (show d1 < 2 ^ 31 by omega), nI_eq (show d2 < 2 ^ 31 by omega) (show d1 < 2 ^ 31 by omega), nI_leI (show p < 2 ^ 31 by omega) (show n < 2 ^ 31 by omega)]
      by_cases c1 : d2 < d1
      · rw [if_neg (by omega), if_pos c1]
      · rw [if_neg c1]
        by_cases c2 : d2 = d1
        · rw [if_pos c2]
          by_cases c3 : p ≤ n
          · rw [if_pos (by omega), if_pos c3]; simp
          · rw [if_neg (by omega), if_neg c3]
        · rw [if_neg c2, if_pos (by omega)]; simp
theorem ne_m {S : St} (h : plOk S) {a b : Nat} (k : Int32) (ha : a < 64) (hb : b < 64) : ∀ n p, p + n = 40 → neV S (nI a) (nI b) k n p = mneV (S.1 0) (S.1 1) (S.1 2) (nI a) (nI b) k n p
  | 0, _, _ => rfl
  | n + 1, p, hp => by
    rw [neV, mneV, ne_m h k ha hb n (p + 1) (by omega)]
    by_cases c : S.1 0 p = 0
    · rw [if_pos c, if_pos c]
    · rw [if_neg c, if_neg c, nr_m h (by omega) c ha hb 40 (Nat.le_refl _)]
theorem op_nearest {S : St} (h : Inv S) (x y k : Int32) : neR S x y k = mneR S x y k ∧ Inv S := by
  refine ⟨?_, h⟩
  have l := h.2.1
  unfold neR mneR
  rw [plc_m]
  by_cases c1 : plcI x y = 0
  · rw [if_pos c1, if_pos c1]
  rw [if_neg c1, if_neg c1]
  obtain ⟨a, b, ha, hb, rfl, rfl⟩ := plc_at c1
  rw [ne_m h.1.1 k ha hb 40 0 rfl, l.1, l.2.1, l.2.2.1]
/-! BOX and MOMENT -/
theorem sh1_N : ∀ k, k < 6 → (1 : Int32) <<< (nI k &&& 31) = nI (2 ^ k) ∧ (1 : Int32) <<< (nI k &&& 31) - 1 = nI (2 ^ k - 1) := by decide +kernel
theorem sh_d : ∀ k, k < 6 → ∀ l, l < 6 → l ≤ k → (((nI k - nI l) &&& 31).toBitVec.smod 32).toNat = k - l := by decide +kernel
theorem shr_b {a k l : Nat} (ha : a < 64) (hk : k < 6) (hl : l ≤ k) : nI a >>> ((nI k - nI l) &&& 31) = nI (a / 2 ^ (k - l)) := pk_shrN (by omega) _ _ (sh_d k hk l (by omega) hl)
theorem mbl_k {hr px py : Nat → Int32} (h : pOk hr px py) {m : Nat} (hm : m < 2 ^ 31) {k a b : Nat} (hk : k ≤ 5) (ha : a < 2 ^ k) (hb : b < 2 ^ k) : ∀ n, n < k → mblI hr px py (nI m) (nI k) (nI a) (nI b) (n + 1) = if cN hr px py n (a / 2 ^ (k - n)) (b / 2 ^ (k - n)) 40 ≤ m then 0 else 1
  | 0, hn => by
    have a6 := lt64 hk ha
    have b6 := lt64 hk hb
    have a7 : a / 2 ^ (k - 0) < 64 := Nat.lt_of_le_of_lt (Nat.div_le_self _ _) a6
    have b7 : b / 2 ^ (k - 0) < 64 := Nat.lt_of_le_of_lt (Nat.div_le_self _ _) b6
    have c40 := cN_le hr px py 0 (a / 2 ^ (k - 0)) (b / 2 ^ (k - 0)) 40
    rw [mblI, mblI, if_neg (by decide), shr_b a6 (by omega) (by omega), shr_b b6 (by omega) (by omega)]
    unfold mspI
    rw [if_neg (show ¬ (5 : Int32) ≤ nI 0 by decide), pnI_c h (by omega) a7 b7 40 (Nat.le_refl _)]
    simp only [nI_leI (show cN hr px py 0 (a / 2 ^ (k - 0)) (b / 2 ^ (k - 0)) 40 < 2 ^ 31 by omega) hm]
    split
    · rfl
    · rfl
  | n + 1, hn => by
    have ih := mbl_k h hm hk ha hb n (by omega)
    have a6 := lt64 hk ha
    have b6 := lt64 hk hb
    have a7 : a / 2 ^ (k - (n + 1)) < 64 := Nat.lt_of_le_of_lt (Nat.div_le_self _ _) a6
    have b7 : b / 2 ^ (k - (n + 1)) < 64 := Nat.lt_of_le_of_lt (Nat.div_le_self _ _) b6
    have c40 := cN_le hr px py (n + 1) (a / 2 ^ (k - (n + 1))) (b / 2 ^ (k - (n + 1))) 40
    have par := cN_par hr px py (l := n) (a / 2 ^ (k - (n + 1))) (b / 2 ^ (k - (n + 1))) (by omega) 40
    rw [Nat.div_div_eq_div_mul, Nat.div_div_eq_div_mul, ← Nat.pow_succ, show (k - (n + 1)).succ = k - n by omega] at par
    rw [mblI, ih, shr_b a6 (by omega) (by omega), shr_b b6 (by omega) (by omega)]
    unfold mspI
    rw [if_neg (show ¬ (5 : Int32) ≤ nI (n + 1) from nI_ge (b := 5) (by omega) (by decide)), pnI_c h (by omega) a7 b7 40 (Nat.le_refl _)]
    simp only [nI_leI (show cN hr px py (n + 1) (a / 2 ^ (k - (n + 1))) (b / 2 ^ (k - (n + 1))) 40 < 2 ^ 31 by omega) hm]
    by_cases c : cN hr px py n (a / 2 ^ (k - n)) (b / 2 ^ (k - n)) 40 ≤ m
    · rw [if_pos c, if_pos rfl, if_pos (by omega)]
    · rw [if_neg c, if_neg (by decide)]
      split
      · rfl
      · rfl
theorem bo05 (x : Int32) : inL x.toInt64 0 5 = 0 ↔ x < 0 ∨ 5 < x := in_0 (a := 0) (b := 5)
theorem boN (x : Int32) (k : Nat) : inL x.toInt64 0 (nI k).toInt64 = 0 ↔ x < 0 ∨ nI k < x := in_0 (a := 0) (b := nI k)
theorem i32_pred {x : Int32} {n : Nat} (h1 : 1 ≤ n) (h : n < 2 ^ 31) : nI (n - 1) < x ↔ nI n ≤ x := by
  rw [Int32.lt_iff_toInt_lt, Int32.le_iff_toInt_le, nI_toInt (by omega), nI_toInt h]; omega
/-- a box of this number is there: the one above splits -/
def bxB (hr px py : Nat → Int32) (m k a b : Nat) : Bool := match k with
  | 0 => true
  | n + 1 => decide (m < cN hr px py n (a / 2) (b / 2) 40)
theorem mbx_N {hr px py : Nat → Int32} (h : pOk hr px py) {m : Nat} (hm : m < 2 ^ 31) {k a b : Nat} (hk : k ≤ 5) (ha : a < 2 ^ k) (hb : b < 2 ^ k) : mbxI hr px py (nI m) (nI k) (nI a) (nI b) = if bxB hr px py m k a b = true then 1 else 0 := by
  have p2 := p2_lt hk
  unfold mbxI
  rw [if_neg (fun z => ((bo05 _).mp z).elim (nI_pos (by omega)) (nI_nlt (a := 5) hk (by omega))), (sh1_N k (by omega)).2, if_neg (fun z => ((boN _ _).mp z).elim (nI_pos (by omega)) (nI_nlt (by omega) (by omega))), if_neg (fun z => ((boN _ _).mp z).elim (nI_pos (by omega)) (nI_nlt (by omega) (by omega))), ncl (by omega)]
  cases k with
  | zero => rfl
  | succ n =>
    rw [mbl_k h hm hk ha hb n (by omega), show n + 1 - n = 1 by omega, Nat.pow_one]
    unfold bxB
    by_cases c : cN hr px py n (a / 2) (b / 2) 40 ≤ m
    · rw [if_pos c, if_neg (by simp; omega)]
    · rw [if_neg c, if_pos (by simp; omega)]
theorem thr_N {S : St} (h : FI S) {m : Nat} (hm : m < 2 ^ 31) (h8 : S.1 8 0 = nI m) {k a b : Nat} (hk : k ≤ 5) (ha : a < 2 ^ k) (hb : b < 2 ^ k) : thrI S (nI k) (nI a) (nI b) = if bxB (S.1 0) (S.1 1) (S.1 2) m k a b = true then 1 else 0 := by
  have p2 := p2_lt hk
  unfold thrI
  rw [if_neg (nI_pos (by omega)), if_pos (show nI k ≤ 5 from nI_le (b := 5) hk (by omega)), if_neg (nI_pos (by omega)), (sh1_N k (by omega)).1, if_neg (nI_ge ha (by omega)), if_neg (nI_pos (by omega)), if_pos (nI_lt hb (by omega)), ncl (by omega), ncl (by omega), ncl (by omega)]
  cases k with
  | zero => rfl
  | succ n =>
    have a2 : a / 2 < 2 ^ n := by rw [Nat.pow_succ] at ha; omega
    have b2 : b / 2 < 2 ^ n := by rw [Nat.pow_succ] at hb; omega
    have c40 := cN_le (S.1 0) (S.1 1) (S.1 2) n (a / 2) (b / 2) 40
    rw [if_neg (nI_ne0 (by omega) (by omega)), Nat.add_sub_cancel, h.2.2.2.1 n (a / 2) (b / 2) (by omega) a2 b2, pnI_c h.1 (by omega) (lt64 (by omega) a2) (lt64 (by omega) b2) 40 (Nat.le_refl _), h8]
    simp only [nI_leI (show cN (S.1 0) (S.1 1) (S.1 2) n (a / 2) (b / 2) 40 < 2 ^ 31 by omega) hm]
    unfold bxB
    by_cases c : cN (S.1 0) (S.1 1) (S.1 2) n (a / 2) (b / 2) 40 ≤ m
    · rw [if_pos c, if_neg (by simp; omega)]
    · rw [if_neg c, if_pos (by simp; omega)]
theorem mbx_out {hr px py : Nat → Int32} {mo l i j : Int32} (h : ¬ ∃ k a b : Nat, k ≤ 5 ∧ a < 2 ^ k ∧ b < 2 ^ k ∧ l = nI k ∧ i = nI a ∧ j = nI b) : mbxI hr px py mo l i j = 0 := by
  unfold mbxI
  split
  · rfl
  · rename_i c
    have c1 : ¬ l < 0 := fun z => c ((bo05 l).mpr (Or.inl z))
    have c2 : ¬ 5 < l := fun z => c ((bo05 l).mpr (Or.inr z))
    obtain ⟨k, hk, rfl⟩ := nI_of2 (x := l) (M := 5) (n := 5) (by decide) c1 (Int32.not_lt.mp c2)
    have p2 := p2_lt hk
    have p1 := Nat.two_pow_pos k
    rw [(sh1_N k (by omega)).2]
    split
    · rfl
    · rename_i d
      split
      · rfl
      · rename_i e
        have d1 : ¬ i < 0 := fun z => d ((boN i _).mpr (Or.inl z))
        have d2 : ¬ nI (2 ^ k - 1) < i := fun z => d ((boN i _).mpr (Or.inr z))
        have e1 : ¬ j < 0 := fun z => e ((boN j _).mpr (Or.inl z))
        have e2 : ¬ nI (2 ^ k - 1) < j := fun z => e ((boN j _).mpr (Or.inr z))
        obtain ⟨a, ha, rfl⟩ := nI_of2 (x := i) (M := nI (2 ^ k - 1)) (n := 2 ^ k - 1) (nI_toInt (by omega)) d1 (Int32.not_lt.mp d2)
        obtain ⟨b, hb, rfl⟩ := nI_of2 (x := j) (M := nI (2 ^ k - 1)) (n := 2 ^ k - 1) (nI_toInt (by omega)) e1 (Int32.not_lt.mp e2)
        exact absurd ⟨k, a, b, hk, by omega, by omega, rfl, rfl, rfl⟩ h
theorem thr_m {S : St} (h : FI S) (l i j : Int32) : thrI S l i j = mbxI (S.1 0) (S.1 1) (S.1 2) (S.1 8 0) l i j := by
  by_cases c : ∃ k a b : Nat, k ≤ 5 ∧ a < 2 ^ k ∧ b < 2 ^ k ∧ l = nI k ∧ i = nI a ∧ j = nI b
  · obtain ⟨k, a, b, hk, ha, hb, rfl, rfl, rfl⟩ := c
    obtain ⟨m, m1, m2, h8⟩ := h.2.2.2.2
    rw [thr_N h (by omega) h8 hk ha hb, h8, mbx_N h.1 (by omega) hk ha hb]
  · rw [mbx_out c]
    rcases Decidable.em (thrI S l i j = 0) with g | g
    · exact g
    · exact absurd (thr_at g) c
theorem op_box {S : St} (h : Inv S) (l i j q : Int32) : bxR S l i j q = mboR (bxT S l i j q) l i j q ∧ Inv (bxT S l i j q) := by
  have hq : qf S (bxT S l i j q) := by
    unfold bxT; split
    · exact qf.refl _
    · split
      · exact (gat_f _ _ _ _).qf
      · exact qf.refl _
  refine ⟨?_, Inv_q hq h⟩
  generalize bxT S l i j q = T at hq
  have hg := ag_q h.2 hq
  have g := hg.1
  unfold bxR mboR
  rw [← g.1, ← g.2.1, ← g.2.2.1, ← g.2.2.2.1, ← hg.2.1, ← thr_m h.1]
  by_cases c : thrI S l i j = 0
  · rw [if_pos c, if_pos c]
  rw [if_neg c, if_neg c]
  obtain ⟨k, a, b, hk, ha, hb, rfl, rfl, rfl⟩ := thr_at c
  have a6 := lt64 hk ha
  have b6 := lt64 hk hb
  rw [ncl (by omega), ncl (by omega), ncl (by omega), h.1.2.2.2.1 k a b hk ha hb, gat_bI h.1.2.1, cap_01 h.1 hk ha hb]
  by_cases d0 : q = 0
  · subst d0; rw [if_pos rfl, if_neg (by decide), if_pos rfl]
  by_cases d1 : q = 1
  · subst d1; rw [if_neg d0, if_pos rfl, if_neg (by decide), if_neg d0, if_pos rfl]
  by_cases d2 : q = 2
  · subst d2; rw [if_neg d0, if_neg d1, if_pos rfl, if_neg (by decide), if_neg d0, if_neg d1]
  rw [if_neg d0, if_neg d1, if_neg d2, if_pos ((bo02 q).mpr ((v3 q).mpr ⟨d0, d1, d2⟩))]
theorem pwr_m (a b : Int32) : mprI a b = pwrI a b := by
  unfold mprI pwrI
  by_cases a1 : a < 0
  · rw [if_pos a1, if_pos a1]
  rw [if_neg a1, if_neg a1]
  by_cases a2 : b < 0
  · rw [if_pos a2, if_pos a2]; split
    · rfl
    · rfl
  rw [if_neg a2, if_neg a2]
  by_cases a3 : 4 < a
  · rw [if_pos a3, if_pos a3]
  rw [if_neg a3, if_neg a3]
  obtain ⟨i, hi, rfl⟩ := nI_of2 (x := a) (M := 4) (n := 4) (by decide) a1 (Int32.not_lt.mp a3)
  rw [show (4 : Int32) - nI i = nI (4 - i) from pk_sub (a := 4) hi]
  obtain ⟨j, hj, rfl⟩ := nI_of (x := b) a2
  have q1 : (4 : Int32) < nI j ↔ 4 < j := nI_ltI (a := 4) (by omega) hj
  rw [nI_add]
  simp only [q1, nI_ltI (show 4 - i < 2 ^ 31 by omega) hj]
  by_cases a4 : 4 < j
  · rw [if_pos a4, if_pos (by omega)]
  have q2 : (4 : Int32) < nI (i + j) ↔ 4 < i + j := nI_ltI (a := 4) (by omega) (by omega)
  rw [if_neg a4]
  simp only [q2]
  by_cases a5 : 4 < i + j
  · rw [if_pos a5, if_pos (by omega)]
  · rw [if_neg a5, if_neg (by omega)]
theorem op_moment {S : St} (h : Inv S) (l i j a b : Int32) : moR S l i j a b = mmoR (moT S l i j a b) l i j a b ∧ Inv (moT S l i j a b) := by
  have hq : qf S (moT S l i j a b) := by
    unfold moT; split
    · exact qf.refl _
    · split
      · exact qf.refl _
      · exact (gat_f _ _ _ _).qf
  refine ⟨?_, Inv_q hq h⟩
  generalize moT S l i j a b = T at hq
  have hg := ag_q h.2 hq
  have g := hg.1
  unfold moR mmoR
  rw [← g.1, ← g.2.1, ← g.2.2.1, ← g.2.2.2.1, ← hg.2.1, ← thr_m h.1, pwr_m]
  by_cases c : thrI S l i j = 0
  · rw [if_pos c, if_pos c]
  rw [if_neg c, if_neg c]
  by_cases d : pwrI a b = 0
  · rw [if_pos d, if_pos d]
  rw [if_neg d, if_neg d]
  obtain ⟨u, w, hu, rfl, rfl⟩ := pwr_at d
  rw [ncl (by omega), ncl (by omega), gat_m S l i j hu]
