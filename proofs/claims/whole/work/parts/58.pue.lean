/-! STEP -/
theorem fth_it {U T : St} (h : FI U) (g : agp U T) : ∀ n, FI (itr fthS n U) ∧ agp (itr fthS n U) (itr gonS n T) ∧ (itr fthS n U).1 19 0 = U.1 19 0 + nI n ∧ ∀ k, 19 < k → (itr fthS n U).1 k = U.1 k
  | 0 => ⟨h, g, by rw [itr, nI_0]; simp, fun _ _ => rfl⟩
  | n + 1 => by
    obtain ⟨i1, i2, i3, i4⟩ := fth_it h g n
    obtain ⟨j1, j2, j3, j4⟩ := fth_m i1 i2
    rw [itr, itr]
    exact ⟨j1, j2, by rw [j3, i3, ← nI_1, Int32.add_assoc], fun k hk => (j4 k hk).trans (i4 k hk)⟩
theorem bck_it {U T : St} (h : FI U) (g : agp U T) : ∀ n, FI (itr bckS n U) ∧ agp (itr bckS n U) (itr gbkS n T) ∧ (itr bckS n U).1 19 0 = U.1 19 0 + -(nI n) ∧ ∀ k, 19 < k → (itr bckS n U).1 k = U.1 k
  | 0 => ⟨h, g, by rw [itr, nI_0]; simp, fun _ _ => rfl⟩
  | n + 1 => by
    obtain ⟨i1, i2, i3, i4⟩ := bck_it h g n
    obtain ⟨j1, j2, j3, j4⟩ := bck_m i1 i2
    rw [itr, itr]
    refine ⟨j1, j2, ?_, fun k hk => (j4 k hk).trans (i4 k hk)⟩
    rw [j3, i3, ← nI_1]; clear i1 i2 i3 i4 j1 j2 j3 j4 h g; grind
theorem gon_f (T : St) : (∀ k, k < 20 ∨ k = 28 → (gonS T).1 k = T.1 k) ∧ (gonS T).2 = T.2 := by
  unfold gonS
  obtain ⟨m1, m2, _, _⟩ := mf_c T 40
  generalize mfT T 40 = M at *
  obtain ⟨o1, o2, _⟩ := go_c M 40
  generalize goT M 40 = N at *
  exact ⟨fun k hk => by rw [o1 k (by omega) (by omega) (by omega) (by omega), m1 k (by omega) (by omega)], by rw [o2, m2]⟩
theorem gbk_f (T : St) : (∀ k, k < 20 ∨ k = 28 → (gbkS T).1 k = T.1 k) ∧ (gbkS T).2 = T.2 := by
  unfold gbkS
  obtain ⟨b1, b2, _, _⟩ := gb_c T 40
  generalize gbT T 40 = P at *
  obtain ⟨m1, m2, _, _⟩ := mf_c P 40
  generalize mfT P 40 = M at *
  obtain ⟨o1, o2, _⟩ := gc_c M 40
  generalize gcT M 40 = N at *
  exact ⟨fun k hk => by rw [o1 k (by omega) (by omega), m1 k (by omega) (by omega), b1 k (by omega) (by omega)], by rw [o2, m2, b2]⟩
theorem gon_it (T : St) : ∀ n, (∀ k, k < 20 ∨ k = 28 → (itr gonS n T).1 k = T.1 k) ∧ (itr gonS n T).2 = T.2
  | 0 => ⟨fun _ _ => rfl, rfl⟩
  | n + 1 => by
    have i := gon_it T n
    have f := gon_f (itr gonS n T)
    rw [itr]
    exact ⟨fun k hk => (f.1 k hk).trans (i.1 k hk), f.2.trans i.2⟩
theorem gbk_it (T : St) : ∀ n, (∀ k, k < 20 ∨ k = 28 → (itr gbkS n T).1 k = T.1 k) ∧ (itr gbkS n T).2 = T.2
  | 0 => ⟨fun _ _ => rfl, rfl⟩
  | n + 1 => by
    have i := gbk_it T n
    have f := gbk_f (itr gbkS n T)
    rw [itr]
    exact ⟨fun k hk => (f.1 k hk).trans (i.1 k hk), f.2.trans i.2⟩
theorem agp_of {S U : St} (h : Lk S) (f : ∀ k, 19 < k → U.1 k = S.1 k) : agp S U := by
  unfold agp
  rw [f 20 (by omega), f 21 (by omega), f 22 (by omega), f 23 (by omega), f 24 (by omega), f 25 (by omega), f 26 (by omega), f 27 (by omega)]
  exact ⟨h.1, h.2.1, h.2.2.1⟩
theorem st_fin {S U W : St} {n : Int32} (h : Inv S) (hU : FI U) (gW : agp U W) (e19 : U.1 19 0 = S.1 19 0 + n) (eU : ∀ k, 19 < k → U.1 k = S.1 k) (fW : ∀ k, k < 20 ∨ k = 28 → W.1 k = U.1 k) (fJ : W.2 = U.2) : U.1 19 0 = (sI W 28 0 (W.1 28 0 + n)).1 28 0 ∧ Inv (sI W 28 0 (W.1 28 0 + n)) := by
  have z : ∀ k, k ≠ 28 → (sI W 28 0 (W.1 28 0 + n)).1 k = W.1 k := fun k hk => sI_ne hk
  have z28 : (sI W 28 0 (W.1 28 0 + n)).1 28 0 = S.1 28 0 + n := by rw [sI_eq, upd_eq, fW 28 (Or.inr rfl), eU 28 (by omega)]
  have zJ : (sI W 28 0 (W.1 28 0 + n)).2 = U.2 := fJ
  generalize sI W 28 0 (W.1 28 0 + n) = V at *
  have r : U.1 19 0 = V.1 28 0 := by rw [e19, z28, h.2.2.2.2]
  refine ⟨r, FI_of (fun a ha => by rw [z a (by omega), fW a (by omega)]) hU, ?_⟩
  have g := gW.1
  unfold Lk
  rw [zJ, z 0 (by decide), z 1 (by decide), z 2 (by decide), z 3 (by decide), z 4 (by decide), z 5 (by decide), z 8 (by decide), z 19 (by decide), z 20 (by decide), z 21 (by decide), z 22 (by decide), z 23 (by decide), z 24 (by decide), z 25 (by decide), z 26 (by decide), z 27 (by decide), fW 0 (by omega), fW 1 (by omega), fW 2 (by omega), fW 3 (by omega), fW 4 (by omega), fW 5 (by omega), fW 8 (by omega), fW 19 (by omega)]
  exact ⟨g, gW.2.1, gW.2.2, r⟩
theorem st_b (c : Int32) : inL c.toInt64 (-8) 8 = 0 ↔ c < -8 ∨ 8 < c := in_0 (a := -8) (b := 8)
theorem op_step {S : St} (h : Inv S) (n : Int32) : spR S n = mstR (spT S n) n ∧ Inv (mstT (spT S n) n) := by
  unfold spR spT
  by_cases c0 : n = 0
  · simp only [if_pos c0]
    unfold mstR mstT
    by_cases d : inL n.toInt64 (-8) 8 = 0
    · rw [if_pos d, if_pos d]; exact ⟨rfl, h⟩
    · rw [if_neg d, if_neg d, if_pos c0, if_pos c0]; exact ⟨rfl, h⟩
  simp only [if_neg c0]
  by_cases c1 : n < -8
  · simp only [if_pos c1]
    have d := (st_b n).mpr (Or.inl c1)
    unfold mstR mstT
    rw [if_pos d, if_pos d]; exact ⟨rfl, h⟩
  simp only [if_neg c1]
  by_cases c2 : n ≤ 8
  · simp only [if_pos c2]
    have d : ¬ inL n.toInt64 (-8) 8 = 0 := fun z => ((st_b n).mp z).elim c1 (Int32.not_lt.mpr c2)
    by_cases c3 : n < 0
    · simp only [if_pos c3]
      have r1 : -8 ≤ n.toInt := by
        rw [Int32.lt_iff_toInt_lt] at c1
        have e : (-8 : Int32).toInt = -8 := by decide
        omega
      have r2 : n.toInt < 0 := by rw [Int32.lt_iff_toInt_lt] at c3; exact c3
      have c4 : ¬ -n < 0 := fun z => by
        rw [Int32.lt_iff_toInt_lt, Int32.toInt_neg, bm32 (by omega) (by omega)] at z
        have e : (0 : Int32).toInt = 0 := rfl
        omega
      obtain ⟨k, hk, ek⟩ := nI_of (x := -n) c4
      have en : n = -(nI k) := by rw [← ek]; simp
      rw [ek, ncl hk]
      have f := (bck_it h.1 (agp_of h.2 (fun _ _ => rfl)) k).2.2.2
      obtain ⟨i1, i2, i3, _⟩ := bck_it h.1 (agp_of h.2 f) k
      have gb := gbk_it (itr bckS k S) k
      generalize itr bckS k S = U at *
      have w : mspU U n = itr gbkS k U := by unfold mspU; rw [if_pos c3, ek, ncl hk]
      rw [← en] at i3
      have r := st_fin h i1 i2 i3 f gb.1 gb.2
      have t : mstT U n = sI (itr gbkS k U) 28 0 ((itr gbkS k U).1 28 0 + n) := by unfold mstT; rw [if_neg d, if_neg c0, w]
      unfold mstR
      rw [if_neg d, if_neg c0, t]; exact r
    · simp only [if_neg c3]
      obtain ⟨k, hk, ek⟩ := nI_of (x := n) c3
      have ck : n.toNatClampNeg = k := by rw [ek, ncl hk]
      rw [ck]
      have f := (fth_it h.1 (agp_of h.2 (fun _ _ => rfl)) k).2.2.2
      obtain ⟨i1, i2, i3, _⟩ := fth_it h.1 (agp_of h.2 f) k
      have gb := gon_it (itr fthS k S) k
      generalize itr fthS k S = U at *
      have w : mspU U n = itr gonS k U := by unfold mspU; rw [if_neg c3, ck]
      rw [← ek] at i3
      have r := st_fin h i1 i2 i3 f gb.1 gb.2
      have t : mstT U n = sI (itr gonS k U) 28 0 ((itr gonS k U).1 28 0 + n) := by unfold mstT; rw [if_neg d, if_neg c0, w]
      unfold mstR
      rw [if_neg d, if_neg c0, t]; exact r
  · simp only [if_neg c2]
    have d := (st_b n).mpr (Or.inr (Int32.not_le.mp c2))
    unfold mstR mstT
    rw [if_pos d, if_pos d]; exact ⟨rfl, h⟩
/-! the state at the start -/
def S00 : St := (fun a => if a = 8 then (fun _ => 2) else if a = 16 then (fun _ => 1) else if a = 27 then (fun _ => 2) else if a = 26 then upd (fun _ => 0) 0 1 else fun _ => 0, fun j => if j = 1 then vp_updL (fun _ => 0) 0 1 else fun _ => 0)
theorem mn_0 : ∀ n, mnI (fun _ => 0) n = 0
  | 0 => rfl
  | n + 1 => by rw [mnI, mn_0 n]; rfl
theorem pn_0 (px py : Nat → Int32) (l i j : Int32) : ∀ n, pnI (fun _ => 0) px py l i j n = 0
  | 0 => rfl
  | n + 1 => by rw [pnI, pn_0 px py l i j n]; rfl
theorem Inv_0 : Inv S00 := by
  refine ⟨⟨fun p _ h => absurd rfl h, fun p _ h => absurd rfl h, ?_, ?_, 2, by omega, by omega, rfl⟩, ⟨⟨rfl, rfl, rfl, rfl, rfl, rfl⟩, rfl, ?_, rfl⟩⟩
  · exact (mn_0 40).symm
  · intro l i j _ _ _
    exact (pn_0 _ _ _ _ _ 40).symm
  · intro a b hab
    show vp_updL (fun _ => 0) 0 1 (a * 5 + b) = (upd (fun _ => 0) 0 1 (5 * a + b)).toInt64
    unfold vp_updL upd
    by_cases e : a * 5 + b = 0
    · rw [if_pos e, if_pos (by omega)]; rfl
    · rw [if_neg e, if_neg (by omega)]; rfl
