theorem FI_of2 {S T : St} (h : ∀ a, a < 9 → a ≠ 4 → a ≠ 5 → T.1 a = S.1 a) (g : FI S) : FI T := by
  unfold FI at *
  rw [h 0 (by decide) (by decide) (by decide), h 1 (by decide) (by decide) (by decide), h 2 (by decide) (by decide) (by decide), h 3 (by decide) (by decide) (by decide), h 6 (by decide) (by decide) (by decide), h 7 (by decide) (by decide) (by decide), h 8 (by decide) (by decide) (by decide)]
  exact ⟨plOk_of (h 0 (by decide) (by decide) (by decide)) (h 1 (by decide) (by decide) (by decide)) (h 2 (by decide) (by decide) (by decide)) g.1, g.2⟩
/-! TAKE -/
theorem rem_c (S : St) {p : Nat} (hp : p < 40) : (remS S (nI p)).1 0 = upd (S.1 0) p 0 ∧ (remS S (nI p)).1 6 0 = S.1 6 0 - 1 ∧ (∀ k, k ≠ 0 → k ≠ 6 → (remS S (nI p)).1 k = S.1 k) ∧ (remS S (nI p)).2 = S.2 := by
  unfold remS
  rw [ncl (by omega)]
  refine ⟨by simp [sI], by simp [sI, upd], fun k h0 h6 => ?_, rfl⟩
  rw [sI_ne h6, sI_ne h0]
theorem FI_tk {S : St} (h : FI S) {p : Nat} (hp : p < 40) (hh : ¬ S.1 0 p = 0) : FI (remS (leaI S (S.1 1 p) (S.1 2 p)) (nI p)) := by
  obtain ⟨a, ha, ea⟩ := vp_in_of (h.1 p hp hh).1 (by decide)
  obtain ⟨b, hb, eb⟩ := vp_in_of (h.1 p hp hh).2 (by decide)
  unfold leaI
  rw [ea, eb, ncl (by omega), ncl (by omega)]
  have f := lea_f S a b 6
  have t : ∀ l i j : Nat, l ≤ 5 → i < 2 ^ l → j < 2 ^ l → (leaS S a b 6).1 7 (bixN l i j) = S.1 7 (bixN l i j) - (if l < 6 then hN l i j a b else 0) := fun l i j hl hi hj => lea_t ha hb hl hi hj 6 (Nat.le_refl _)
  generalize leaS S a b 6 = T at *
  have A := rem_c T hp
  generalize remS T (nI p) = U at *
  unfold FI plOk
  rw [A.1, A.2.1, A.2.2.1 1 (by decide) (by decide), A.2.2.1 2 (by decide) (by decide), A.2.2.1 3 (by decide) (by decide), A.2.2.1 7 (by decide) (by decide), A.2.2.1 8 (by decide) (by decide), f.1 0 (by decide), f.1 1 (by decide), f.1 2 (by decide), f.1 3 (by decide), f.1 6 (by decide), f.1 8 (by decide)]
  have nz : ∀ q, ¬ upd (S.1 0) p 0 q = 0 → ¬ S.1 0 q = 0 := fun q g => by
    by_cases e : q = p
    · subst e; exact absurd upd_eq g
    · rw [upd_ne e] at g; exact g
  refine ⟨fun q hq g => h.1 q hq (nz q g), fun q hq g => h.2.1 q hq (nz q g), ?_, ?_, h.2.2.2.2⟩
  · have k := mn_ch (hr := S.1 0) (hs := upd (S.1 0) p 0) (p := p) (fun q hq => upd_ne hq) 40
    have k1 : zb (S.1 0 p) = 1 := by unfold zb; rw [if_neg hh]
    have k2 : zb 0 = 0 := rfl
    rw [if_pos hp, if_pos hp, upd_eq, k1, k2, ← h.2.2.1] at k
    grind
  · intro l i j hl hi hj
    rw [t l i j hl hi hj, if_pos (by omega), h.2.2.2.1 l i j hl hi hj]
    have k := pn_ch (hr := S.1 0) (px := S.1 1) (py := S.1 2) (hs := upd (S.1 0) p 0) (qx := S.1 1) (qy := S.1 2) (l := nI l) (i := nI i) (j := nI j) (p := p) (fun q hq => ⟨upd_ne hq, rfl, rfl⟩) 40
    rw [if_pos hp, if_pos hp, zb_no upd_eq, zb_in hh ea eb ha hb hl hi hj] at k
    grind
theorem op_take {S : St} (h : Inv S) (p : Int32) : tkR S p = mtkR (tkT S p) p ∧ Inv (mtkT (tkT S p) p) := by
  have l := h.2.1
  unfold tkR tkT
  by_cases c : hasI S p = 0
  · rw [if_pos c, if_pos c]
    have c2 : mptI (S.1 20) p = 0 := (has_a h.2 p).trans c
    unfold mtkR mtkT
    rw [if_pos c2, if_pos c2]; exact ⟨rfl, h⟩
  rw [if_neg c, if_neg c]
  obtain ⟨i, hi, rfl, hh⟩ := has_at c
  have F := FI_tk h.1 hi hh
  unfold tkU
  rw [ncl (by omega)]
  have f := lea_f S (S.1 1 i).toNatClampNeg (S.1 2 i).toNatClampNeg 6
  unfold leaI at F ⊢
  generalize leaS S (S.1 1 i).toNatClampNeg (S.1 2 i).toNatClampNeg 6 = T at *
  have A := rem_c T hi
  generalize remS T (nI i) = U at *
  have e20 : U.1 20 = S.1 20 := by rw [A.2.2.1 20 (by decide) (by decide), f.1 20 (by decide)]
  have e0 : U.1 0 = upd (S.1 20) i 0 := by rw [A.1, f.1 0 (by decide), l.1]
  have c2 : ¬ mptI (U.1 20) (nI i) = 0 := fun z => c (by rw [e20] at z; exact (has_a h.2 _).symm.trans z)
  have eT : mtkT U (nI i) = sI U 20 i 0 := by unfold mtkT; rw [if_neg c2, ncl (by omega)]
  unfold mtkR
  rw [if_neg c2, eT, sI_eq, e20]
  refine ⟨by rw [F.2.2.1, e0], FI_of (fun a ha => sI_ne (by omega)) F, ?_⟩
  unfold Lk
  rw [sI_eq, sI_ne (by decide), sI_ne (by decide), sI_ne (by decide), sI_ne (by decide), sI_ne (by decide), sI_ne (by decide), sI_ne (by decide), sI_ne (by decide), sI_ne (by decide), sI_ne (by decide), sI_ne (by decide), sI_ne (by decide), sI_ne (by decide), sI_ne (by decide), sI_ne (by decide), sI_ne (by decide), sI_J, e0, e20, A.2.2.2, f.2]
  have k : ∀ a, a ≠ 0 → a ≠ 6 → a ≠ 7 → U.1 a = S.1 a := fun a h0 h6 h7 => by rw [A.2.2.1 a h0 h6, f.1 a h7]
  rw [k 1 (by decide) (by decide) (by decide), k 2 (by decide) (by decide) (by decide), k 3 (by decide) (by decide) (by decide), k 4 (by decide) (by decide) (by decide), k 5 (by decide) (by decide) (by decide), k 8 (by decide) (by decide) (by decide), k 19 (by decide) (by decide) (by decide), k 21 (by decide) (by decide) (by decide), k 22 (by decide) (by decide) (by decide), k 23 (by decide) (by decide) (by decide), k 24 (by decide) (by decide) (by decide), k 25 (by decide) (by decide) (by decide), k 26 (by decide) (by decide) (by decide), k 27 (by decide) (by decide) (by decide), k 28 (by decide) (by decide) (by decide)]
  exact ⟨⟨rfl, l.2⟩, h.2.2⟩
/-! MOVE -/
theorem mv_c (S : St) {p : Nat} (hp : p < 40) (u v x y z w : Int32) : (entI (putS (leaI S u v) (nI p) x y) z w).1 1 = upd (S.1 1) p x ∧ (entI (putS (leaI S u v) (nI p) x y) z w).1 2 = upd (S.1 2) p y ∧ (∀ k, k ≠ 1 → k ≠ 2 → k ≠ 7 → (entI (putS (leaI S u v) (nI p) x y) z w).1 k = S.1 k) ∧ (entI (putS (leaI S u v) (nI p) x y) z w).2 = S.2 := by
  unfold entI leaI putS
  rw [ncl (by omega)]
  have f1 := lea_f S u.toNatClampNeg v.toNatClampNeg 6
  generalize leaS S u.toNatClampNeg v.toNatClampNeg 6 = T at *
  have f2 := ent_f (sI (sI T 1 p x) 2 p y) z.toNatClampNeg w.toNatClampNeg 6
  generalize entS (sI (sI T 1 p x) 2 p y) z.toNatClampNeg w.toNatClampNeg 6 = U at *
  refine ⟨?_, ?_, fun k h1 h2 h7 => ?_, ?_⟩
  · rw [f2.1 1 (by decide), sI_ne (by decide), sI_eq, f1.1 1 (by decide)]
  · rw [f2.1 2 (by decide), sI_eq, sI_ne (by decide), f1.1 2 (by decide)]
  · rw [f2.1 k h7, sI_ne h2, sI_ne h1, f1.1 k h7]
  · rw [f2.2, sI_J, sI_J, f1.2]
theorem FI_mv {S : St} (h : FI S) {p c d : Nat} (hp : p < 40) (hh : ¬ S.1 0 p = 0) (hc : c < 64) (hd : d < 64) (ic : vp_in (nI c) 64) (id : vp_in (nI d) 64) : FI (entI (putS (leaI S (S.1 1 p) (S.1 2 p)) (nI p) (nI c) (nI d)) (nI c) (nI d)) := by
  obtain ⟨a, ha, ea⟩ := vp_in_of (h.1 p hp hh).1 (by decide)
  obtain ⟨b, hb, eb⟩ := vp_in_of (h.1 p hp hh).2 (by decide)
  have t := tl_mv h.2.2.2.1 hp hh ea eb ha hb hc hd
  rw [ea, eb]
  have A := mv_c S hp (nI a) (nI b) (nI c) (nI d) (nI c) (nI d)
  generalize entI (putS (leaI S (nI a) (nI b)) (nI p) (nI c) (nI d)) (nI c) (nI d) = U at *
  refine ⟨?_, ?_, ?_, t, ?_⟩
  · intro q hq g
    rw [A.2.2.1 0 (by decide) (by decide) (by decide)] at g
    rw [A.1, A.2.1]
    by_cases e : q = p
    · subst e; rw [upd_eq, upd_eq]; exact ⟨ic, id⟩
    · rw [upd_ne e, upd_ne e]; exact h.1 q hq g
  · rw [A.2.2.1 0 (by decide) (by decide) (by decide), A.2.2.1 3 (by decide) (by decide) (by decide)]; exact h.2.1
  · rw [A.2.2.1 0 (by decide) (by decide) (by decide), A.2.2.1 6 (by decide) (by decide) (by decide)]; exact h.2.2.1
  · rw [A.2.2.1 8 (by decide) (by decide) (by decide)]; exact h.2.2.2.2
theorem op_move {S : St} (h : Inv S) (p x y : Int32) : mvR S p x y = mmvR (mvT S p x y) p x y ∧ Inv (mmvT (mvT S p x y) p x y) := by
  have l := h.2.1
  unfold mvR mvT
  by_cases c : hasI S p = 0
  · rw [if_pos c, if_pos c]
    have c2 : mptI (S.1 20) p = 0 := (has_a h.2 p).trans c
    unfold mmvR mmvT
    rw [if_pos c2, if_pos c2]; exact ⟨rfl, h⟩
  rw [if_neg c, if_neg c]
  have c2 : ¬ mptI (S.1 20) p = 0 := fun z => c ((has_a h.2 p).symm.trans z)
  by_cases d : plcI x y = 0
  · rw [if_pos d, if_pos d]
    unfold mmvR mmvT
    rw [if_neg c2, if_neg c2, plc_m, if_pos d, if_pos d]; exact ⟨rfl, h⟩
  rw [if_neg d, if_neg d]
  obtain ⟨i, hi, rfl, hh⟩ := has_at c
  have pin := plc_in d
  obtain ⟨a, b, ha, hb, rfl, rfl⟩ := plc_at d
  have F := FI_mv h.1 hi hh ha hb pin.1 pin.2
  rw [ncl (by omega)]
  have A := mv_c S hi (S.1 1 i) (S.1 2 i) (nI a) (nI b) (nI a) (nI b)
  generalize entI (putS (leaI S (S.1 1 i) (S.1 2 i)) (nI i) (nI a) (nI b)) (nI a) (nI b) = U at *
  have k := A.2.2.1
  unfold mmvR mmvT
  rw [plc_m, k 20 (by decide) (by decide) (by decide), if_neg c2, if_neg c2, if_neg d, if_neg d, ncl (by omega)]
  refine ⟨rfl, FI_of (fun a ha => by rw [sI_ne (by omega), sI_ne (by omega)]) F, ?_⟩
  have m1 : (sI (sI U 21 i (nI a)) 22 i (nI b)).1 21 = upd (S.1 21) i (nI a) := by rw [sI_ne (by decide), sI_eq, k 21 (by decide) (by decide) (by decide)]
  have m2 : (sI (sI U 21 i (nI a)) 22 i (nI b)).1 22 = upd (S.1 22) i (nI b) := by rw [sI_eq, sI_ne (by decide), k 22 (by decide) (by decide) (by decide)]
  have m : ∀ q, q ≠ 21 → q ≠ 22 → (sI (sI U 21 i (nI a)) 22 i (nI b)).1 q = U.1 q := fun q h1 h2 => by rw [sI_ne h2, sI_ne h1]
  have mJ : (sI (sI U 21 i (nI a)) 22 i (nI b)).2 = S.2 := A.2.2.2
  generalize sI (sI U 21 i (nI a)) 22 i (nI b) = V at *
  unfold Lk
  rw [m1, m2, mJ, m 0 (by decide) (by decide), m 1 (by decide) (by decide), m 2 (by decide) (by decide), m 3 (by decide) (by decide), m 4 (by decide) (by decide), m 5 (by decide) (by decide), m 8 (by decide) (by decide), m 19 (by decide) (by decide), m 20 (by decide) (by decide), m 23 (by decide) (by decide), m 24 (by decide) (by decide), m 25 (by decide) (by decide), m 26 (by decide) (by decide), m 27 (by decide) (by decide), m 28 (by decide) (by decide), A.1, A.2.1, k 0 (by decide) (by decide) (by decide), k 3 (by decide) (by decide) (by decide), k 4 (by decide) (by decide) (by decide), k 5 (by decide) (by decide) (by decide), k 8 (by decide) (by decide) (by decide), k 19 (by decide) (by decide) (by decide), k 20 (by decide) (by decide) (by decide), k 23 (by decide) (by decide) (by decide), k 24 (by decide) (by decide) (by decide), k 25 (by decide) (by decide) (by decide), k 26 (by decide) (by decide) (by decide), k 27 (by decide) (by decide) (by decide), k 28 (by decide) (by decide) (by decide), l.2.1, l.2.2.1]
  exact ⟨⟨l.1, rfl, rfl, l.2.2.2⟩, h.2.2⟩
/-! WEIGH -/
theorem op_weigh {S : St} (h : Inv S) (p v : Int32) : wgR S p v = mwgR (wgT S p v) p v ∧ Inv (mwgT (wgT S p v) p v) := by
  have l := h.2.1
  unfold wgR wgT
  by_cases c : hasI S p = 0
  · rw [if_pos c, if_pos c]
    have c2 : mptI (S.1 20) p = 0 := (has_a h.2 p).trans c
    unfold mwgR mwgT
    rw [if_pos c2, if_pos c2]; exact ⟨rfl, h⟩
  rw [if_neg c, if_neg c]
  have c2 : ¬ mptI (S.1 20) p = 0 := fun z => c ((has_a h.2 p).symm.trans z)
  by_cases d : wgtI v = 0
  · rw [if_pos d, if_pos d]
    unfold mwgR mwgT
    rw [if_neg c2, if_neg c2, if_pos ((wg_m v).mpr d), if_pos ((wg_m v).mpr d)]; exact ⟨rfl, h⟩
  rw [if_neg d, if_neg d]
  have d2 : ¬ inL v.toInt64 (-1000) 1000 = 0 := fun z => d ((wg_m v).mp z)
  obtain ⟨i, hi, rfl, hh⟩ := has_at c
  rw [ncl (by omega)]
  unfold mwgR mwgT
  have k : ∀ q, q ≠ 3 → (sI S 3 i v).1 q = S.1 q := fun q hq => sI_ne hq
  have k3 : (sI S 3 i v).1 3 = upd (S.1 3) i v := sI_eq
  have kJ : (sI S 3 i v).2 = S.2 := rfl
  generalize sI S 3 i v = U at *
  rw [k 20 (by decide), k 23 (by decide), if_neg c2, if_neg c2, if_neg d2, if_neg d2, ncl (by omega), l.2.2.2.1]
  refine ⟨rfl, FI_of (fun a ha => sI_ne (by omega)) ?_, ?_⟩
  · unfold FI
    rw [k 0 (by decide), k 1 (by decide), k 2 (by decide), k 6 (by decide), k 7 (by decide), k 8 (by decide), k3]
    refine ⟨plOk_of (k 0 (by decide)) (k 1 (by decide)) (k 2 (by decide)) h.1.1, ?_, h.1.2.2⟩
    intro q hq g
    by_cases e : q = i
    · subst e; rw [upd_eq]; exact wg_r d
    · rw [upd_ne e]; exact h.1.2.1 q hq g
  · have m : ∀ q, q ≠ 23 → (sI U 23 i v).1 q = U.1 q := fun q hq => sI_ne hq
    have m3 : (sI U 23 i v).1 23 = upd (S.1 23) i v := by rw [sI_eq, k 23 (by decide)]
    have mJ : (sI U 23 i v).2 = S.2 := kJ
    generalize sI U 23 i v = V at *
    unfold Lk
    rw [m3, mJ, m 0 (by decide), m 1 (by decide), m 2 (by decide), m 3 (by decide), m 4 (by decide), m 5 (by decide), m 8 (by decide), m 19 (by decide), m 20 (by decide), m 21 (by decide), m 22 (by decide), m 24 (by decide), m 25 (by decide), m 26 (by decide), m 27 (by decide), m 28 (by decide), k3, k 0 (by decide), k 1 (by decide), k 2 (by decide), k 4 (by decide), k 5 (by decide), k 8 (by decide), k 19 (by decide), k 20 (by decide), k 21 (by decide), k 22 (by decide), k 24 (by decide), k 25 (by decide), k 26 (by decide), k 27 (by decide), k 28 (by decide), l.2.2.2.1]
    exact ⟨⟨l.1, l.2.1, l.2.2.1, rfl, l.2.2.2.2⟩, h.2.2⟩
/-! PACE -/
theorem op_pace {S : St} (h : Inv S) (p x y : Int32) : pcR S p x y = mpcR (pcT S p x y) p x y ∧ Inv (mpcT (pcT S p x y) p x y) := by
  have l := h.2.1
  unfold pcR pcT
  by_cases c : hasI S p = 0
  · rw [if_pos c, if_pos c]
    have c2 : mptI (S.1 20) p = 0 := (has_a h.2 p).trans c
    unfold mpcR mpcT
    rw [if_pos c2, if_pos c2]; exact ⟨rfl, h⟩
  rw [if_neg c, if_neg c]
  have c2 : ¬ mptI (S.1 20) p = 0 := fun z => c ((has_a h.2 p).symm.trans z)
  by_cases d : pacI x = 0
  · rw [if_pos d, if_pos d]
    unfold mpcR mpcT
    rw [if_neg c2, if_neg c2, if_pos ((pc_m x).mpr d), if_pos ((pc_m x).mpr d)]; exact ⟨rfl, h⟩
  rw [if_neg d, if_neg d]
  have d2 : ¬ inL x.toInt64 (-32) 31 = 0 := fun z => d ((pc_m x).mp z)
  by_cases e : pacI y = 0
  · rw [if_pos e, if_pos e]
    unfold mpcR mpcT
    rw [if_neg c2, if_neg c2, if_neg d2, if_neg d2, if_pos ((pc_m y).mpr e), if_pos ((pc_m y).mpr e)]; exact ⟨rfl, h⟩
  rw [if_neg e, if_neg e]
  have e2 : ¬ inL y.toInt64 (-32) 31 = 0 := fun z => e ((pc_m y).mp z)
  obtain ⟨i, hi, rfl, hh⟩ := has_at c
  unfold spcS
  rw [ncl (by omega)]
  have k : ∀ q, q ≠ 4 → q ≠ 5 → (sI (sI S 4 i x) 5 i y).1 q = S.1 q := fun q h4 h5 => by rw [sI_ne h5, sI_ne h4]
  have k4 : (sI (sI S 4 i x) 5 i y).1 4 = upd (S.1 4) i x := by rw [sI_ne (by decide), sI_eq]
  have k5 : (sI (sI S 4 i x) 5 i y).1 5 = upd (S.1 5) i y := by rw [sI_eq, sI_ne (by decide)]
  have kJ : (sI (sI S 4 i x) 5 i y).2 = S.2 := rfl
  generalize sI (sI S 4 i x) 5 i y = U at *
  unfold mpcR mpcT
  rw [k 20 (by decide) (by decide), if_neg c2, if_neg c2, if_neg d2, if_neg d2, if_neg e2, if_neg e2, ncl (by omega)]
  refine ⟨rfl, FI_of (fun a ha => by rw [sI_ne (by omega), sI_ne (by omega)]) (FI_of2 (fun a _ h4 h5 => k a h4 h5) h.1), ?_⟩
  have m : ∀ q, q ≠ 24 → q ≠ 25 → (sI (sI U 24 i x) 25 i y).1 q = U.1 q := fun q h4 h5 => by rw [sI_ne h5, sI_ne h4]
  have m4 : (sI (sI U 24 i x) 25 i y).1 24 = upd (S.1 24) i x := by rw [sI_ne (by decide), sI_eq, k 24 (by decide) (by decide)]
  have m5 : (sI (sI U 24 i x) 25 i y).1 25 = upd (S.1 25) i y := by rw [sI_eq, sI_ne (by decide), k 25 (by decide) (by decide)]
  have mJ : (sI (sI U 24 i x) 25 i y).2 = S.2 := kJ
  generalize sI (sI U 24 i x) 25 i y = V at *
  unfold Lk
  rw [m4, m5, mJ, m 0 (by decide) (by decide), m 1 (by decide) (by decide), m 2 (by decide) (by decide), m 3 (by decide) (by decide), m 4 (by decide) (by decide), m 5 (by decide) (by decide), m 8 (by decide) (by decide), m 19 (by decide) (by decide), m 20 (by decide) (by decide), m 21 (by decide) (by decide), m 22 (by decide) (by decide), m 23 (by decide) (by decide), m 26 (by decide) (by decide), m 27 (by decide) (by decide), m 28 (by decide) (by decide), k4, k5, k 0 (by decide) (by decide), k 1 (by decide) (by decide), k 2 (by decide) (by decide), k 3 (by decide) (by decide), k 8 (by decide) (by decide), k 19 (by decide) (by decide), k 20 (by decide) (by decide), k 21 (by decide) (by decide), k 22 (by decide) (by decide), k 23 (by decide) (by decide), k 26 (by decide) (by decide), k 27 (by decide) (by decide), k 28 (by decide) (by decide), l.2.2.2.2.1, l.2.2.2.2.2]
  exact ⟨⟨l.1, l.2.1, l.2.2.1, l.2.2.2.1, rfl, rfl⟩, h.2.2⟩
/-! KERNEL -/
theorem i6432 (x : Int32) : x.toInt64.toInt32 = x := by simp
theorem kn_b (c : Int32) : inL c.toInt64 (-9) 9 = 0 ↔ c < -9 ∨ 9 < c := in_0 (a := -9) (b := 9)
theorem op_kernel {S : St} (h : Inv S) (a b c : Int32) : knR S a b c = mknR (knT S a b c) a b c ∧ Inv (mknT (knT S a b c) a b c) := by
  have l := h.2.1
  unfold knR knT
  by_cases d : pwrI a b = 0
  · rw [if_pos d, if_pos d]
    unfold mknR mknT
    rw [pwr_m, if_pos d, if_pos d]; exact ⟨rfl, h⟩
  rw [if_neg d, if_neg d]
  by_cases d1 : c < -9
  · rw [if_pos d1, if_pos d1]
    unfold mknR mknT
    rw [pwr_m, if_neg d, if_neg d, if_pos ((kn_b c).mpr (Or.inl d1)), if_pos ((kn_b c).mpr (Or.inl d1))]; exact ⟨rfl, h⟩
  rw [if_neg d1, if_neg d1]
  by_cases d2 : c ≤ 9
  · have d3 : ¬ inL c.toInt64 (-9) 9 = 0 := fun z => ((kn_b c).mp z).elim d1 (Int32.not_lt.mpr d2)
    rw [if_pos d2, if_pos d2]
    unfold mknR mknT
    rw [pwr_m, if_neg d, if_neg d, if_neg d3, if_neg d3]
    obtain ⟨u, w, hu, rfl, rfl⟩ := pwr_at d
    rw [ncl (by omega), ncl (by omega)]
    refine ⟨?_, FI_of (fun a ha => by rw [sI_ne (by omega)]; rfl) h.1, ?_⟩
    · rw [h.2.2.2.1 u w hu]; exact i6432 _
    · refine ⟨h.2.1, h.2.2.1, ?_, h.2.2.2.2⟩
      intro x y hx
      rw [sI_eq]
      show vp_updL (S.2 1) (u * 5 + w) c.toInt64 (x * 5 + y) = (upd (S.1 26) (5 * u + w) c (5 * x + y)).toInt64
      unfold vp_updL upd
      by_cases e : x * 5 + y = u * 5 + w
      · rw [if_pos e, if_pos (by omega)]
      · rw [if_neg e, if_neg (by omega)]; exact h.2.2.2.1 x y hx
  · have d3 : inL c.toInt64 (-9) 9 = 0 := (kn_b c).mpr (Or.inr (Int32.not_le.mp d2))
    rw [if_neg d2, if_neg d2]
    unfold mknR mknT
    rw [pwr_m, if_neg d, if_neg d, if_pos d3, if_pos d3]; exact ⟨rfl, h⟩
/-! CAPACITY -/
theorem cp_b (c : Int32) : inL c.toInt64 1 8 = 0 ↔ c < 1 ∨ 8 < c := in_0 (a := 1) (b := 8)
theorem op_capacity {S : St} (h : Inv S) (m : Int32) : cpR S m = mcpR (cpT S m) m ∧ Inv (mcpT (cpT S m) m) := by
  unfold cpR cpT
  by_cases d1 : m < 1
  · rw [if_pos d1, if_pos d1]
    unfold mcpR mcpT
    rw [if_pos ((cp_b m).mpr (Or.inl d1)), if_pos ((cp_b m).mpr (Or.inl d1))]; exact ⟨rfl, h⟩
  rw [if_neg d1, if_neg d1]
  by_cases d2 : m ≤ 8
  · have d3 : ¬ inL m.toInt64 1 8 = 0 := fun z => ((cp_b m).mp z).elim d1 (Int32.not_lt.mpr d2)
    rw [if_pos d2, if_pos d2]
    unfold mcpR mcpT
    rw [if_neg d3, if_neg d3]
    have d0 : ¬ m < 0 := fun z => d1 (by rw [Int32.lt_iff_toInt_lt] at z ⊢; have e0 : (0 : Int32).toInt = 0 := rfl; have e1 : (1 : Int32).toInt = 1 := rfl; omega)
    obtain ⟨j, hj, rfl⟩ := nI_of2 (x := m) (M := 8) (n := 8) (by decide) d0 d2
    have j1 : 1 ≤ j := by
      rcases Nat.eq_zero_or_pos j with z | z
      · subst z; exact absurd (by decide) d1
      · exact z
    refine ⟨h.2.2.1, FI_of (S := sI S 8 0 (nI j)) (fun a ha => sI_ne (by omega)) ?_, ?_⟩
    · have k : ∀ q, q ≠ 8 → (sI S 8 0 (nI j)).1 q = S.1 q := fun q hq => sI_ne hq
      unfold FI
      rw [k 0 (by decide), k 1 (by decide), k 2 (by decide), k 3 (by decide), k 6 (by decide), k 7 (by decide), sI_eq, upd_eq]
      exact ⟨plOk_of (k 0 (by decide)) (k 1 (by decide)) (k 2 (by decide)) h.1.1, h.1.2.1, h.1.2.2.1, h.1.2.2.2.1, j, j1, hj, rfl⟩
    · refine ⟨h.2.1, ?_, h.2.2.2.1, h.2.2.2.2⟩
      rw [sI_ne (by decide), sI_eq, upd_eq, sI_eq, upd_eq]
  · have d3 : inL m.toInt64 1 8 = 0 := (cp_b m).mpr (Or.inr (Int32.not_le.mp d2))
    rw [if_neg d2, if_neg d2]
    unfold mcpR mcpT
    rw [if_pos d3, if_pos d3]; exact ⟨rfl, h⟩
