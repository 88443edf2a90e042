/-! the tally kept in step -/
theorem bix_inj {l i j k a b : Nat} (hl : l ≤ 5) (hi : i < 2 ^ l) (hj : j < 2 ^ l) (hk : k ≤ 5) (ha : a < 2 ^ k) (hb : b < 2 ^ k) (h : bixN l i j = bixN k a b) : l = k ∧ i = a ∧ j = b := by
  unfold bixN at h
  have o0 : offN 0 = 0 := rfl
  have o1 : offN 1 = 1 := rfl
  have o2 : offN 2 = 5 := rfl
  have o3 : offN 3 = 21 := rfl
  have o4 : offN 4 = 85 := rfl
  have o5 : offN 5 = 341 := rfl
  have h1 : l = 0 ∨ l = 1 ∨ l = 2 ∨ l = 3 ∨ l = 4 ∨ l = 5 := by omega
  have h2 : k = 0 ∨ k = 1 ∨ k = 2 ∨ k = 3 ∨ k = 4 ∨ k = 5 := by omega
  rcases h1 with rfl | rfl | rfl | rfl | rfl | rfl <;> rcases h2 with rfl | rfl | rfl | rfl | rfl | rfl <;> omega
theorem ent_f (S : St) (a b : Nat) : ∀ n, (∀ k, k ≠ 7 → (entS S a b n).1 k = S.1 k) ∧ (entS S a b n).2 = S.2
  | 0 => ⟨fun _ _ => rfl, rfl⟩
  | n + 1 => ⟨fun k hk => by rw [entS, sI_ne hk]; exact (ent_f S a b n).1 k hk, by rw [entS, sI_J]; exact (ent_f S a b n).2⟩
theorem lea_f (S : St) (a b : Nat) : ∀ n, (∀ k, k ≠ 7 → (leaS S a b n).1 k = S.1 k) ∧ (leaS S a b n).2 = S.2
  | 0 => ⟨fun _ _ => rfl, rfl⟩
  | n + 1 => ⟨fun k hk => by rw [leaS, sI_ne hk]; exact (lea_f S a b n).1 k hk, by rw [leaS, sI_J]; exact (lea_f S a b n).2⟩
def hN (l i j a b : Nat) : Int32 := if numN l a = i ∧ numN l b = j then 1 else 0
theorem ent_t {S : St} {a b : Nat} (ha : a < 64) (hb : b < 64) {l i j : Nat} (hl : l ≤ 5) (hi : i < 2 ^ l) (hj : j < 2 ^ l) : ∀ n, n ≤ 6 → (entS S a b n).1 7 (bixN l i j) = S.1 7 (bixN l i j) + (if l < n then hN l i j a b else 0)
  | 0, _ => by rw [if_neg (by omega), entS]; simp
  | n + 1, hn => by
    have ih := ent_t (S := S) ha hb hl hi hj n (by omega)
    rw [entS, sI_eq]
    by_cases c : pixN n a b = bixN l i j
    · obtain ⟨e1, e2, e3⟩ := bix_inj (by omega) (num_lt (by omega) ha) (num_lt (by omega) hb) hl hi hj c
      rw [c, upd_eq, ih, if_neg (by omega), if_pos (by omega)]
      unfold hN
      rw [if_pos ⟨by rw [← e1]; exact e2, by rw [← e1]; exact e3⟩]; simp
    · rw [upd_ne (fun z => c z.symm), ih]
      by_cases d : l = n
      · subst d
        rw [if_neg (by omega), if_pos (by omega)]
        unfold hN
        rw [if_neg (fun z => c (by unfold pixN; rw [z.1, z.2]))]
      · by_cases e : l < n
        · rw [if_pos e, if_pos (by omega)]
        · rw [if_neg e, if_neg (by omega)]
theorem lea_t {S : St} {a b : Nat} (ha : a < 64) (hb : b < 64) {l i j : Nat} (hl : l ≤ 5) (hi : i < 2 ^ l) (hj : j < 2 ^ l) : ∀ n, n ≤ 6 → (leaS S a b n).1 7 (bixN l i j) = S.1 7 (bixN l i j) - (if l < n then hN l i j a b else 0)
  | 0, _ => by rw [if_neg (by omega), leaS]; simp
  | n + 1, hn => by
    have ih := lea_t (S := S) ha hb hl hi hj n (by omega)
    rw [leaS, sI_eq]
    by_cases c : pixN n a b = bixN l i j
    · obtain ⟨e1, e2, e3⟩ := bix_inj (by omega) (num_lt (by omega) ha) (num_lt (by omega) hb) hl hi hj c
      rw [c, upd_eq, ih, if_neg (by omega), if_pos (by omega)]
      unfold hN
      rw [if_pos ⟨by rw [← e1]; exact e2, by rw [← e1]; exact e3⟩]; simp
    · rw [upd_ne (fun z => c z.symm), ih]
      by_cases d : l = n
      · subst d
        rw [if_neg (by omega), if_pos (by omega)]
        unfold hN
        rw [if_neg (fun z => c (by unfold pixN; rw [z.1, z.2]))]
      · by_cases e : l < n
        · rw [if_pos e, if_pos (by omega)]
        · rw [if_neg e, if_neg (by omega)]
def zb (z : Int32) : Int32 := if z = 0 then 0 else 1
theorem pn_ch {hr px py hs qx qy : Nat → Int32} {l i j : Int32} {p : Nat} (h : ∀ q, q ≠ p → hs q = hr q ∧ qx q = px q ∧ qy q = py q) : ∀ n, pnI hs qx qy l i j n + (if p < n then zb (inI hr px py l i j p) else 0) = pnI hr px py l i j n + (if p < n then zb (inI hs qx qy l i j p) else 0)
  | 0 => by rw [if_neg (by omega), if_neg (by omega)]; rfl
  | n + 1 => by
    have ih := pn_ch (l := l) (i := i) (j := j) h n
    rw [pnI, pnI]
    by_cases c : n = p
    · subst c
      rw [if_neg (by omega), if_neg (by omega)] at ih
      rw [if_pos (Nat.lt_succ_self n), if_pos (Nat.lt_succ_self n)]
      unfold zb
      generalize (if inI hs qx qy l i j n = 0 then (0 : Int32) else 1) = A at *
      generalize (if inI hr px py l i j n = 0 then (0 : Int32) else 1) = B at *
      grind
    · have e : inI hs qx qy l i j n = inI hr px py l i j n := by unfold inI; rw [(h n c).1, (h n c).2.1, (h n c).2.2]
      have t : p < n + 1 ↔ p < n := by omega
      rw [e]
      simp only [t]
      generalize (if p < n then zb (inI hs qx qy l i j p) else 0) = A at *
      generalize (if p < n then zb (inI hr px py l i j p) else 0) = B at *
      grind
theorem mn_ch {hr hs : Nat → Int32} {p : Nat} (h : ∀ q, q ≠ p → hs q = hr q) : ∀ n, mnI hs n + (if p < n then zb (hr p) else 0) = mnI hr n + (if p < n then zb (hs p) else 0)
  | 0 => by rw [if_neg (by omega), if_neg (by omega)]; rfl
  | n + 1 => by
    have ih := mn_ch h n
    rw [mnI, mnI]
    by_cases c : n = p
    · subst c
      rw [if_neg (by omega), if_neg (by omega)] at ih
      rw [if_pos (Nat.lt_succ_self n), if_pos (Nat.lt_succ_self n)]
      unfold zb
      generalize (if hs n = 0 then (0 : Int32) else 1) = A at *
      generalize (if hr n = 0 then (0 : Int32) else 1) = B at *
      grind
    · have t : p < n + 1 ↔ p < n := by omega
      rw [h n c]
      simp only [t]
      generalize (if p < n then zb (hs p) else 0) = A at *
      generalize (if p < n then zb (hr p) else 0) = B at *
      grind
theorem zb_in {hr px py : Nat → Int32} {l i j p a b : Nat} (hh : ¬ hr p = 0) (ea : px p = nI a) (eb : py p = nI b) (ha : a < 64) (hb : b < 64) (hl : l ≤ 5) (hi : i < 2 ^ l) (hj : j < 2 ^ l) : zb (inI hr px py (nI l) (nI i) (nI j) p) = hN l i j a b := by
  have i6 := lt64 hl hi
  have j6 := lt64 hl hj
  have h1 : numN l a < 64 := Nat.lt_of_le_of_lt (Nat.div_le_self _ _) ha
  have h2 : numN l b < 64 := Nat.lt_of_le_of_lt (Nat.div_le_self _ _) hb
  unfold zb inI hN
  rw [if_neg hh, ea, eb, num_N (by omega) (by omega), num_N (by omega) (by omega)]
  simp only [nI_eq (show numN l a < 2 ^ 31 by omega) (show i < 2 ^ 31 by omega), nI_eq (show numN l b < 2 ^ 31 by omega) (show j < 2 ^ 31 by omega)]
  by_cases c1 : numN l a = i
  · by_cases c2 : numN l b = j
    · simp [c1, c2]
    · simp [c1, c2]
  · simp [c1]
theorem zb_no {hr px py : Nat → Int32} {l i j : Int32} {p : Nat} (hh : hr p = 0) : zb (inI hr px py l i j p) = 0 := by unfold zb inI; rw [if_pos hh, if_pos rfl]
def tl (S : St) : Prop := ∀ l i j : Nat, l ≤ 5 → i < 2 ^ l → j < 2 ^ l → S.1 7 (bixN l i j) = pnI (S.1 0) (S.1 1) (S.1 2) (nI l) (nI i) (nI j) 40
/-- a point goes to another place -/
theorem tl_mv {S : St} (h : tl S) {p a b c d : Nat} (hp : p < 40) (hh : ¬ S.1 0 p = 0) (ea : S.1 1 p = nI a) (eb : S.1 2 p = nI b) (ha : a < 64) (hb : b < 64) (hc : c < 64) (hd : d < 64) : tl (entI (putS (leaI S (nI a) (nI b)) (nI p) (nI c) (nI d)) (nI c) (nI d)) := by
  intro l i j hl hi hj
  unfold entI leaI putS
  rw [ncl (by omega), ncl (by omega), ncl (by omega), ncl (by omega), ncl (by omega)]
  have f1 := lea_f S a b 6
  have t1 := lea_t (S := S) ha hb hl hi hj 6 (Nat.le_refl _)
  generalize leaS S a b 6 = T at *
  have f2 := ent_f (sI (sI T 1 p (nI c)) 2 p (nI d)) c d 6
  have t2 := ent_t (S := sI (sI T 1 p (nI c)) 2 p (nI d)) hc hd hl hi hj 6 (Nat.le_refl _)
  generalize entS (sI (sI T 1 p (nI c)) 2 p (nI d)) c d 6 = U at *
  rw [t2, f2.1 0 (by decide), f2.1 1 (by decide), f2.1 2 (by decide)]
  rw [sI_ne (by decide), sI_ne (by decide), t1, h l i j hl hi hj, sI_ne (by decide), sI_ne (by decide), sI_ne (by decide), sI_eq, sI_eq, sI_ne (by decide), f1.1 0 (by decide), f1.1 1 (by decide), f1.1 2 (by decide), if_pos (by omega), if_pos (by omega)]
  have k := pn_ch (hr := S.1 0) (px := S.1 1) (py := S.1 2) (hs := S.1 0) (qx := upd (S.1 1) p (nI c)) (qy := upd (S.1 2) p (nI d)) (l := nI l) (i := nI i) (j := nI j) (p := p) (fun q hq => ⟨rfl, upd_ne hq, upd_ne hq⟩) 40
  rw [if_pos hp, if_pos hp, zb_in hh ea eb ha hb hl hi hj, zb_in (a := c) (b := d) hh upd_eq upd_eq hc hd hl hi hj] at k
  grind
theorem wg_m (v : Int32) : inL v.toInt64 (-1000) 1000 = 0 ↔ wgtI v = 0 := by
  rw [show inL v.toInt64 (-1000) 1000 = 0 ↔ v < -1000 ∨ 1000 < v from in_0 (a := -1000) (b := 1000)]; unfold wgtI
  by_cases a1 : v < -1000 <;> by_cases a2 : 1000 < v <;> simp [a1, a2]
theorem wg_r {v : Int32} (h : ¬ wgtI v = 0) : -1000 ≤ v.toInt ∧ v.toInt ≤ 1000 := by
  unfold wgtI at h
  by_cases a1 : v < -1000
  · exact absurd (by rw [if_pos a1]) h
  by_cases a2 : 1000 < v
  · exact absurd (by rw [if_neg a1, if_pos a2]) h
  rw [Int32.lt_iff_toInt_lt] at a1 a2
  have e1 : (-1000 : Int32).toInt = -1000 := by decide
  have e2 : (1000 : Int32).toInt = 1000 := by decide
  omega
theorem pc_m (v : Int32) : inL v.toInt64 (-32) 31 = 0 ↔ pacI v = 0 := by
  rw [show inL v.toInt64 (-32) 31 = 0 ↔ v < -32 ∨ 31 < v from in_0 (a := -32) (b := 31)]; unfold pacI
  by_cases a1 : v < -32 <;> by_cases a2 : 31 < v <;> simp [a1, a2]
theorem lf_ff {S : St} : ∀ n i, i + n = 40 → (lfI S n i = -1 ∧ ffN (S.1 0) n i = 40) ∨ ∃ p : Nat, p < 40 ∧ lfI S n i = nI p ∧ ffN (S.1 0) n i = p ∧ S.1 0 p = 0
  | 0, i, h => Or.inl ⟨rfl, by rw [ffN]; omega⟩
  | n + 1, i, h => by
    rw [lfI_s, ffN_s]
    by_cases c : S.1 0 i = 0
    · rw [if_pos c, if_pos c]; exact Or.inr ⟨i, by omega, rfl, rfl, c⟩
    · rw [if_neg c, if_neg c]; exact lf_ff n (i + 1) (by omega)
/-! POINT -/
theorem add_c (S : St) {p : Nat} (hp : p < 40) (x y v : Int32) : ((addS S (nI p) x y v).1 0 = upd (S.1 0) p 1 ∧ (addS S (nI p) x y v).1 1 = upd (S.1 1) p x ∧ (addS S (nI p) x y v).1 2 = upd (S.1 2) p y ∧ (addS S (nI p) x y v).1 3 = upd (S.1 3) p v ∧ (addS S (nI p) x y v).1 4 = upd (S.1 4) p 0 ∧ (addS S (nI p) x y v).1 5 = upd (S.1 5) p 0) ∧ (addS S (nI p) x y v).1 6 0 = S.1 6 0 + 1 ∧ (∀ k, 6 < k → (addS S (nI p) x y v).1 k = S.1 k) ∧ (addS S (nI p) x y v).2 = S.2 := by
  unfold addS spcS putS
  rw [ncl (by omega)]
  refine ⟨⟨by simp [sI], by simp [sI], by simp [sI], by simp [sI], by simp [sI], by simp [sI]⟩, by simp [sI, upd], fun k hk => ?_, rfl⟩
  rw [sI_ne (by omega), sI_ne (by omega), sI_ne (by omega), sI_ne (by omega), sI_ne (by omega), sI_ne (by omega), sI_ne (by omega)]
theorem mpo_c (S : St) (p : Nat) (x y v : Int32) : ((mpoS S p x y v).1 20 = upd (S.1 20) p 1 ∧ (mpoS S p x y v).1 21 = upd (S.1 21) p x ∧ (mpoS S p x y v).1 22 = upd (S.1 22) p y ∧ (mpoS S p x y v).1 23 = upd (S.1 23) p v ∧ (mpoS S p x y v).1 24 = upd (S.1 24) p 0 ∧ (mpoS S p x y v).1 25 = upd (S.1 25) p 0) ∧ (∀ k, k < 20 ∨ 25 < k → (mpoS S p x y v).1 k = S.1 k) ∧ (mpoS S p x y v).2 = S.2 := by
  unfold mpoS
  refine ⟨⟨by simp [sI], by simp [sI], by simp [sI], by simp [sI], by simp [sI], by simp [sI]⟩, fun k hk => ?_, rfl⟩
  rw [sI_ne (by omega), sI_ne (by omega), sI_ne (by omega), sI_ne (by omega), sI_ne (by omega), sI_ne (by omega)]
theorem FI_po {S : St} (h : FI S) {p : Nat} (hp : p < 40) (hh : S.1 0 p = 0) {x y v : Int32} (c1 : ¬ plcI x y = 0) (c2 : ¬ wgtI v = 0) : FI (entI (addS S (nI p) x y v) x y) := by
  obtain ⟨a, b, ha, hb, rfl, rfl⟩ := plc_at c1
  have pin := plc_in c1
  have A := add_c S hp (nI a) (nI b) v
  unfold entI
  rw [ncl (by omega), ncl (by omega)]
  generalize addS S (nI p) (nI a) (nI b) v = T at *
  have f := ent_f T a b 6
  have t : ∀ l i j : Nat, l ≤ 5 → i < 2 ^ l → j < 2 ^ l → (entS T a b 6).1 7 (bixN l i j) = T.1 7 (bixN l i j) + (if l < 6 then hN l i j a b else 0) := fun l i j hl hi hj => ent_t ha hb hl hi hj 6 (Nat.le_refl _)
  generalize entS T a b 6 = U at *
  unfold FI plOk
  rw [f.1 0 (by decide), f.1 1 (by decide), f.1 2 (by decide), f.1 3 (by decide), f.1 6 (by decide), f.1 8 (by decide), A.1.1, A.1.2.1, A.1.2.2.1, A.1.2.2.2.1, A.2.1, A.2.2.1 8 (by omega)]
  refine ⟨?_, ?_, ?_, ?_, h.2.2.2.2⟩
  · intro q hq g
    by_cases e : q = p
    · subst e; rw [upd_eq, upd_eq]; exact pin
    · rw [upd_ne e] at g; rw [upd_ne e, upd_ne e]; exact h.1 q hq g
  · intro q hq g
    by_cases e : q = p
    · subst e; rw [upd_eq]; exact wg_r c2
    · rw [upd_ne e] at g; rw [upd_ne e]; exact h.2.1 q hq g
  · have k := mn_ch (hr := S.1 0) (hs := upd (S.1 0) p 1) (p := p) (fun q hq => upd_ne hq) 40
    rw [if_pos hp, if_pos hp, hh, upd_eq, ← h.2.2.1] at k
    have k1 : zb 0 = 0 := rfl
    have k2 : zb 1 = 1 := rfl
    rw [k1, k2] at k
    grind
  · intro l i j hl hi hj
    rw [t l i j hl hi hj, if_pos (by omega), A.2.2.1 7 (by omega), h.2.2.2.1 l i j hl hi hj]
    have k := pn_ch (hr := S.1 0) (px := S.1 1) (py := S.1 2) (hs := upd (S.1 0) p 1) (qx := upd (S.1 1) p (nI a)) (qy := upd (S.1 2) p (nI b)) (l := nI l) (i := nI i) (j := nI j) (p := p) (fun q hq => ⟨upd_ne hq, upd_ne hq, upd_ne hq⟩) 40
    rw [if_pos hp, if_pos hp, zb_no hh, zb_in (a := a) (b := b) (by rw [upd_eq]; decide) upd_eq upd_eq ha hb hl hi hj] at k
    grind
theorem op_point {S : St} (h : Inv S) (x y v : Int32) : ptR S x y v = mpoR (ptT S x y v) x y v ∧ Inv (mpoT (ptT S x y v) x y v) := by
  unfold ptR mpoR ptT mpoT
  rw [plc_m]
  by_cases c1 : plcI x y = 0
  · simp only [if_pos c1]; exact ⟨trivial, h⟩
  simp only [if_neg c1]
  by_cases c2 : wgtI v = 0
  · simp only [if_pos c2, if_pos ((wg_m v).mpr c2)]; exact ⟨trivial, h⟩
  simp only [if_neg c2, if_neg (fun z => c2 ((wg_m v).mp z))]
  rcases lf_ff (S := S) 40 0 rfl with ⟨e1, e2⟩ | ⟨p, hp, e1, e2, e3⟩
  · simp only [if_pos e1]
    rw [← h.2.1.1, e2]
    simp only [if_pos (show nI 40 = 40 from rfl)]
    exact ⟨trivial, h⟩
  · have c3 : ¬ nI p = -1 := nI_m1 (by omega)
    rw [e1]
    simp only [if_neg c3]
    have F := FI_po h.1 hp e3 c1 c2
    have A := add_c S hp x y v
    have f := ent_f (addS S (nI p) x y v) x.toNatClampNeg y.toNatClampNeg 6
    unfold entI at F ⊢
    generalize addS S (nI p) x y v = T at *
    generalize entS T x.toNatClampNeg y.toNatClampNeg 6 = U at *
    have e20 : U.1 20 = S.1 20 := by rw [f.1 20 (by decide), A.2.2.1 20 (by omega)]
    have e4 : ffN (U.1 20) 40 0 = p := by rw [e20, ← h.2.1.1]; exact e2
    rw [e4]
    have c4 : ¬ nI p = 40 := fun z => by rw [show (40 : Int32) = nI 40 from rfl, nI_eq (by omega) (by omega)] at z; omega
    simp only [if_neg c4]
    refine ⟨trivial, ?_⟩
    have B := mpo_c U p x y v
    generalize mpoS U p x y v = V at *
    refine ⟨FI_of (fun a ha => B.2.1 a (by omega)) F, ?_⟩
    have l := h.2.1
    unfold Lk
    rw [B.1.1, B.1.2.1, B.1.2.2.1, B.1.2.2.2.1, B.1.2.2.2.2.1, B.1.2.2.2.2.2, B.2.2, B.2.1 0 (by omega), B.2.1 1 (by omega), B.2.1 2 (by omega), B.2.1 3 (by omega), B.2.1 4 (by omega), B.2.1 5 (by omega), B.2.1 8 (by omega), B.2.1 19 (by omega), B.2.1 26 (by omega), B.2.1 27 (by omega), B.2.1 28 (by omega), f.2, f.1 0 (by decide), f.1 1 (by decide), f.1 2 (by decide), f.1 3 (by decide), f.1 4 (by decide), f.1 5 (by decide), f.1 8 (by decide), f.1 19 (by decide), f.1 20 (by decide), f.1 21 (by decide), f.1 22 (by decide), f.1 23 (by decide), f.1 24 (by decide), f.1 25 (by decide), f.1 26 (by decide), f.1 27 (by decide), f.1 28 (by decide), A.1.1, A.1.2.1, A.1.2.2.1, A.1.2.2.2.1, A.1.2.2.2.2.1, A.1.2.2.2.2.2, A.2.2.2, A.2.2.1 8 (by omega), A.2.2.1 19 (by omega), A.2.2.1 20 (by omega), A.2.2.1 21 (by omega), A.2.2.1 22 (by omega), A.2.2.1 23 (by omega), A.2.2.1 24 (by omega), A.2.2.1 25 (by omega), A.2.2.1 26 (by omega), A.2.2.1 27 (by omega), A.2.2.1 28 (by omega), l.1, l.2.1, l.2.2.1, l.2.2.2.1, l.2.2.2.2.1, l.2.2.2.2.2]
    exact ⟨⟨rfl, rfl, rfl, rfl, rfl, rfl⟩, h.2.2⟩
