def FI (S : St) : Prop := plOk S ∧ wOk (S.1 0) (S.1 3) ∧ S.1 6 0 = mnI (S.1 0) 40 ∧ (∀ l i j : Nat, l ≤ 5 → i < 2 ^ l → j < 2 ^ l → S.1 7 (bixN l i j) = pnI (S.1 0) (S.1 1) (S.1 2) (nI l) (nI i) (nI j) 40) ∧ ∃ m : Nat, 1 ≤ m ∧ m ≤ 8 ∧ S.1 8 0 = nI m
def Lk (S : St) : Prop := (S.1 0 = S.1 20 ∧ S.1 1 = S.1 21 ∧ S.1 2 = S.1 22 ∧ S.1 3 = S.1 23 ∧ S.1 4 = S.1 24 ∧ S.1 5 = S.1 25) ∧ S.1 8 0 = S.1 27 0 ∧ kOk (S.2 1) (S.1 26) ∧ S.1 19 0 = S.1 28 0
def Inv (S : St) : Prop := FI S ∧ Lk S
/-- the frame of F's questions -/
def qf (S T : St) : Prop := (∀ a, a < 9 ∨ 18 < a → T.1 a = S.1 a) ∧ ∀ j, j ≠ 0 → j ≠ 2 → T.2 j = S.2 j
theorem qf.refl (S : St) : qf S S := ⟨fun _ _ => rfl, fun _ _ _ => rfl⟩
theorem qf.trans {S T U : St} (h : qf S T) (g : qf T U) : qf S U := ⟨fun a ha => (g.1 a ha).trans (h.1 a ha), fun a ha hb => (g.2 a ha hb).trans (h.2 a ha hb)⟩
theorem gf.qf {S T : St} (h : gf S T) : qf S T := ⟨fun a ha => h.1 a (by omega), fun j h0 _ => h.2 j h0⟩
theorem jf.qf {S T : St} (h : jf 2 S T) : qf S T := ⟨fun a _ => by rw [h.1], fun j _ h2 => h.2 j h2⟩
theorem FI_of {S T : St} (h : ∀ a, a < 9 → T.1 a = S.1 a) (g : FI S) : FI T := by
  unfold FI at *
  rw [h 0 (by decide), h 1 (by decide), h 2 (by decide), h 3 (by decide), h 6 (by decide), h 7 (by decide), h 8 (by decide)]
  exact ⟨plOk_of (h 0 (by decide)) (h 1 (by decide)) (h 2 (by decide)) g.1, g.2⟩
theorem Inv_q {S T : St} (h : qf S T) (g : Inv S) : Inv T := by
  refine ⟨FI_of (fun a ha => h.1 a (Or.inl ha)) g.1, ?_⟩
  unfold Lk
  rw [h.1 0 (by omega), h.1 1 (by omega), h.1 2 (by omega), h.1 3 (by omega), h.1 4 (by omega), h.1 5 (by omega), h.1 8 (by omega), h.1 19 (by omega), h.1 20 (by omega), h.1 21 (by omega), h.1 22 (by omega), h.1 23 (by omega), h.1 24 (by omega), h.1 25 (by omega), h.1 26 (by omega), h.1 27 (by omega), h.1 28 (by omega), h.2 1 (by decide) (by decide)]
  exact g.2
theorem Inv_m {S T : St} (h : mFr S T) (g : Inv S) : Inv T := by
  refine ⟨FI_of (fun a ha => h.1 a (by omega)) g.1, ?_⟩
  unfold Lk
  rw [h.1 0 (by omega), h.1 1 (by omega), h.1 2 (by omega), h.1 3 (by omega), h.1 4 (by omega), h.1 5 (by omega), h.1 8 (by omega), h.1 19 (by omega), h.1 20 (by omega), h.1 21 (by omega), h.1 22 (by omega), h.1 23 (by omega), h.1 24 (by omega), h.1 25 (by omega), h.1 26 (by omega), h.1 27 (by omega), h.1 28 (by omega), h.2 1 (by decide)]
  exact g.2
/-! the parts of a sum, as a list -/
abbrev Pt : Type := Int32 × Int32 × Int32
def ptl (hr px py : Nat → Int32) (l i j : Int32) : Nat → List Pt
  | 0 => []
  | p + 1 => if inI hr px py l i j p = 0 then ptl hr px py l i j p else ptl hr px py l i j p ++ [(-1, nI p, -1)]
def trl (hr px py : Nat → Int32) (mo x y t : Int32) : Nat → Nat → Nat → Nat → List Pt
  | 0, _, _, _ => []
  | d + 1, l, i, j => if pnI hr px py (nI l) (nI i) (nI j) 40 ≤ 0 then [] else if mfaI x y t (nI l) (nI i) (nI j) = 0 then (if mspI hr px py mo (nI l) (nI i) (nI j) = 0 then ptl hr px py (nI l) (nI i) (nI j) 40 else trl hr px py mo x y t d (l + 1) (2 * i) (2 * j) ++ trl hr px py mo x y t d (l + 1) (2 * i + 1) (2 * j) ++ trl hr px py mo x y t d (l + 1) (2 * i) (2 * j + 1) ++ trl hr px py mo x y t d (l + 1) (2 * i + 1) (2 * j + 1)) else [(nI l, nI i, nI j)]
theorem trl_s (hr px py : Nat → Int32) (mo x y t : Int32) (d l i j : Nat) : trl hr px py mo x y t (d + 1) l i j = if pnI hr px py (nI l) (nI i) (nI j) 40 ≤ 0 then [] else if mfaI x y t (nI l) (nI i) (nI j) = 0 then (if mspI hr px py mo (nI l) (nI i) (nI j) = 0 then ptl hr px py (nI l) (nI i) (nI j) 40 else trl hr px py mo x y t d (l + 1) (2 * i) (2 * j) ++ trl hr px py mo x y t d (l + 1) (2 * i + 1) (2 * j) ++ trl hr px py mo x y t d (l + 1) (2 * i) (2 * j + 1) ++ trl hr px py mo x y t d (l + 1) (2 * i + 1) (2 * j + 1)) else [(nI l, nI i, nI j)] := rfl
theorem ptl_len (hr px py : Nat → Int32) (l i j : Int32) : ∀ n, (ptl hr px py l i j n).length = npN hr px py l i j n
  | 0 => rfl
  | n + 1 => by
    rw [ptl, npN]
    by_cases c : inI hr px py l i j n = 0
    · rw [if_pos c, if_pos c, ptl_len hr px py l i j n]; rfl
    · rw [if_neg c, if_neg c, List.length_append, ptl_len hr px py l i j n]; rfl
theorem lt64 {l i : Nat} (hl : l ≤ 5) (h : i < 2 ^ l) : i < 64 := by have := p2_lt hl; omega
theorem msp_lt {hr px py : Nat → Int32} {mo : Int32} {l : Nat} {i j : Int32} (hl : l ≤ 5) (h : ¬ mspI hr px py mo (nI l) i j = 0) : l < 5 := by
  rcases Nat.lt_or_ge l 5 with g | g
  · exact g
  · exact absurd (by unfold mspI; rw [if_pos (show (5 : Int32) ≤ nI l from nI_le (a := 5) g (by omega))]) h
theorem trl_len {hr px py : Nat → Int32} (h : pOk hr px py) (mo x y t : Int32) : ∀ d l i j, l + d = 6 → i < 2 ^ l → j < 2 ^ l → (trl hr px py mo x y t d l i j).length ≤ cN hr px py l i j 40
  | 0, _, _, _, _, _, _ => Nat.zero_le _
  | d + 1, l, i, j, hd, hi, hj => by
    have hl : l ≤ 5 := by omega
    have i6 := lt64 hl hi
    have j6 := lt64 hl hj
    rw [trl_s, pnI_c h (by omega) i6 j6 40 (Nat.le_refl _)]
    by_cases c0 : nI (cN hr px py l i j 40) ≤ 0
    · rw [if_pos c0]; exact Nat.zero_le _
    · rw [if_neg c0]
      have c00 : 1 ≤ cN hr px py l i j 40 := by
        rcases Nat.eq_zero_or_pos (cN hr px py l i j 40) with g | g
        · rw [g] at c0; exact absurd (by decide) c0
        · exact g
      split
      · split
        · rw [ptl_len, npN_c h (by omega) i6 j6 40 (Nat.le_refl _)]; exact Nat.le_refl _
        · rename_i c2
          have h5 := msp_lt hl c2
          have e1 := trl_len h mo x y t d (l + 1) (2 * i) (2 * j) (by omega) (dbl hi) (dbl hj)
          have e2 := trl_len h mo x y t d (l + 1) (2 * i + 1) (2 * j) (by omega) (dbl1 hi) (dbl hj)
          have e3 := trl_len h mo x y t d (l + 1) (2 * i) (2 * j + 1) (by omega) (dbl hi) (dbl1 hj)
          have e4 := trl_len h mo x y t d (l + 1) (2 * i + 1) (2 * j + 1) (by omega) (dbl1 hi) (dbl1 hj)
          rw [cN_split hr px py i j hl 40]
          simp only [List.length_append]
          omega
      · exact c00
theorem gaN_len (hr px py : Nat → Int32) (mo x y t : Int32) : ∀ d l i j, gaN hr px py mo x y t d l i j = (trl hr px py mo x y t d l i j).length
  | 0, _, _, _ => rfl
  | d + 1, l, i, j => by
    rw [trl_s, gaN]
    split
    · rfl
    · split
      · split
        · rw [ptl_len]
        · rw [gaN_len, gaN_len, gaN_len, gaN_len, List.length_append, List.length_append, List.length_append]
      · rfl
theorem gaN_80 {hr px py : Nat → Int32} (h : pOk hr px py) (mo x y t : Int32) : gaN hr px py mo x y t 6 0 0 0 ≤ 80 := by
  rw [gaN_len]
  have e := trl_len h mo x y t 6 0 0 0 (by omega) (by decide) (by decide)
  have e2 := cN_le hr px py 0 0 0 40
  omega
/-- what stands in the list -/
def pOkE (hr : Nat → Int32) (e : Pt) : Prop := (e.1 = -1 → ∃ p : Nat, p < 40 ∧ ¬ hr p = 0 ∧ e.2.1 = nI p) ∧ (¬ e.1 = -1 → ∃ l i j : Nat, l ≤ 5 ∧ i < 2 ^ l ∧ j < 2 ^ l ∧ e = (nI l, nI i, nI j))
theorem ptl_ok {hr px py : Nat → Int32} {l i j : Int32} : ∀ n, n ≤ 40 → ∀ e ∈ ptl hr px py l i j n, pOkE hr e ∧ e.1 = -1
  | 0, _, e, h => absurd h List.not_mem_nil
  | n + 1, hn, e, h => by
    rw [ptl] at h
    split at h
    · exact ptl_ok n (by omega) e h
    · rename_i c
      rcases List.mem_append.mp h with g | g
      · exact ptl_ok n (by omega) e g
      · rw [List.mem_singleton] at g; subst g
        exact ⟨⟨fun _ => ⟨n, by omega, inI_hr c, rfl⟩, fun z => absurd rfl z⟩, rfl⟩
theorem trl_ok {hr px py : Nat → Int32} {mo x y t : Int32} : ∀ d l i j, l + d = 6 → i < 2 ^ l → j < 2 ^ l → ∀ e ∈ trl hr px py mo x y t d l i j, pOkE hr e
  | 0, _, _, _, _, _, _, e, h => absurd h List.not_mem_nil
  | d + 1, l, i, j, hd, hi, hj, e, h => by
    have hl : l ≤ 5 := by omega
    rw [trl_s] at h
    split at h
    · exact absurd h List.not_mem_nil
    · split at h
      · split at h
        · exact (ptl_ok 40 (Nat.le_refl _) e h).1
        · rcases List.mem_append.mp h with h | h
          · rcases List.mem_append.mp h with h | h
            · rcases List.mem_append.mp h with h | h
              · exact trl_ok d _ _ _ (by omega) (dbl hi) (dbl hj) e h
              · exact trl_ok d _ _ _ (by omega) (dbl1 hi) (dbl hj) e h
            · exact trl_ok d _ _ _ (by omega) (dbl hi) (dbl1 hj) e h
          · exact trl_ok d _ _ _ (by omega) (dbl1 hi) (dbl1 hj) e h
      · rw [List.mem_singleton] at h; subst h
        exact ⟨fun z => absurd z (nI_m1 (by omega)), fun _ => ⟨l, i, j, hl, hi, hj, rfl⟩⟩
/-! F's trail -/
def tf (S T : St) : Prop := (∀ a, a < 10 ∨ 13 < a → T.1 a = S.1 a) ∧ T.2 = S.2
theorem tf.refl (S : St) : tf S S := ⟨fun _ _ => rfl, rfl⟩
theorem tf.trans {S T U : St} (h : tf S T) (g : tf T U) : tf S U := ⟨fun a ha => (g.1 a ha).trans (h.1 a ha), g.2.trans h.2⟩
theorem tf.qf {S T : St} (h : tf S T) : qf S T := ⟨fun a ha => h.1 a (by omega), fun j _ _ => by rw [h.2]⟩
def hd (S : St) (A : List Pt) : Prop := S.1 13 0 = nI A.length ∧ A.length ≤ 40 ∧ ∀ k, k < A.length → A[k]? = some (S.1 10 k, S.1 11 k, S.1 12 k)
theorem not_hd {S : St} {A : List Pt} (h : hd S A) (hl : A.length < 40) (a b c : Int32) : hd (notS S a b c) (A ++ [(a, b, c)]) ∧ tf S (notS S a b c) := by
  unfold notS
  rw [h.1, if_neg (show ¬ (40 : Int32) ≤ nI A.length from nI_ge (b := 40) hl (by decide)), ncl (by omega)]
  refine ⟨⟨?_, ?_, ?_⟩, ?_⟩
  · rw [sI_eq, upd_eq, List.length_append]; exact nI_1 _
  · rw [List.length_append]; exact hl
  · intro k hk
    rw [List.length_append] at hk
    have hk : k < A.length + 1 := hk
    rw [sI_ne (by decide), sI_ne (by decide), sI_ne (by decide), sI_eq, sI_ne (by decide), sI_ne (by decide), sI_eq, sI_ne (by decide), sI_ne (by decide), sI_eq, sI_ne (by decide), sI_ne (by decide)]
    by_cases e : k = A.length
    · subst e
      rw [upd_eq, upd_eq, upd_eq, List.getElem?_append_right (Nat.le_refl _), Nat.sub_self]; rfl
    · rw [upd_ne e, upd_ne e, upd_ne e, List.getElem?_append_left (by omega)]
      exact h.2.2 k (by omega)
  · exact ⟨fun a ha => by rw [sI_ne (by omega), sI_ne (by omega), sI_ne (by omega), sI_ne (by omega)], rfl⟩
theorem np_hd {S : St} {A : List Pt} (l i j : Int32) (h : hd S A) : ∀ n, A.length + npN (S.1 0) (S.1 1) (S.1 2) l i j n ≤ 40 → hd (npS S l i j n) (A ++ ptl (S.1 0) (S.1 1) (S.1 2) l i j n) ∧ tf S (npS S l i j n)
  | 0, _ => by rw [npS, ptl, List.append_nil]; exact ⟨h, tf.refl _⟩
  | n + 1, hn => by
    rw [npN] at hn
    obtain ⟨i1, i2⟩ := np_hd l i j h n (by omega)
    have e : holI (npS S l i j n) l i j n = inI (S.1 0) (S.1 1) (S.1 2) l i j n := by
      unfold holI inI; rw [i2.1 0 (by omega), i2.1 1 (by omega), i2.1 2 (by omega)]
    rw [npS_s, ptl, e]
    by_cases c : inI (S.1 0) (S.1 1) (S.1 2) l i j n = 0
    · rw [if_pos c, if_pos c]; exact ⟨i1, i2⟩
    · rw [if_neg c, if_neg c, ← List.append_assoc]
      rw [if_neg c] at hn
      have g := not_hd i1 (by rw [List.length_append, ptl_len]; omega) (-1) (nI n) (-1)
      exact ⟨g.1, i2.trans g.2⟩
theorem i64_le {a b : Int32} : a.toInt64 ≤ b.toInt64 ↔ a ≤ b := by rw [Int64.le_iff_toInt_le, Int32.le_iff_toInt_le, Int32.toInt_toInt64, Int32.toInt_toInt64]
theorem ap_N {t l : Nat} (ht : t ≤ 4) (hl : l ≤ 5) : (2 * sideI (nI l) * nI t).toInt64 = apL (nI t) (nI l) := by
  unfold apL
  have e : 64 / 2 ^ l ≤ 64 := Nat.div_le_self _ _
  have e2 : 2 * (64 / 2 ^ l) * t ≤ 128 * 4 := Nat.mul_le_mul (by omega) ht
  rw [side_N l (by omega), nI_2, pk_mul, nI_l (by omega), nI_l (by omega), nI_l (by omega), show (2 : Int64) = lN 2 from rfl, lN_mul, lN_mul]
theorem far_N {a b t l i j : Nat} (ha : a < 64) (hb : b < 64) (ht : t ≤ 4) (hl : l ≤ 5) (hi : i < 2 ^ l) (hj : j < 2 ^ l) {S : St} (e1 : S.1 14 0 = nI a) (e2 : S.1 15 0 = nI b) (e3 : S.1 16 0 = nI t) : farI S (nI l) (nI i) (nI j) = mfaI (nI a) (nI b) (nI t) (nI l) (nI i) (nI j) := by
  have f1 := frm_L ha hl hi
  have f2 := frm_L hb hl hj
  unfold farI mfaI
  rw [e1, e2, e3, ← f1.1, ← f2.1, ← abs_L (by omega), ← abs_L (by omega), ← ap_N ht hl]
  simp only [i64_le, i64_lt]
theorem cap_01 {S : St} (h : FI S) {l i j : Nat} (hl : l ≤ 5) (hi : i < 2 ^ l) (hj : j < 2 ^ l) : splI S l i j = mspI (S.1 0) (S.1 1) (S.1 2) (S.1 8 0) (nI l) (nI i) (nI j) := by
  unfold splI mspI
  rw [h.2.2.2.1 l i j hl hi hj]
theorem vis_hd {a b t : Nat} (ha : a < 64) (hb : b < 64) (ht : t ≤ 4) : ∀ (d : Nat) {S : St} {A : List Pt} {l i j : Nat}, FI S → S.1 14 0 = nI a → S.1 15 0 = nI b → S.1 16 0 = nI t → hd S A → l + d = 6 → i < 2 ^ l → j < 2 ^ l → A.length + cN (S.1 0) (S.1 1) (S.1 2) l i j 40 ≤ 40 → hd (visS d S l i j) (A ++ trl (S.1 0) (S.1 1) (S.1 2) (S.1 8 0) (nI a) (nI b) (nI t) d l i j) ∧ tf S (visS d S l i j)
  | 0, S, A, l, i, j, _, _, _, _, h, _, _, _, _ => by rw [visS, trl, List.append_nil]; exact ⟨h, tf.refl _⟩
  | d + 1, S, A, l, i, j, hF, e1, e2, e3, h, hd', hi, hj, hn => by
    have hl : l ≤ 5 := by omega
    have i6 := lt64 hl hi
    have j6 := lt64 hl hj
    have pk : pOk (S.1 0) (S.1 1) (S.1 2) := hF.1
    rw [visS_s, trl_s, if_neg (show ¬ (5 : Int32) < nI l from nI_nlt (a := 5) (b := l) hl (by decide)), hF.2.2.2.1 l i j hl hi hj, pnI_c pk (by omega) i6 j6 40 (Nat.le_refl _), far_N ha hb ht hl hi hj e1 e2 e3, cap_01 hF hl hi hj]
    have c40 := cN_le (S.1 0) (S.1 1) (S.1 2) l i j 40
    by_cases c0 : cN (S.1 0) (S.1 1) (S.1 2) l i j 40 = 0
    · rw [c0, if_pos (by decide), if_pos (by decide), List.append_nil]; exact ⟨h, tf.refl _⟩
    · rw [if_neg (nI_ne0 (by omega) (by omega)), if_neg (nI_nle (by omega) (by omega))]
      split
      · split
        · exact np_hd _ _ _ h 40 (by rw [npN_c pk (by omega) i6 j6 40 (Nat.le_refl _)]; exact hn)
        · rename_i c2
          have h5 := msp_lt hl c2
          have pkk := cN_split (S.1 0) (S.1 1) (S.1 2) i j hl 40
          have t1 := trl_len pk (S.1 8 0) (nI a) (nI b) (nI t) d (l + 1) (2 * i) (2 * j) (by omega) (dbl hi) (dbl hj)
          have t2 := trl_len pk (S.1 8 0) (nI a) (nI b) (nI t) d (l + 1) (2 * i + 1) (2 * j) (by omega) (dbl1 hi) (dbl hj)
          have t3 := trl_len pk (S.1 8 0) (nI a) (nI b) (nI t) d (l + 1) (2 * i) (2 * j + 1) (by omega) (dbl hi) (dbl1 hj)
          obtain ⟨g1, f1⟩ := vis_hd ha hb ht d hF e1 e2 e3 h (show l + 1 + d = 6 by omega) (dbl hi) (dbl hj) (by omega)
          generalize visS d S (l + 1) (2 * i) (2 * j) = S1 at g1 f1 ⊢
          have k0 := f1.1 0 (by omega)
          have k1 := f1.1 1 (by omega)
          have k2 := f1.1 2 (by omega)
          have k8 := f1.1 8 (by omega)
          obtain ⟨g2, f2⟩ := vis_hd ha hb ht d (FI_of (fun a ha => f1.1 a (by omega)) hF) ((congrFun (f1.1 14 (by omega)) 0).trans e1) ((congrFun (f1.1 15 (by omega)) 0).trans e2) ((congrFun (f1.1 16 (by omega)) 0).trans e3) g1 (show l + 1 + d = 6 by omega) (dbl1 hi) (dbl hj) (by rw [List.length_append, k0, k1, k2]; omega)
          generalize visS d S1 (l + 1) (2 * i + 1) (2 * j) = S2 at g2 f2 ⊢
          rw [k0, k1, k2, k8] at g2
          have f12 := f1.trans f2
          have m0 := f12.1 0 (by omega)
          have m1 := f12.1 1 (by omega)
          have m2 := f12.1 2 (by omega)
          have m8 := f12.1 8 (by omega)
          obtain ⟨g3, f3⟩ := vis_hd ha hb ht d (FI_of (fun a ha => f12.1 a (by omega)) hF) ((congrFun (f12.1 14 (by omega)) 0).trans e1) ((congrFun (f12.1 15 (by omega)) 0).trans e2) ((congrFun (f12.1 16 (by omega)) 0).trans e3) g2 (show l + 1 + d = 6 by omega) (dbl hi) (dbl1 hj) (by rw [List.length_append, List.length_append, m0, m1, m2]; omega)
          generalize visS d S2 (l + 1) (2 * i) (2 * j + 1) = S3 at g3 f3 ⊢
          rw [m0, m1, m2, m8] at g3
          have f13 := f12.trans f3
          have n0 := f13.1 0 (by omega)
          have n1 := f13.1 1 (by omega)
          have n2 := f13.1 2 (by omega)
          have n8 := f13.1 8 (by omega)
          obtain ⟨g4, f4⟩ := vis_hd ha hb ht d (FI_of (fun a ha => f13.1 a (by omega)) hF) ((congrFun (f13.1 14 (by omega)) 0).trans e1) ((congrFun (f13.1 15 (by omega)) 0).trans e2) ((congrFun (f13.1 16 (by omega)) 0).trans e3) g3 (show l + 1 + d = 6 by omega) (dbl1 hi) (dbl1 hj) (by rw [List.length_append, List.length_append, List.length_append, n0, n1, n2]; omega)
          rw [n0, n1, n2, n8] at g4
          refine ⟨?_, f13.trans f4⟩
          simpa [List.append_assoc] using g4
      · exact not_hd h (by omega) _ _ _
def trA (S : St) (x y t : Int32) : List Pt := trl (S.1 0) (S.1 1) (S.1 2) (S.1 8 0) x y t 6 0 0 0
theorem trc_hd {S : St} (hF : FI S) {a b t : Nat} (ha : a < 64) (hb : b < 64) (ht : t ≤ 4) : hd (trcS S (nI a) (nI b) (nI t)) (trA S (nI a) (nI b) (nI t)) ∧ qf S (trcS S (nI a) (nI b) (nI t)) := by
  unfold trcS trA
  have f0 : qf S (sI (sI (sI (sI S 14 0 (nI a)) 15 0 (nI b)) 16 0 (nI t)) 13 0 0) := ⟨fun k hk => by rw [sI_ne (by omega), sI_ne (by omega), sI_ne (by omega), sI_ne (by omega)], fun _ _ _ => rfl⟩
  have c40 := cN_le (S.1 0) (S.1 1) (S.1 2) 0 0 0 40
  obtain ⟨g, f⟩ := vis_hd ha hb ht 6 (S := sI (sI (sI (sI S 14 0 (nI a)) 15 0 (nI b)) 16 0 (nI t)) 13 0 0) (A := []) (l := 0) (i := 0) (j := 0) (FI_of (fun a ha => f0.1 a (by omega)) hF) (by rw [sI_ne (by decide), sI_ne (by decide), sI_ne (by decide), sI_eq, upd_eq]) (by rw [sI_ne (by decide), sI_ne (by decide), sI_eq, upd_eq]) (by rw [sI_ne (by decide), sI_eq, upd_eq]) ⟨by rw [sI_eq, upd_eq]; rfl, by decide, fun k hk => absurd hk (Nat.not_lt_zero _)⟩ (by omega) (by decide) (by decide) (by rw [f0.1 0 (by omega), f0.1 1 (by omega), f0.1 2 (by omega)]; simpa using c40)
  rw [f0.1 0 (by omega), f0.1 1 (by omega), f0.1 2 (by omega), f0.1 8 (by omega), List.nil_append] at g
  exact ⟨g, f0.trans f.qf⟩
