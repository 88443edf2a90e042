/-! the reference's trail -/
def pv (hr px py wt K : Nat → Int32) (x y : Int32) (o : Nat) (e : Pt) : Int64 := if e.1 = -1 then mpuL K px py wt e.2.1.toNatClampNeg x y else mteL hr px py wt K e.1 e.2.1 e.2.2 x y o
def ev (hr px py wt K : Nat → Int32) (x y : Int32) (o : Nat) (e : Pt) : Int64 := if e.1 = -1 then 0 else menL hr px py wt K e.1 e.2.1 e.2.2 x y o
def ls (f : Pt → Int64) (z : Int64) (A : List Pt) : Int64 := A.foldl (fun s e => s + f e) z
theorem ls_1 (f : Pt → Int64) (z : Int64) (A : List Pt) (e : Pt) : ls f z (A ++ [e]) = ls f z A + f e := by unfold ls; rw [List.foldl_append]; rfl
theorem ls_a (f : Pt → Int64) (z : Int64) (A B : List Pt) : ls f z (A ++ B) = ls f (ls f z A) B := by unfold ls; rw [List.foldl_append]
def hm (S : St) (x y : Int32) (o : Nat) (A : List Pt) : Prop := (S.1 35 0 = nI A.length ∧ A.length ≤ 40 ∧ ∀ k, k < A.length → A[k]? = some (S.1 32 k, S.1 33 k, S.1 34 k)) ∧ S.2 3 0 = ls (pv (S.1 20) (S.1 21) (S.1 22) (S.1 23) (S.1 26) x y o) 0 A ∧ S.2 4 0 = ls (ev (S.1 20) (S.1 21) (S.1 22) (S.1 23) (S.1 26) x y o) 0 A
def mf (S T : St) : Prop := ∀ a, a < 32 → T.1 a = S.1 a
theorem goe_l {T : St} {A : List Pt} (h1 : T.1 35 0 = nI A.length) (h2 : A.length < 40) (h3 : ∀ k, k < A.length → A[k]? = some (T.1 32 k, T.1 33 k, T.1 34 k)) (a b c : Int32) : ((goeS T a b c).1 35 0 = nI (A ++ [((a, b, c) : Pt)]).length ∧ (A ++ [((a, b, c) : Pt)]).length ≤ 40 ∧ ∀ k, k < (A ++ [((a, b, c) : Pt)]).length → (A ++ [((a, b, c) : Pt)])[k]? = some ((goeS T a b c).1 32 k, (goeS T a b c).1 33 k, (goeS T a b c).1 34 k)) ∧ mf T (goeS T a b c) := by
  unfold goeS
  rw [h1, ncl (by omega)]
  refine ⟨⟨?_, ?_, ?_⟩, ?_⟩
  · rw [sI_eq, upd_eq, List.length_append]; exact nI_1 _
  · rw [List.length_append]; exact h2
  · intro k hk
    rw [List.length_append] at hk
    have hk : k < A.length + 1 := hk
    rw [sI_ne (by decide), sI_ne (by decide), sI_ne (by decide), sI_eq, sI_ne (by decide), sI_ne (by decide), sI_eq, sI_ne (by decide), sI_ne (by decide), sI_eq, sI_ne (by decide), sI_ne (by decide)]
    by_cases e : k = A.length
    · subst e
      rw [upd_eq, upd_eq, upd_eq, List.getElem?_append_right (Nat.le_refl _), Nat.sub_self]; rfl
    · rw [upd_ne e, upd_ne e, upd_ne e, List.getElem?_append_left (by omega)]
      exact h3 k (by omega)
  · exact fun a ha => by rw [sI_ne (by omega), sI_ne (by omega), sI_ne (by omega), sI_ne (by omega)]
theorem evB_hm {S : St} {x y : Int32} {o : Nat} {A : List Pt} (h : hm S x y o A) (hl : A.length < 40) {l i j : Int32} (hn : ¬ l = -1) : hm (evB S l i j x y o) x y o (A ++ [(l, i, j)]) ∧ mf S (evB S l i j x y o) := by
  have g := goe_l (T := ev2 S l i j x y o) h.1.1 hl h.1.2.2 l i j
  have f : mf S (evB S l i j x y o) := fun a ha => g.2 a ha
  refine ⟨⟨g.1, ?_, ?_⟩, f⟩
  · rw [f 20 (by omega), f 21 (by omega), f 22 (by omega), f 23 (by omega), f 26 (by omega), ls_1, ← h.2.1]
    unfold evB; rw [goe_J]; unfold ev2; rw [sJ_ne (by decide)]; unfold ev1; rw [sJ_eq, updL_eq]; unfold pv; rw [if_neg hn]
  · rw [f 20 (by omega), f 21 (by omega), f 22 (by omega), f 23 (by omega), f 26 (by omega), ls_1, ← h.2.2]
    unfold evB; rw [goe_J]; unfold ev2; rw [sJ_eq, updL_eq]; unfold ev1; rw [sJ_ne (by decide)]; unfold ev; rw [if_neg hn]
theorem evP_hm {S : St} {x y : Int32} {o : Nat} {A : List Pt} (h : hm S x y o A) (hl : A.length < 40) {p : Nat} (hp : p < 40) : hm (evP S p x y) x y o (A ++ [(-1, nI p, -1)]) ∧ mf S (evP S p x y) := by
  have g := goe_l (T := sJ S 3 0 (S.2 3 0 + mpuL (S.1 26) (S.1 21) (S.1 22) (S.1 23) p x y)) h.1.1 hl h.1.2.2 (-1) (nI p) (-1)
  have f : mf S (evP S p x y) := fun a ha => g.2 a ha
  refine ⟨⟨g.1, ?_, ?_⟩, f⟩
  · rw [f 20 (by omega), f 21 (by omega), f 22 (by omega), f 23 (by omega), f 26 (by omega), ls_1, ← h.2.1]
    unfold evP; rw [goe_J, sJ_eq, updL_eq]; unfold pv; rw [if_pos rfl]; show _ = _ + mpuL _ _ _ _ (nI p).toNatClampNeg _ _; rw [ncl (by omega)]
  · rw [f 20 (by omega), f 21 (by omega), f 22 (by omega), f 23 (by omega), f 26 (by omega), ls_1, ← h.2.2]
    unfold evP; rw [goe_J, sJ_ne (by decide)]; unfold ev; rw [if_pos rfl]; simp
theorem pp_hm {S : St} {x y : Int32} {o : Nat} {A : List Pt} (l i j : Int32) (h : hm S x y o A) : ∀ n, n ≤ 40 → A.length + npN (S.1 20) (S.1 21) (S.1 22) l i j n ≤ 40 → hm (ppS S l i j x y n) x y o (A ++ ptl (S.1 20) (S.1 21) (S.1 22) l i j n) ∧ mf S (ppS S l i j x y n)
  | 0, _, _ => by rw [ppS, ptl, List.append_nil]; exact ⟨h, fun _ _ => rfl⟩
  | n + 1, h40, hn => by
    rw [npN] at hn
    obtain ⟨i1, i2⟩ := pp_hm l i j h n (by omega) (by omega)
    rw [ppS, ptl, i2 20 (by omega), i2 21 (by omega), i2 22 (by omega)]
    by_cases c : inI (S.1 20) (S.1 21) (S.1 22) l i j n = 0
    · rw [if_pos c, if_pos c]; exact ⟨i1, i2⟩
    · rw [if_neg c, if_neg c, ← List.append_assoc]
      rw [if_neg c] at hn
      have g := evP_hm i1 (by rw [List.length_append, ptl_len]; omega) (p := n) (by omega)
      exact ⟨g.1, fun a ha => (g.2 a ha).trans (i2 a ha)⟩
theorem ga_hm {x y t : Int32} {o : Nat} : ∀ (d : Nat) {S : St} {A : List Pt} {l i j : Nat}, pOk (S.1 20) (S.1 21) (S.1 22) → hm S x y o A → l + d = 6 → i < 2 ^ l → j < 2 ^ l → A.length + cN (S.1 20) (S.1 21) (S.1 22) l i j 40 ≤ 40 → hm (gaS x y t o d S l i j) x y o (A ++ trl (S.1 20) (S.1 21) (S.1 22) (S.1 27 0) x y t d l i j) ∧ mf S (gaS x y t o d S l i j)
  | 0, S, A, l, i, j, _, h, _, _, _, _ => by rw [gaS, trl, List.append_nil]; exact ⟨h, fun _ _ => rfl⟩
  | d + 1, S, A, l, i, j, pk, h, hd', hi, hj, hn => by
    have hl : l ≤ 5 := by omega
    have i6 := lt64 hl hi
    have j6 := lt64 hl hj
    rw [gaS_s, trl_s]
    have c40 := cN_le (S.1 20) (S.1 21) (S.1 22) l i j 40
    rw [pnI_c pk (by omega) i6 j6 40 (Nat.le_refl _)]
    by_cases c0 : cN (S.1 20) (S.1 21) (S.1 22) l i j 40 = 0
    · rw [c0, if_pos (by decide), if_pos (by decide), List.append_nil]; exact ⟨h, fun _ _ => rfl⟩
    · rw [if_neg (nI_nle (by omega) (by omega)), if_neg (nI_nle (by omega) (by omega))]
      split
      · split
        · exact pp_hm _ _ _ h 40 (Nat.le_refl _) (by rw [npN_c pk (by omega) i6 j6 40 (Nat.le_refl _)]; exact hn)
        · rename_i c2
          have h5 := msp_lt hl c2
          have pkk := cN_split (S.1 20) (S.1 21) (S.1 22) i j hl 40
          have t1 := trl_len pk (S.1 27 0) x y t d (l + 1) (2 * i) (2 * j) (by omega) (dbl hi) (dbl hj)
          have t2 := trl_len pk (S.1 27 0) x y t d (l + 1) (2 * i + 1) (2 * j) (by omega) (dbl1 hi) (dbl hj)
          have t3 := trl_len pk (S.1 27 0) x y t d (l + 1) (2 * i) (2 * j + 1) (by omega) (dbl hi) (dbl1 hj)
          obtain ⟨g1, f1⟩ := ga_hm (t := t) d pk h (show l + 1 + d = 6 by omega) (dbl hi) (dbl hj) (by omega)
          generalize gaS x y t o d S (l + 1) (2 * i) (2 * j) = S1 at g1 f1 ⊢
          have k0 := f1 20 (by omega)
          have k1 := f1 21 (by omega)
          have k2 := f1 22 (by omega)
          have k8 := f1 27 (by omega)
          obtain ⟨g2, f2⟩ := ga_hm (t := t) d (by rw [k0, k1, k2]; exact pk) g1 (show l + 1 + d = 6 by omega) (dbl1 hi) (dbl hj) (by rw [List.length_append, k0, k1, k2]; omega)
          generalize gaS x y t o d S1 (l + 1) (2 * i + 1) (2 * j) = S2 at g2 f2 ⊢
          rw [k0, k1, k2, k8] at g2
          have f12 : mf S S2 := fun a ha => (f2 a ha).trans (f1 a ha)
          have m0 := f12 20 (by omega)
          have m1 := f12 21 (by omega)
          have m2 := f12 22 (by omega)
          have m8 := f12 27 (by omega)
          obtain ⟨g3, f3⟩ := ga_hm (t := t) d (by rw [m0, m1, m2]; exact pk) g2 (show l + 1 + d = 6 by omega) (dbl hi) (dbl1 hj) (by rw [List.length_append, List.length_append, m0, m1, m2]; omega)
          generalize gaS x y t o d S2 (l + 1) (2 * i) (2 * j + 1) = S3 at g3 f3 ⊢
          rw [m0, m1, m2, m8] at g3
          have f13 : mf S S3 := fun a ha => (f3 a ha).trans (f12 a ha)
          have n0 := f13 20 (by omega)
          have n1 := f13 21 (by omega)
          have n2 := f13 22 (by omega)
          have n8 := f13 27 (by omega)
          obtain ⟨g4, f4⟩ := ga_hm (t := t) d (by rw [n0, n1, n2]; exact pk) g3 (show l + 1 + d = 6 by omega) (dbl1 hi) (dbl1 hj) (by rw [List.length_append, List.length_append, List.length_append, n0, n1, n2]; omega)
          rw [n0, n1, n2, n8] at g4
          refine ⟨?_, fun a ha => (f4 a ha).trans (f13 a ha)⟩
          simpa [List.append_assoc] using g4
      · exact evB_hm h (by omega) (nI_m1 (by omega))
def trB (S : St) (x y t : Int32) : List Pt := trl (S.1 20) (S.1 21) (S.1 22) (S.1 27 0) x y t 6 0 0 0
theorem gac_hm {S : St} (pk : pOk (S.1 20) (S.1 21) (S.1 22)) (x y t : Int32) (o : Nat) : hm (gacS S x y t o) x y o (trB S x y t) ∧ ∀ a, a < 29 → (gacS S x y t o).1 a = S.1 a := by
  unfold gacS trB
  have c40 := cN_le (S.1 20) (S.1 21) (S.1 22) 0 0 0 40
  have f0 : ∀ a, a < 29 → (nz (iniS S)).1 a = S.1 a := fun a ha => by
    unfold nz; dsimp only; rw [if_neg (by omega), if_neg (by omega), if_neg (by omega)]; unfold iniS; rw [sI_ne (by omega)]; rfl
  have g := ga_hm (x := x) (y := y) (t := t) (o := o) 6 (S := nz (iniS S)) (A := []) (l := 0) (i := 0) (j := 0) (by rw [f0 20 (by omega), f0 21 (by omega), f0 22 (by omega)]; exact pk) ⟨⟨by
    show (nz (iniS S)).1 35 0 = 0
    unfold nz; dsimp only; rw [if_neg (by omega), if_neg (by omega), if_neg (by omega)]; unfold iniS; rw [sI_eq, upd_eq], by decide, fun k hk => absurd hk (Nat.not_lt_zero _)⟩, by
      show (iniS S).2 3 0 = 0
      unfold iniS; rw [sI_J, sJ_ne (by decide), sJ_eq, updL_eq], by
      show (iniS S).2 4 0 = 0
      unfold iniS; rw [sI_J, sJ_eq, updL_eq]⟩ (by omega) (by decide) (by decide) (by rw [f0 20 (by omega), f0 21 (by omega), f0 22 (by omega)]; simpa using c40)
  rw [f0 20 (by omega), f0 21 (by omega), f0 22 (by omega), f0 27 (by omega), List.nil_append] at g
  exact ⟨g.1, fun a ha => (g.2 a (by omega)).trans (f0 a ha)⟩
/-! the end alone -/
theorem ptl_ev {hr px py wt K : Nat → Int32} {x y : Int32} {o : Nat} (l i j : Int32) (z : Int64) : ∀ n, ls (ev hr px py wt K x y o) z (ptl hr px py l i j n) = z
  | 0 => rfl
  | n + 1 => by
    rw [ptl]; split
    · exact ptl_ev l i j z n
    · rw [ls_1, ptl_ev l i j z n]; unfold ev; rw [if_pos rfl]; simp
theorem gaE_ls {hr px py wt K : Nat → Int32} {mo x y t : Int32} {o : Nat} : ∀ (d : Nat) (z : Int64) (l i j : Nat), l + d = 6 → gaE hr px py wt K mo x y t o d z l i j = ls (ev hr px py wt K x y o) z (trl hr px py mo x y t d l i j)
  | 0, _, _, _, _, _ => rfl
  | d + 1, z, l, i, j, hd' => by
    rw [gaE_s, trl_s]
    split
    · rfl
    · split
      · split
        · rw [ptl_ev]
        · rw [ls_a, ls_a, ls_a, gaE_ls d _ _ _ _ (by omega), gaE_ls d _ _ _ _ (by omega), gaE_ls d _ _ _ _ (by omega), gaE_ls d _ _ _ _ (by omega)]
      · unfold ls ev; rw [List.foldl_cons, List.foldl_nil, if_neg (nI_m1 (by omega))]
theorem ev_4 (hr px py wt K : Nat → Int32) (x y : Int32) (e : Pt) : ev hr px py wt K x y 4 e = 0 := by
  unfold ev menL; rw [end_4]; split <;> simp
theorem ls_z {f : Pt → Int64} (h : ∀ e, f e = 0) (z : Int64) : ∀ A : List Pt, ls f z A = z
  | [] => rfl
  | e :: A => by
    show ls f (z + f e) A = z
    rw [h e, show z + 0 = z by simp]; exact ls_z h z A
theorem gaE_4 (S : St) (x y t : Int32) : gaEs S x y t 4 6 0 0 0 0 = 0 := by
  unfold gaEs; rw [gaE_ls 6 0 0 0 0 (by omega)]; exact ls_z (fun e => ev_4 _ _ _ _ _ _ _ e) 0 _
