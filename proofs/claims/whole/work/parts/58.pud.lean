/-! what each point gets, one after the other -/
def uF (h f g : Nat → Int32) (n q : Nat) : Int32 := if q < n then (if h q = 0 then f q else g q) else f q
theorem uF_0 (h f g : Nat → Int32) : uF h f g 0 = f := funext fun q => if_neg (Nat.not_lt_zero q)
theorem uF_no {h f g : Nat → Int32} {n : Nat} (c : h n = 0) : uF h f g (n + 1) = uF h f g n := by
  funext q
  unfold uF
  by_cases e : q = n
  · subst e; rw [if_pos (Nat.lt_succ_self _), if_pos c, if_neg (Nat.lt_irrefl _)]
  · by_cases d : q < n
    · rw [if_pos d, if_pos (by omega)]
    · rw [if_neg d, if_neg (by omega)]
theorem uF_up {h f g : Nat → Int32} {n : Nat} (c : ¬ h n = 0) : uF h f g (n + 1) = upd (uF h f g n) n (g n) := by
  funext q
  by_cases e : q = n
  · subst e; rw [upd_eq]; unfold uF; rw [if_pos (Nat.lt_succ_self _), if_neg c]
  · rw [upd_ne e]; unfold uF
    by_cases d : q < n
    · rw [if_pos d, if_pos (by omega)]
    · rw [if_neg d, if_neg (by omega)]
theorem uF_at (h f g : Nat → Int32) (n : Nat) : uF h f g n n = f n := if_neg (Nat.lt_irrefl _)
theorem uF_in {h f g : Nat → Int32} {n q : Nat} (d : q < n) (c : ¬ h q = 0) : uF h f g n q = g q := by unfold uF; rw [if_pos d, if_neg c]
theorem uF_cong {h f g s : Nat → Int32} {n : Nat} (e : ∀ q, q < n → ¬ h q = 0 → g q = s q) : uF h f g n = uF h f s n := by
  funext q
  unfold uF
  by_cases d : q < n
  · rw [if_pos d, if_pos d]
    by_cases c : h q = 0
    · rw [if_pos c, if_pos c]
    · rw [if_neg c, if_neg c, e q d c]
  · rw [if_neg d, if_neg d]
/-! the parts of a step -/
theorem fp_c (B : St) : ∀ n, (∀ k, k ≠ 17 → k ≠ 18 → (fpT B n).1 k = B.1 k) ∧ (fpT B n).2 = B.2 ∧ (fpT B n).1 17 = uF (B.1 0) (B.1 17) (fun q => pshI (wsuL B (B.1 1 q + 1) (B.1 2 q) - wsuL B (B.1 1 q - 1) (B.1 2 q))) n ∧ (fpT B n).1 18 = uF (B.1 0) (B.1 18) (fun q => pshI (wsuL B (B.1 1 q) (B.1 2 q + 1) - wsuL B (B.1 1 q) (B.1 2 q - 1))) n
  | 0 => ⟨fun _ _ _ => rfl, rfl, (uF_0 _ _ _).symm, (uF_0 _ _ _).symm⟩
  | n + 1 => by
    obtain ⟨i1, i2, i3, i4⟩ := fp_c B n
    rw [fpT, i1 0 (by decide) (by decide)]
    by_cases c : B.1 0 n = 0
    · rw [if_pos c, uF_no c, uF_no c]; exact ⟨i1, i2, i3, i4⟩
    · rw [if_neg c, uF_up c, uF_up c]
      have w : ∀ x y, wsuL (fpT B n) x y = wsuL B x y := fun x y => by unfold wsuL; rw [i2]
      unfold fpP
      simp only [w, i1 1 (by decide) (by decide), i1 2 (by decide) (by decide)]
      refine ⟨fun k h1 h2 => by rw [sI_ne h2, sI_ne h1]; exact i1 k h1 h2, i2, ?_, ?_⟩
      · rw [sI_ne (by decide), sI_eq, i3]
      · rw [sI_eq, sI_ne (by decide), i4]
theorem mf_c (S : St) : ∀ n, (∀ k, k ≠ 36 → k ≠ 37 → (mfT S n).1 k = S.1 k) ∧ (mfT S n).2 = S.2 ∧ (mfT S n).1 36 = uF (S.1 20) (S.1 36) (fun q => psL (saS S (S.1 21 q + 1) (S.1 22 q)) (saS S (S.1 21 q - 1) (S.1 22 q))) n ∧ (mfT S n).1 37 = uF (S.1 20) (S.1 37) (fun q => psL (saS S (S.1 21 q) (S.1 22 q + 1)) (saS S (S.1 21 q) (S.1 22 q - 1))) n
  | 0 => ⟨fun _ _ _ => rfl, rfl, (uF_0 _ _ _).symm, (uF_0 _ _ _).symm⟩
  | n + 1 => by
    obtain ⟨i1, i2, i3, i4⟩ := mf_c S n
    rw [mfT, i1 20 (by decide) (by decide)]
    by_cases c : S.1 20 n = 0
    · rw [if_pos c, uF_no c, uF_no c]; exact ⟨i1, i2, i3, i4⟩
    · rw [if_neg c, uF_up c, uF_up c]
      have w : ∀ x y, saS (mfT S n) x y = saS S x y := fun x y => by unfold saS; rw [i1 20 (by decide) (by decide), i1 21 (by decide) (by decide), i1 22 (by decide) (by decide), i1 23 (by decide) (by decide), i1 26 (by decide) (by decide)]
      have x1 : ∀ k, k ≠ 36 → (mfX (mfT S n) n).1 k = (mfT S n).1 k := fun k hk => by unfold mfX; exact sI_ne hk
      have w2 : ∀ x y, saS (mfX (mfT S n) n) x y = saS S x y := fun x y => by rw [← w]; unfold saS; rw [x1 20 (by decide), x1 21 (by decide), x1 22 (by decide), x1 23 (by decide), x1 26 (by decide)]
      have x2 : (mfX (mfT S n) n).1 36 = upd ((mfT S n).1 36) n (psL (saS S (S.1 21 n + 1) (S.1 22 n)) (saS S (S.1 21 n - 1) (S.1 22 n))) := by
        unfold mfX; rw [sI_eq, w, w, i1 21 (by decide) (by decide), i1 22 (by decide) (by decide)]
      have x3 : (mfX (mfT S n) n).2 = (mfT S n).2 := rfl
      unfold mfP
      rw [w2, w2, x1 21 (by decide), x1 22 (by decide), i1 21 (by decide) (by decide), i1 22 (by decide) (by decide)]
      refine ⟨fun k h1 h2 => by rw [sI_ne h2, x1 k h1]; exact i1 k h1 h2, by rw [sI_J, x3, i2], ?_, ?_⟩
      · rw [sI_ne (by decide), x2, i3]
      · rw [sI_eq, x1 37 (by decide), i4]
theorem ap_c (S : St) (g : Int32) : ∀ n, n ≤ 40 → (∀ k, k ≠ 4 → k ≠ 5 → (apT S g n).1 k = S.1 k) ∧ (apT S g n).2 = S.2 ∧ (apT S g n).1 4 = uF (S.1 0) (S.1 4) (fun q => wrpI (S.1 4 q + g * S.1 17 q).toInt64) n ∧ (apT S g n).1 5 = uF (S.1 0) (S.1 5) (fun q => wrpI (S.1 5 q + g * S.1 18 q).toInt64) n
  | 0, _ => ⟨fun _ _ _ => rfl, rfl, (uF_0 _ _ _).symm, (uF_0 _ _ _).symm⟩
  | n + 1, hn => by
    obtain ⟨i1, i2, i3, i4⟩ := ap_c S g n (by omega)
    rw [apT, i1 0 (by decide) (by decide)]
    by_cases c : S.1 0 n = 0
    · rw [if_pos c, uF_no c, uF_no c]; exact ⟨i1, i2, i3, i4⟩
    · rw [if_neg c, uF_up c, uF_up c]
      unfold spcS
      rw [ncl (by omega), i1 17 (by decide) (by decide), i1 18 (by decide) (by decide)]
      refine ⟨fun k h1 h2 => by rw [sI_ne h2, sI_ne h1]; exact i1 k h1 h2, i2, ?_, ?_⟩
      · rw [sI_ne (by decide), sI_eq, i3, uF_at]
      · rw [sI_eq, sI_ne (by decide), i4, uF_at]
theorem wrl_N (z : Int32) : ∃ c : Nat, c < 64 ∧ wrlI z = nI c := pk_andE z 6 (by decide)
theorem sh_c {S : St} (h : FI S) (g : Int32) : ∀ n, n ≤ 40 → FI (shT S g n) ∧ (∀ k, k ≠ 1 → k ≠ 2 → k ≠ 7 → (shT S g n).1 k = S.1 k) ∧ (shT S g n).2 = S.2 ∧ (shT S g n).1 1 = uF (S.1 0) (S.1 1) (fun q => wrlI (S.1 1 q + g * S.1 4 q)) n ∧ (shT S g n).1 2 = uF (S.1 0) (S.1 2) (fun q => wrlI (S.1 2 q + g * S.1 5 q)) n
  | 0, _ => ⟨h, fun _ _ _ _ => rfl, rfl, (uF_0 _ _ _).symm, (uF_0 _ _ _).symm⟩
  | n + 1, hn => by
    obtain ⟨i0, i1, i2, i3, i4⟩ := sh_c h g n (by omega)
    rw [shT, i1 0 (by decide) (by decide) (by decide)]
    by_cases c : S.1 0 n = 0
    · rw [if_pos c, uF_no c, uF_no c]; exact ⟨i0, i1, i2, i3, i4⟩
    · rw [if_neg c, uF_up c, uF_up c]
      have c' : ¬ (shT S g n).1 0 n = 0 := by rw [i1 0 (by decide) (by decide) (by decide)]; exact c
      have j1 : (shT S g n).1 1 n = S.1 1 n := by rw [i3, uF_at]
      have j2 : (shT S g n).1 2 n = S.1 2 n := by rw [i4, uF_at]
      have j4 : (shT S g n).1 4 n = S.1 4 n := by rw [i1 4 (by decide) (by decide) (by decide)]
      have j5 : (shT S g n).1 5 n = S.1 5 n := by rw [i1 5 (by decide) (by decide) (by decide)]
      obtain ⟨u, hu, eu⟩ := wrl_N (S.1 1 n + g * S.1 4 n)
      obtain ⟨v, hv, ev⟩ := wrl_N (S.1 2 n + g * S.1 5 n)
      have F := FI_mv i0 (show n < 40 by omega) c' hu hv (vp_in_nI hu (by decide)) (vp_in_nI hv (by decide))
      have A := mv_c (shT S g n) (show n < 40 by omega) ((shT S g n).1 1 n) ((shT S g n).1 2 n) (nI u) (nI v) (nI u) (nI v)
      have lf : ∀ k, k ≠ 7 → (leaI (shT S g n) ((shT S g n).1 1 n) ((shT S g n).1 2 n)).1 k = (shT S g n).1 k := fun k hk => by unfold leaI; exact (lea_f _ _ _ 6).1 k hk
      have q : shQ (shT S g n) g n = putS (leaI (shT S g n) ((shT S g n).1 1 n) ((shT S g n).1 2 n)) (nI n) (nI u) (nI v) := by
        unfold shQ; rw [lf 1 (by decide), lf 2 (by decide), lf 4 (by decide), lf 5 (by decide), j1, j2, j4, j5, eu, ev]
      have r1 : (putS (leaI (shT S g n) ((shT S g n).1 1 n) ((shT S g n).1 2 n)) (nI n) (nI u) (nI v)).1 1 n = nI u := by
        unfold putS; rw [ncl (by omega), sI_ne (by decide), sI_eq, upd_eq]
      have r2 : (putS (leaI (shT S g n) ((shT S g n).1 1 n) ((shT S g n).1 2 n)) (nI n) (nI u) (nI v)).1 2 n = nI v := by
        unfold putS; rw [ncl (by omega), sI_eq, upd_eq]
      have s : shP (shT S g n) g n = entI (putS (leaI (shT S g n) ((shT S g n).1 1 n) ((shT S g n).1 2 n)) (nI n) (nI u) (nI v)) (nI u) (nI v) := by
        unfold shP; rw [q, r1, r2]
      rw [s]
      refine ⟨F, fun k h1 h2 h7 => by rw [A.2.2.1 k h1 h2 h7]; exact i1 k h1 h2 h7, by rw [A.2.2.2, i2], ?_, ?_⟩
      · rw [A.1, i3, eu]
      · rw [A.2.1, i4, ev]
theorem go_c (S : St) : ∀ n, (∀ k, k ≠ 21 → k ≠ 22 → k ≠ 24 → k ≠ 25 → (goT S n).1 k = S.1 k) ∧ (goT S n).2 = S.2 ∧ ((goT S n).1 24 = uF (S.1 20) (S.1 24) (fun q => brI (S.1 24 q + S.1 36 q)) n ∧ (goT S n).1 25 = uF (S.1 20) (S.1 25) (fun q => brI (S.1 25 q + S.1 37 q)) n) ∧ (goT S n).1 21 = uF (S.1 20) (S.1 21) (fun q => (S.1 21 q + brI (S.1 24 q + S.1 36 q)) &&& 63) n ∧ (goT S n).1 22 = uF (S.1 20) (S.1 22) (fun q => (S.1 22 q + brI (S.1 25 q + S.1 37 q)) &&& 63) n
  | 0 => ⟨fun _ _ _ _ _ => rfl, rfl, ⟨(uF_0 _ _ _).symm, (uF_0 _ _ _).symm⟩, (uF_0 _ _ _).symm, (uF_0 _ _ _).symm⟩
  | n + 1 => by
    obtain ⟨i1, i2, ⟨i3, i4⟩, i5, i6⟩ := go_c S n
    rw [goT, i1 20 (by decide) (by decide) (by decide) (by decide)]
    by_cases c : S.1 20 n = 0
    · rw [if_pos c, uF_no c, uF_no c, uF_no c, uF_no c]; exact ⟨i1, i2, ⟨i3, i4⟩, i5, i6⟩
    · rw [if_neg c, uF_up c, uF_up c, uF_up c, uF_up c]
      have k36 := i1 36 (by decide) (by decide) (by decide) (by decide)
      have k37 := i1 37 (by decide) (by decide) (by decide) (by decide)
      generalize goT S n = T at *
      have a1 : ∀ k, k ≠ 24 → (goA T n).1 k = T.1 k := fun k hk => by unfold goA; exact sI_ne hk
      have a2 : (goA T n).1 24 = upd (T.1 24) n (brI (S.1 24 n + S.1 36 n)) := by unfold goA; rw [sI_eq, i3, uF_at, k36]
      have b1 : ∀ k, k ≠ 25 → (goB T n).1 k = (goA T n).1 k := fun k hk => by unfold goB; exact sI_ne hk
      have b2 : (goB T n).1 25 = upd (T.1 25) n (brI (S.1 25 n + S.1 37 n)) := by unfold goB; rw [sI_eq, a1 25 (by decide), a1 37 (by decide), i4, uF_at, k37]
      have c1 : ∀ k, k ≠ 21 → (goC T n).1 k = (goB T n).1 k := fun k hk => by unfold goC; exact sI_ne hk
      have c2 : (goC T n).1 21 = upd (T.1 21) n ((S.1 21 n + brI (S.1 24 n + S.1 36 n)) &&& 63) := by unfold goC; rw [sI_eq, b1 21 (by decide), b1 24 (by decide), a1 21 (by decide), a2, upd_eq, i5, uF_at]
      have d1 : ∀ k, k ≠ 22 → (goD T n).1 k = (goC T n).1 k := fun k hk => by unfold goD; exact sI_ne hk
      have d2 : (goD T n).1 22 = upd (T.1 22) n ((S.1 22 n + brI (S.1 25 n + S.1 37 n)) &&& 63) := by unfold goD; rw [sI_eq, c1 22 (by decide), c1 25 (by decide), b1 22 (by decide), b2, upd_eq, a1 22 (by decide), i6, uF_at]
      have dJ : (goD T n).2 = T.2 := rfl
      refine ⟨fun k h1 h2 h4 h5 => by rw [d1 k h2, c1 k h1, b1 k h5, a1 k h4]; exact i1 k h1 h2 h4 h5, by rw [dJ, i2], ⟨?_, ?_⟩, ?_, ?_⟩
      · rw [d1 24 (by decide), c1 24 (by decide), b1 24 (by decide), a2, i3]
      · rw [d1 25 (by decide), c1 25 (by decide), b2, i4]
      · rw [d1 21 (by decide), c2, i5]
      · rw [d2, i6]
theorem gb_c (S : St) : ∀ n, (∀ k, k ≠ 21 → k ≠ 22 → (gbT S n).1 k = S.1 k) ∧ (gbT S n).2 = S.2 ∧ (gbT S n).1 21 = uF (S.1 20) (S.1 21) (fun q => (S.1 21 q - S.1 24 q) &&& 63) n ∧ (gbT S n).1 22 = uF (S.1 20) (S.1 22) (fun q => (S.1 22 q - S.1 25 q) &&& 63) n
  | 0 => ⟨fun _ _ _ => rfl, rfl, (uF_0 _ _ _).symm, (uF_0 _ _ _).symm⟩
  | n + 1 => by
    obtain ⟨i1, i2, i3, i4⟩ := gb_c S n
    rw [gbT, i1 20 (by decide) (by decide)]
    by_cases c : S.1 20 n = 0
    · rw [if_pos c, uF_no c, uF_no c]; exact ⟨i1, i2, i3, i4⟩
    · rw [if_neg c, uF_up c, uF_up c]
      have k24 := i1 24 (by decide) (by decide)
      have k25 := i1 25 (by decide) (by decide)
      generalize gbT S n = T at *
      have a1 : ∀ k, k ≠ 21 → (gbA T n).1 k = T.1 k := fun k hk => by unfold gbA; exact sI_ne hk
      have a2 : (gbA T n).1 21 = upd (T.1 21) n ((S.1 21 n - S.1 24 n) &&& 63) := by unfold gbA; rw [sI_eq, i3, uF_at, k24]
      have b1 : ∀ k, k ≠ 22 → (gbB T n).1 k = (gbA T n).1 k := fun k hk => by unfold gbB; exact sI_ne hk
      have b2 : (gbB T n).1 22 = upd (T.1 22) n ((S.1 22 n - S.1 25 n) &&& 63) := by unfold gbB; rw [sI_eq, a1 22 (by decide), a1 25 (by decide), i4, uF_at, k25]
      have bJ : (gbB T n).2 = T.2 := rfl
      refine ⟨fun k h1 h2 => by rw [b1 k h2, a1 k h1]; exact i1 k h1 h2, by rw [bJ, i2], ?_, ?_⟩
      · rw [b1 21 (by decide), a2, i3]
      · rw [b2, i4]
theorem gc_c (S : St) : ∀ n, (∀ k, k ≠ 24 → k ≠ 25 → (gcT S n).1 k = S.1 k) ∧ (gcT S n).2 = S.2 ∧ (gcT S n).1 24 = uF (S.1 20) (S.1 24) (fun q => brI (S.1 24 q - S.1 36 q)) n ∧ (gcT S n).1 25 = uF (S.1 20) (S.1 25) (fun q => brI (S.1 25 q - S.1 37 q)) n
  | 0 => ⟨fun _ _ _ => rfl, rfl, (uF_0 _ _ _).symm, (uF_0 _ _ _).symm⟩
  | n + 1 => by
    obtain ⟨i1, i2, i3, i4⟩ := gc_c S n
    rw [gcT, i1 20 (by decide) (by decide)]
    by_cases c : S.1 20 n = 0
    · rw [if_pos c, uF_no c, uF_no c]; exact ⟨i1, i2, i3, i4⟩
    · rw [if_neg c, uF_up c, uF_up c]
      have k36 := i1 36 (by decide) (by decide)
      have k37 := i1 37 (by decide) (by decide)
      generalize gcT S n = T at *
      have a1 : ∀ k, k ≠ 24 → (gcA T n).1 k = T.1 k := fun k hk => by unfold gcA; exact sI_ne hk
      have a2 : (gcA T n).1 24 = upd (T.1 24) n (brI (S.1 24 n - S.1 36 n)) := by unfold gcA; rw [sI_eq, i3, uF_at, k36]
      have b1 : ∀ k, k ≠ 25 → (gcB T n).1 k = (gcA T n).1 k := fun k hk => by unfold gcB; exact sI_ne hk
      have b2 : (gcB T n).1 25 = upd (T.1 25) n (brI (S.1 25 n - S.1 37 n)) := by unfold gcB; rw [sI_eq, a1 25 (by decide), a1 37 (by decide), i4, uF_at, k37]
      have bJ : (gcB T n).2 = T.2 := rfl
      refine ⟨fun k h1 h2 => by rw [b1 k h2, a1 k h1]; exact i1 k h1 h2, by rw [bJ, i2], ?_, ?_⟩
      · rw [b1 24 (by decide), a2, i3]
      · rw [b2, i4]
/-! pushes and paces, both ways of writing them -/
theorem ps_m (a b : Int64) : pshI (a - b) = psL a b := by
  unfold pshI psL wrpI
  generalize (a - b) >>> ((12 : Int32).toInt64 &&& 63) = v
  rw [show v - (-32) = v + 32 by grind]
  grind
theorem wr_m (v : Int32) : wrpI v.toInt64 = brI v := by
  unfold wrpI brI
  rw [show v.toInt64 - (-32) = v.toInt64 + 32 by grind, Int64.toInt32_and, Int64.toInt32_add, i6432, show (32 : Int64).toInt32 = 32 from rfl, show (63 : Int64).toInt32 = 63 from rfl]
  grind
theorem i1m (x y : Int32) : x + 1 * y = x + y := by grind
theorem i2m (x y : Int32) : x + (-1) * y = x - y := by grind
/-! one step -/
def agp (U T : St) : Prop := (U.1 0 = T.1 20 ∧ U.1 1 = T.1 21 ∧ U.1 2 = T.1 22 ∧ U.1 3 = T.1 23 ∧ U.1 4 = T.1 24 ∧ U.1 5 = T.1 25) ∧ U.1 8 0 = T.1 27 0 ∧ kOk (U.2 1) (T.1 26)
theorem rng1 {S : St} (h : plOk S) {q : Nat} (hq : q < 40) (hh : ¬ S.1 0 q = 0) : ((-1000 ≤ (S.1 1 q).toInt ∧ (S.1 1 q).toInt ≤ 1000) ∧ (-1000 ≤ (S.1 1 q + 1).toInt ∧ (S.1 1 q + 1).toInt ≤ 1000) ∧ (-1000 ≤ (S.1 1 q - 1).toInt ∧ (S.1 1 q - 1).toInt ≤ 1000)) ∧ ((-1000 ≤ (S.1 2 q).toInt ∧ (S.1 2 q).toInt ≤ 1000) ∧ (-1000 ≤ (S.1 2 q + 1).toInt ∧ (S.1 2 q + 1).toInt ≤ 1000) ∧ (-1000 ≤ (S.1 2 q - 1).toInt ∧ (S.1 2 q - 1).toInt ≤ 1000)) := by
  have a := vp_in_iff.mp (h q hq hh).1
  have b := vp_in_iff.mp (h q hq hh).2
  rw [Int32.toInt_add, Int32.toInt_sub, Int32.toInt_add, Int32.toInt_sub, show (1 : Int32).toInt = 1 from rfl, bm32 (by omega) (by omega), bm32 (by omega) (by omega), bm32 (by omega) (by omega), bm32 (by omega) (by omega)]
  omega
theorem fp_m {U T : St} (h : FI U) (g : agp U T) : qf U (fpS U) ∧ ∀ q, q < 40 → ¬ U.1 0 q = 0 → (fpS U).1 17 q = (mfT T 40).1 36 q ∧ (fpS U).1 18 q = (mfT T 40).1 37 q := by
  have w : ∀ x y : Int32, (-1000 ≤ x.toInt ∧ x.toInt ≤ 1000) → (-1000 ≤ y.toInt ∧ y.toInt ≤ 1000) → wsuL (etS (gatS U 0 0 0) 4) x y = saS T x y := fun x y hx hy => by
    rw [ws_all h.1 g.2.2 hx hy]; unfold saS
    rw [g.1.1, g.1.2.1, g.1.2.2.1, g.1.2.2.2.1]
  have q := (gat_f U 0 0 0).qf.trans (etS_f (gatS U 0 0 0) 4).qf
  have e : ∀ k, k < 9 ∨ 9 < k → (etS (gatS U 0 0 0) 4).1 k = U.1 k := fun k hk => by
    rw [(etS_f (gatS U 0 0 0) 4).1]; exact (gat_f U 0 0 0).1 k (by omega)
  unfold fpS
  generalize etS (gatS U 0 0 0) 4 = B at *
  obtain ⟨i1, i2, i3, i4⟩ := fp_c B 40
  obtain ⟨j1, j2, j3, j4⟩ := mf_c T 40
  refine ⟨⟨fun a ha => by rw [i1 a (by omega) (by omega)]; exact q.1 a ha, fun j h0 h2 => by rw [i2]; exact q.2 j h0 h2⟩, ?_⟩
  intro p hp hh
  have hB : ¬ B.1 0 p = 0 := by rw [e 0 (by omega)]; exact hh
  have hT : ¬ T.1 20 p = 0 := by rw [← g.1.1]; exact hh
  obtain ⟨⟨r1, r2, r3⟩, r4, r5, r6⟩ := rng1 h.1 hp hh
  rw [i3, i4, j3, j4, uF_in hp hB, uF_in hp hB, uF_in hp hT, uF_in hp hT]
  rw [e 1 (by omega), e 2 (by omega), w _ _ r2 r4, w _ _ r3 r4, w _ _ r1 r5, w _ _ r1 r6, ps_m, ps_m, g.1.2.1, g.1.2.2.1]
  exact ⟨rfl, rfl⟩
theorem fth_m {U T : St} (h : FI U) (g : agp U T) : FI (fthS U) ∧ agp (fthS U) (gonS T) ∧ (fthS U).1 19 0 = U.1 19 0 + 1 ∧ ∀ k, 19 < k → (fthS U).1 k = U.1 k := by
  obtain ⟨f1, f2⟩ := fp_m h g
  have hV := FI_of (fun a ha => f1.1 a (by omega)) h
  unfold fthS gonS
  generalize fpS U = V at *
  obtain ⟨m1, m2, _, _⟩ := mf_c T 40
  generalize mfT T 40 = M at *
  obtain ⟨a1, a2, a3, a4⟩ := ap_c V 1 40 (Nat.le_refl _)
  have hA := FI_of2 (fun a _ h4 h5 => a1 a h4 h5) hV
  generalize apT V 1 40 = A at *
  obtain ⟨s0, s1, s2, s3, s4⟩ := sh_c hA 1 40 (Nat.le_refl _)
  generalize shT A 1 40 = B at *
  obtain ⟨o1, o2, ⟨o3, o4⟩, o5, o6⟩ := go_c M 40
  generalize goT M 40 = N at *
  have v : ∀ k, k < 9 ∨ 18 < k → V.1 k = U.1 k := f1.1
  have e0 : V.1 0 = M.1 20 := by rw [v 0 (by omega), m1 20 (by decide) (by decide)]; exact g.1.1
  have e1 : V.1 1 = M.1 21 := by rw [v 1 (by omega), m1 21 (by decide) (by decide)]; exact g.1.2.1
  have e2 : V.1 2 = M.1 22 := by rw [v 2 (by omega), m1 22 (by decide) (by decide)]; exact g.1.2.2.1
  have e3 : V.1 3 = M.1 23 := by rw [v 3 (by omega), m1 23 (by decide) (by decide)]; exact g.1.2.2.2.1
  have e4 : V.1 4 = M.1 24 := by rw [v 4 (by omega), m1 24 (by decide) (by decide)]; exact g.1.2.2.2.2.1
  have e5 : V.1 5 = M.1 25 := by rw [v 5 (by omega), m1 25 (by decide) (by decide)]; exact g.1.2.2.2.2.2
  have hu : ∀ q, q < 40 → ¬ M.1 20 q = 0 → V.1 17 q = M.1 36 q ∧ V.1 18 q = M.1 37 q := fun q hq hh => f2 q hq (by rw [← v 0 (by omega), e0]; exact hh)
  have k4 : A.1 4 = N.1 24 := by
    rw [a3, o3, e0, e4]
    refine uF_cong (fun q hq hh => ?_)
    rw [wr_m, (hu q hq hh).1, i1m]
  have k5 : A.1 5 = N.1 25 := by
    rw [a4, o4, e0, e5]
    refine uF_cong (fun q hq hh => ?_)
    rw [wr_m, (hu q hq hh).2, i1m]
  have k1 : B.1 1 = N.1 21 := by
    rw [s3, o5, a1 0 (by decide) (by decide), a1 1 (by decide) (by decide), e0, e1]
    refine uF_cong (fun q hq hh => ?_)
    unfold wrlI
    rw [k4, o3, uF_in hq hh, i1m]
  have k2 : B.1 2 = N.1 22 := by
    rw [s4, o6, a1 0 (by decide) (by decide), a1 2 (by decide) (by decide), e0, e2]
    refine uF_cong (fun q hq hh => ?_)
    unfold wrlI
    rw [k5, o4, uF_in hq hh, i1m]
  have z : ∀ k, k ≠ 19 → (sI B 19 0 (B.1 19 0 + 1)).1 k = B.1 k := fun k hk => sI_ne hk
  refine ⟨FI_of (fun a ha => z a (by omega)) s0, ⟨⟨?_, ?_, ?_, ?_, ?_, ?_⟩, ?_, ?_⟩, ?_, ?_⟩
  · rw [z 0 (by decide), s1 0 (by decide) (by decide) (by decide), a1 0 (by decide) (by decide), e0, o1 20 (by decide) (by decide) (by decide) (by decide)]
  · rw [z 1 (by decide)]; exact k1
  · rw [z 2 (by decide)]; exact k2
  · rw [z 3 (by decide), s1 3 (by decide) (by decide) (by decide), a1 3 (by decide) (by decide), e3, o1 23 (by decide) (by decide) (by decide) (by decide)]
  · rw [z 4 (by decide), s1 4 (by decide) (by decide) (by decide)]; exact k4
  · rw [z 5 (by decide), s1 5 (by decide) (by decide) (by decide)]; exact k5
  · rw [z 8 (by decide), s1 8 (by decide) (by decide) (by decide), a1 8 (by decide) (by decide), v 8 (by omega), o1 27 (by decide) (by decide) (by decide) (by decide), m1 27 (by decide) (by decide)]; exact g.2.1
  · rw [sI_J, s2, a2, f1.2 1 (by decide) (by decide), o1 26 (by decide) (by decide) (by decide) (by decide), m1 26 (by decide) (by decide)]; exact g.2.2
  · rw [sI_eq, upd_eq, s1 19 (by decide) (by decide) (by decide), a1 19 (by decide) (by decide), v 19 (by omega)]
  · intro k hk
    rw [z k (by omega), s1 k (by omega) (by omega) (by omega), a1 k (by omega) (by omega), v k (by omega)]
theorem bck_m {U T : St} (h : FI U) (g : agp U T) : FI (bckS U) ∧ agp (bckS U) (gbkS T) ∧ (bckS U).1 19 0 = U.1 19 0 - 1 ∧ ∀ k, 19 < k → (bckS U).1 k = U.1 k := by
  obtain ⟨s0, s1, s2, s3, s4⟩ := sh_c h (-1) 40 (Nat.le_refl _)
  obtain ⟨b1, b2, b3, b4⟩ := gb_c T 40
  have g2 : agp (shT U (-1) 40) (gbT T 40) := by
    refine ⟨⟨?_, ?_, ?_, ?_, ?_, ?_⟩, ?_, ?_⟩
    · rw [s1 0 (by decide) (by decide) (by decide), b1 20 (by decide) (by decide)]; exact g.1.1
    · rw [s3, b3, g.1.1, g.1.2.1, g.1.2.2.2.2.1]
      refine uF_cong (fun q hq hh => ?_)
      unfold wrlI; rw [i2m]
    · rw [s4, b4, g.1.1, g.1.2.2.1, g.1.2.2.2.2.2]
      refine uF_cong (fun q hq hh => ?_)
      unfold wrlI; rw [i2m]
    · rw [s1 3 (by decide) (by decide) (by decide), b1 23 (by decide) (by decide)]; exact g.1.2.2.2.1
    · rw [s1 4 (by decide) (by decide) (by decide), b1 24 (by decide) (by decide)]; exact g.1.2.2.2.2.1
    · rw [s1 5 (by decide) (by decide) (by decide), b1 25 (by decide) (by decide)]; exact g.1.2.2.2.2.2
    · rw [s1 8 (by decide) (by decide) (by decide), b1 27 (by decide) (by decide)]; exact g.2.1
    · rw [s2, b1 26 (by decide) (by decide)]; exact g.2.2
  have s19 := s1 19 (by decide) (by decide) (by decide)
  have sk : ∀ k, 19 < k → (shT U (-1) 40).1 k = U.1 k := fun k hk => s1 k (by omega) (by omega) (by omega)
  unfold bckS gbkS
  clear s1 s2 s3 s4 b1 b2 b3 b4
  generalize shT U (-1) 40 = P at *
  generalize gbT T 40 = Q at *
  obtain ⟨f1, f2⟩ := fp_m s0 g2
  have hV := FI_of (fun a ha => f1.1 a (by omega)) s0
  generalize fpS P = V at *
  obtain ⟨m1, m2, _, _⟩ := mf_c Q 40
  generalize mfT Q 40 = M at *
  obtain ⟨a1, a2, a3, a4⟩ := ap_c V (-1) 40 (Nat.le_refl _)
  have hA := FI_of2 (fun a _ h4 h5 => a1 a h4 h5) hV
  generalize apT V (-1) 40 = A at *
  obtain ⟨o1, o2, o3, o4⟩ := gc_c M 40
  generalize gcT M 40 = N at *
  have v : ∀ k, k < 9 ∨ 18 < k → V.1 k = P.1 k := f1.1
  have e0 : V.1 0 = M.1 20 := by rw [v 0 (by omega), m1 20 (by decide) (by decide)]; exact g2.1.1
  have e4 : V.1 4 = M.1 24 := by rw [v 4 (by omega), m1 24 (by decide) (by decide)]; exact g2.1.2.2.2.2.1
  have e5 : V.1 5 = M.1 25 := by rw [v 5 (by omega), m1 25 (by decide) (by decide)]; exact g2.1.2.2.2.2.2
  have hu : ∀ q, q < 40 → ¬ M.1 20 q = 0 → V.1 17 q = M.1 36 q ∧ V.1 18 q = M.1 37 q := fun q hq hh => f2 q hq (by rw [← v 0 (by omega), e0]; exact hh)
  have k4 : A.1 4 = N.1 24 := by
    rw [a3, o3, e0, e4]
    refine uF_cong (fun q hq hh => ?_)
    rw [wr_m, (hu q hq hh).1, i2m]
  have k5 : A.1 5 = N.1 25 := by
    rw [a4, o4, e0, e5]
    refine uF_cong (fun q hq hh => ?_)
    rw [wr_m, (hu q hq hh).2, i2m]
  have z : ∀ k, k ≠ 19 → (sI A 19 0 (A.1 19 0 - 1)).1 k = A.1 k := fun k hk => sI_ne hk
  refine ⟨FI_of (fun a ha => z a (by omega)) hA, ⟨⟨?_, ?_, ?_, ?_, ?_, ?_⟩, ?_, ?_⟩, ?_, ?_⟩
  · rw [z 0 (by decide), a1 0 (by decide) (by decide), e0, o1 20 (by decide) (by decide)]
  · rw [z 1 (by decide), a1 1 (by decide) (by decide), v 1 (by omega), o1 21 (by decide) (by decide), m1 21 (by decide) (by decide)]; exact g2.1.2.1
  · rw [z 2 (by decide), a1 2 (by decide) (by decide), v 2 (by omega), o1 22 (by decide) (by decide), m1 22 (by decide) (by decide)]; exact g2.1.2.2.1
  · rw [z 3 (by decide), a1 3 (by decide) (by decide), v 3 (by omega), o1 23 (by decide) (by decide), m1 23 (by decide) (by decide)]; exact g2.1.2.2.2.1
  · rw [z 4 (by decide)]; exact k4
  · rw [z 5 (by decide)]; exact k5
  · rw [z 8 (by decide), a1 8 (by decide) (by decide), v 8 (by omega), o1 27 (by decide) (by decide), m1 27 (by decide) (by decide)]; exact g2.2.1
  · rw [sI_J, a2, f1.2 1 (by decide) (by decide), o1 26 (by decide) (by decide), m1 26 (by decide) (by decide)]; exact g2.2.2
  · rw [sI_eq, upd_eq, a1 19 (by decide) (by decide), v 19 (by omega), s19]
  · intro k hk
    rw [z k (by omega), a1 k (by omega) (by omega), v k (by omega), sk k hk]
