/-! sums, and the two ways of writing a polynomial -/
def sm (f : Nat → Int64) : Nat → Int64
  | 0 => 0
  | n + 1 => sm f n + f n
theorem sm_s (f : Nat → Int64) (n : Nat) : sm f (n + 1) = sm f n + f n := rfl
theorem sm_cong {f g : Nat → Int64} : ∀ {n : Nat}, (∀ k, k < n → f k = g k) → sm f n = sm g n
  | 0, _ => rfl
  | n + 1, h => by rw [sm_s, sm_s, sm_cong (fun k hk => h k (Nat.lt_succ_of_lt hk)), h n (Nat.lt_succ_self n)]
theorem sm_add (f g : Nat → Int64) : ∀ n, sm (fun i => f i + g i) n = sm f n + sm g n
  | 0 => by simp [sm]
  | n + 1 => by rw [sm_s, sm_s, sm_s, sm_add f g n]; grind
theorem sm_mul (c : Int64) (f : Nat → Int64) : ∀ n, sm (fun i => c * f i) n = c * sm f n
  | 0 => by simp [sm]
  | n + 1 => by rw [sm_s, sm_s, sm_mul c f n]; grind
theorem sm_mulr (c : Int64) (f : Nat → Int64) : ∀ n, sm (fun i => f i * c) n = sm f n * c
  | 0 => by simp [sm]
  | n + 1 => by rw [sm_s, sm_s, sm_mulr c f n]; grind
theorem sm_zero : ∀ n, sm (fun _ => 0) n = 0
  | 0 => rfl
  | n + 1 => by rw [sm_s, sm_zero n]; rfl
theorem sm_z {f : Nat → Int64} {n : Nat} (h : ∀ k, k < n → f k = 0) : sm f n = 0 := (sm_cong h).trans (sm_zero n)
theorem sm_tail (f : Nat → Int64) (v0 : Nat) : ∀ n, sm (fun v => if v < v0 then 0 else f v) n = sm (fun k => f (v0 + k)) (n - v0)
  | 0 => by rw [Nat.zero_sub]; rfl
  | n + 1 => by
    rw [sm_s, sm_tail f v0 n]
    by_cases h : n < v0
    · rw [if_pos h, show n + 1 - v0 = 0 by omega, show n - v0 = 0 by omega]; rfl
    · rw [if_neg h, show n + 1 - v0 = (n - v0) + 1 by omega, sm_s, show v0 + (n - v0) = n by omega]
theorem sm_if (p : Prop) [Decidable p] (f : Nat → Int64) (n : Nat) : sm (fun i => if p then f i else 0) n = if p then sm f n else 0 := by
  by_cases h : p
  · simp [h]
  · simp [h, sm_zero]
set_option maxRecDepth 4000 in
theorem valP_sm (f : Nat → Int64) (x y : Int64) : valP f x y = sm (fun a => sm (fun b => f (a * 5 + b) * (pw 1 x a * pw 1 y b)) (5 - a)) 5 := by
  simp [valP, hor, sm, pw]
  grind
theorem pw_mul (v d : Int64) : ∀ n, pw v d n = v * pw 1 d n
  | 0 => by simp [pw]
  | n + 1 => by rw [pw, pw, pw_mul v d n]; grind
theorem updL_add (f : Nat → Int64) (i j : Nat) (v : Int64) : vp_updL f i (f i + v) j = f j + (if j = i then v else 0) := by
  unfold vp_updL
  by_cases h : j = i
  · rw [if_pos h, if_pos h, h]
  · rw [if_neg h, if_neg h]; simp
theorem sm_one (g : Nat → Int64) (k : Nat) : ∀ n, sm (fun i => if i = k then g i else 0) n = if k < n then g k else 0
  | 0 => rfl
  | n + 1 => by
    rw [sm_s, sm_one g k n]
    by_cases h : n = k
    · subst h; rw [if_neg (Nat.lt_irrefl _), if_pos rfl, if_pos (Nat.lt_succ_self _)]; simp
    · rw [if_neg h]
      by_cases h2 : k < n
      · rw [if_pos h2, if_pos (by omega)]; simp
      · rw [if_neg h2, if_neg (by omega)]; simp
theorem valP_upd (f : Nat → Int64) (x y v : Int64) {a b : Nat} (h : a + b ≤ 4) : valP (vp_updL f (a * 5 + b) (f (a * 5 + b) + v)) x y = valP f x y + v * (pw 1 x a * pw 1 y b) := by
  rw [valP_sm, valP_sm]
  have e : sm (fun a' => sm (fun b' => vp_updL f (a * 5 + b) (f (a * 5 + b) + v) (a' * 5 + b') * (pw 1 x a' * pw 1 y b')) (5 - a')) 5 = sm (fun a' => sm (fun b' => f (a' * 5 + b') * (pw 1 x a' * pw 1 y b')) (5 - a') + (if a' = a then v * (pw 1 x a' * pw 1 y b) else 0)) 5 := by
    refine sm_cong (fun a' ha => ?_)
    have e2 : sm (fun b' => vp_updL f (a * 5 + b) (f (a * 5 + b) + v) (a' * 5 + b') * (pw 1 x a' * pw 1 y b')) (5 - a') = sm (fun b' => f (a' * 5 + b') * (pw 1 x a' * pw 1 y b') + (if b' = b then (if a' = a then v * (pw 1 x a' * pw 1 y b') else 0) else 0)) (5 - a') := by
      refine sm_cong (fun b' hb => ?_)
      rw [updL_add]
      by_cases h1 : a' = a
      · by_cases h2 : b' = b
        · rw [if_pos (by omega), if_pos h2, if_pos h1]; grind
        · rw [if_neg (by omega), if_neg h2]; grind
      · rw [if_neg (by omega), if_neg h1, ite_self]; grind
    rw [e2, sm_add, sm_one]
    by_cases h1 : a' = a
    · subst h1; rw [if_pos (by omega)]
    · rw [if_neg h1, ite_self]
  rw [e, sm_add, sm_one (fun a' => v * (pw 1 x a' * pw 1 y b)), if_pos (by omega)]
theorem valP_z {f : Nat → Int64} (x y : Int64) (h : ∀ i, i < 25 → f i = 0) : valP f x y = 0 := by
  rw [valP_sm]
  exact sm_z (fun a ha => sm_z (fun b hb => by rw [h _ (by omega)]; simp))
/-! the expansion -/
def jf (k : Nat) (S T : St) : Prop := T.1 = S.1 ∧ ∀ j, j ≠ k → T.2 j = S.2 j
theorem jf.refl (k : Nat) (S : St) : jf k S S := ⟨rfl, fun _ _ => rfl⟩
theorem jf.trans {k : Nat} {S T U : St} (h : jf k S T) (g : jf k T U) : jf k S U := ⟨g.1.trans h.1, fun j hj => (g.2 j hj).trans (h.2 j hj)⟩
theorem jf_sJ (S : St) (k i : Nat) (v : Int64) : jf k S (sJ S k i v) := ⟨rfl, fun j hj => if_neg hj⟩
theorem sJ_at (S : St) (k i : Nat) (v : Int64) : (sJ S k i v).2 k = vp_updL (S.2 k) i v := if_pos rfl
def tq (m : Nat → Int64) (c : Int64) (a b u v : Nat) : Int64 := if (nI u + nI v) &&& 1 = 0 then c * waysL a u b v * m (u * 5 + v) else -(c * waysL a u b v * m (u * 5 + v))
theorem tpart_q (T : St) (a b : Nat) (c : Int64) (u v : Nat) : tpart T a b c u v = tq (T.2 0) c a b u v := rfl
theorem tq_0 (m : Nat → Int64) (a b u v : Nat) : tq m 0 a b u v = 0 := by unfold tq; split <;> simp
theorem adP_f (T : St) (a b : Nat) (v : Int64) : jf 2 T (adP T a b v) := jf_sJ T 2 _ _
theorem adP_v (T : St) (a b : Nat) (v x y : Int64) (h : a + b ≤ 4) : valP ((adP T a b v).2 2) x y = valP (T.2 2) x y + v * (pw 1 x a * pw 1 y b) := by
  unfold adP; rw [sJ_at]; exact valP_upd _ _ _ _ h
theorem atV_f (T : St) (a b : Nat) (c : Int64) (u : Nat) : ∀ n, jf 2 T (atV T a b c u n)
  | 0 => jf.refl _ _
  | n + 1 => (atV_f T a b c u n).trans (adP_f _ _ _ _)
theorem atV_v (T : St) {a b : Nat} (c : Int64) {u : Nat} (x y : Int64) (h : a + b ≤ 4) (hu : u ≤ a) : ∀ n, valP ((atV T a b c u n).2 2) x y = valP (T.2 2) x y + sm (fun v => tq (T.2 0) c a b u v * (pw 1 x (a - u) * pw 1 y (b - v))) n
  | 0 => by simp [atV, sm]
  | n + 1 => by
    rw [atV, adP_v _ _ _ _ _ _ (by omega), atV_v T c x y h hu n, tpart_q, (atV_f T a b c u n).2 0 (by decide), sm_s]; grind
theorem atU_f (T : St) (a b : Nat) (c : Int64) (o : Nat) : ∀ n, jf 2 T (atU T a b c o n)
  | 0 => jf.refl _ _
  | n + 1 => (atU_f T a b c o n).trans (atV_f _ _ _ _ _ _)
theorem atU_v (T : St) {a b : Nat} (c : Int64) (o : Nat) (x y : Int64) (h : a + b ≤ 4) : ∀ n, n ≤ a + 1 → valP ((atU T a b c o n).2 2) x y = valP (T.2 2) x y + sm (fun u => sm (fun v => tq (T.2 0) c a b u v * (pw 1 x (a - u) * pw 1 y (b - v))) (min (b + 1) (o + 1 - u))) n
  | 0, _ => by simp [atU, sm]
  | n + 1, hn => by
    rw [atU, atV_v _ _ _ _ h (by omega), atU_v T c o x y h n (by omega), (atU_f T a b c o n).2 0 (by decide), sm_s]; grind
theorem etB_f (T : St) (o a : Nat) : ∀ n, jf 2 T (etB T o a n)
  | 0 => jf.refl _ _
  | n + 1 => by
    rw [etB]; split
    · exact etB_f T o a n
    · exact (etB_f T o a n).trans (atU_f _ _ _ _ _ _)
def tR (m k : Nat → Int64) (x y : Int64) (o a b : Nat) : Int64 := sm (fun u => sm (fun v => tq m (shl4 (k (a * 5 + b)) a b) a b u v * (pw 1 x (a - u) * pw 1 y (b - v))) (min (b + 1) (o + 1 - u))) (a + 1)
theorem etB_v (T : St) (o a : Nat) (x y : Int64) : ∀ n, n ≤ 5 - a → valP ((etB T o a n).2 2) x y = valP (T.2 2) x y + sm (tR (T.2 0) (T.2 1) x y o a) n
  | 0, _ => by simp [etB, sm]
  | n + 1, hn => by
    have h0 := (etB_f T o a n).2 0 (by decide)
    have h1 := (etB_f T o a n).2 1 (by decide)
    rw [etB, sm_s, h1]
    split
    · rename_i hc
      rw [etB_v T o a x y n (by omega), show tR (T.2 0) (T.2 1) x y o a n = 0 from sm_z (fun u _ => sm_z (fun v _ => by rw [hc, tq_0]; simp))]; simp
    · rw [atU_v _ _ _ _ _ (by omega) _ (Nat.le_refl _), etB_v T o a x y n (by omega), h0]; unfold tR; grind
theorem etA_f (T : St) (o : Nat) : ∀ n, jf 2 T (etA T o n)
  | 0 => jf.refl _ _
  | n + 1 => (etA_f T o n).trans (etB_f _ _ _ _)
theorem etA_v (T : St) (o : Nat) (x y : Int64) : ∀ n, valP ((etA T o n).2 2) x y = valP (T.2 2) x y + sm (fun a => sm (tR (T.2 0) (T.2 1) x y o a) (5 - a)) n
  | 0 => by simp [etA, sm]
  | n + 1 => by
    rw [etA, etB_v _ _ _ _ _ _ (Nat.le_refl _), etA_v T o x y n, (etA_f T o n).2 0 (by decide), (etA_f T o n).2 1 (by decide), sm_s]; grind
theorem clrS_f (S : St) (k : Nat) : ∀ n, jf k S (clrS S k n)
  | 0 => jf.refl _ _
  | n + 1 => (clrS_f S k n).trans (jf_sJ _ _ _ _)
theorem clrS_z (S : St) (k : Nat) : ∀ n i, i < n → (clrS S k n).2 k i = 0
  | 0, _, h => absurd h (Nat.not_lt_zero _)
  | n + 1, i, h => by
    rw [clrS, sJ_at]; unfold vp_updL
    by_cases e : i = n
    · rw [if_pos e]
    · rw [if_neg e]; exact clrS_z S k n i (by omega)
theorem etS_f (S : St) (o : Nat) : jf 2 S (etS S o) := by unfold etS; exact (clrS_f S 2 25).trans (etA_f _ _ _)
theorem etS_v (S : St) (o : Nat) (x y : Int64) : valP ((etS S o).2 2) x y = sm (fun a => sm (tR (S.2 0) (S.2 1) x y o a) (5 - a)) 5 := by
  unfold etS
  rw [etA_v, (clrS_f S 2 25).2 0 (by decide), (clrS_f S 2 25).2 1 (by decide), valP_z _ _ (clrS_z S 2 25)]; simp
/-! the end's expansion -/
def eq4 (c : Int64) (r : Int32) (a b u v : Nat) : Int64 := c * waysL a u b v * pw 1 r.toInt64 (u + v)
theorem aeV_f (T : St) (a b : Nat) (c : Int64) (r : Int32) (u v0 : Nat) : ∀ n, jf 2 T (aeV T a b c r u v0 n)
  | 0 => jf.refl _ _
  | n + 1 => (aeV_f T a b c r u v0 n).trans (adP_f _ _ _ _)
theorem aeV_v (T : St) {a b : Nat} (c : Int64) (r : Int32) {u : Nat} (v0 : Nat) (x y : Int64) (h : a + b ≤ 4) : ∀ n, valP ((aeV T a b c r u v0 n).2 2) x y = valP (T.2 2) x y + sm (fun k => eq4 c r a b u (v0 + k) * (pw 1 x (a - u) * pw 1 y (b - (v0 + k)))) n
  | 0 => by simp [aeV, sm]
  | n + 1 => by rw [aeV, adP_v _ _ _ _ _ _ (by omega), aeV_v T c r v0 x y h n, sm_s]; unfold eq4; grind
theorem aeU_f (T : St) (a b : Nat) (c : Int64) (r : Int32) (o : Nat) : ∀ n, jf 2 T (aeU T a b c r o n)
  | 0 => jf.refl _ _
  | n + 1 => (aeU_f T a b c r o n).trans (aeV_f _ _ _ _ _ _ _ _)
def eR (c : Int64) (r : Int32) (x y : Int64) (o a b : Nat) : Int64 := sm (fun u => sm (fun v => if u + v ≤ o then 0 else eq4 c r a b u v * (pw 1 x (a - u) * pw 1 y (b - v))) (b + 1)) (a + 1)
theorem aeU_v (T : St) {a b : Nat} (c : Int64) (r : Int32) (o : Nat) (x y : Int64) (h : a + b ≤ 4) : ∀ n, valP ((aeU T a b c r o n).2 2) x y = valP (T.2 2) x y + sm (fun u => sm (fun v => if u + v ≤ o then 0 else eq4 c r a b u v * (pw 1 x (a - u) * pw 1 y (b - v))) (b + 1)) n
  | 0 => by simp [aeU, sm]
  | n + 1 => by
    rw [aeU, aeV_v _ _ _ _ _ _ h, aeU_v T c r o x y h n, sm_s, ← sm_tail (fun v => eq4 c r a b n v * (pw 1 x (a - n) * pw 1 y (b - v)))]
    rw [sm_cong (f := fun v => if n + v ≤ o then 0 else eq4 c r a b n v * (pw 1 x (a - n) * pw 1 y (b - v))) (g := fun v => if v < o + 1 - n then 0 else eq4 c r a b n v * (pw 1 x (a - n) * pw 1 y (b - v))) (fun v _ => by
      by_cases e : n + v ≤ o
      · rw [if_pos e, if_pos (by omega)]
      · rw [if_neg e, if_neg (by omega)])]
    grind
theorem eR_0 (r : Int32) (x y : Int64) (o a b : Nat) : eR 0 r x y o a b = 0 := sm_z (fun u _ => sm_z (fun v _ => by unfold eq4; split <;> simp))
theorem eeB_f (T : St) (k : Int64) (r : Int32) (o a : Nat) : ∀ n, jf 2 T (eeB T k r o a n)
  | 0 => jf.refl _ _
  | n + 1 => by
    rw [eeB]; split
    · exact eeB_f T k r o a n
    · exact (eeB_f T k r o a n).trans (aeU_f _ _ _ _ _ _ _)
theorem eeB_v (T : St) (k : Int64) (r : Int32) (o a : Nat) (x y : Int64) : ∀ n, n ≤ 5 - a → valP ((eeB T k r o a n).2 2) x y = valP (T.2 2) x y + sm (fun b => eR (shl4 (absL (T.2 1 (a * 5 + b))) a b * k) r x y o a b) n
  | 0, _ => by simp [eeB, sm]
  | n + 1, hn => by
    have h1 := (eeB_f T k r o a n).2 1 (by decide)
    rw [eeB, sm_s, h1]
    split
    · rename_i hc
      rw [eeB_v T k r o a x y n (by omega), hc, show (0 : Int64) * k = 0 by simp, eR_0]; simp
    · rw [aeU_v _ _ _ _ _ _ (by omega), eeB_v T k r o a x y n (by omega)]; unfold eR; grind
theorem eeA_f (T : St) (k : Int64) (r : Int32) (o : Nat) : ∀ n, jf 2 T (eeA T k r o n)
  | 0 => jf.refl _ _
  | n + 1 => (eeA_f T k r o n).trans (eeB_f _ _ _ _ _ _)
theorem eeA_v (T : St) (k : Int64) (r : Int32) (o : Nat) (x y : Int64) : ∀ n, valP ((eeA T k r o n).2 2) x y = valP (T.2 2) x y + sm (fun a => sm (fun b => eR (shl4 (absL (T.2 1 (a * 5 + b))) a b * k) r x y o a b) (5 - a)) n
  | 0 => by simp [eeA, sm]
  | n + 1 => by
    rw [eeA, eeB_v _ _ _ _ _ _ _ _ (Nat.le_refl _), eeA_v T k r o x y n, (eeA_f T k r o n).2 1 (by decide), sm_s]; grind
theorem eeS_f (S : St) (k : Int64) (r : Int32) (o : Nat) : jf 2 S (eeS S k r o) := by unfold eeS; exact (clrS_f S 2 25).trans (eeA_f _ _ _ _ _)
theorem eeS_v (S : St) (k : Int64) (r : Int32) (o : Nat) (x y : Int64) : valP ((eeS S k r o).2 2) x y = sm (fun a => sm (fun b => eR (shl4 (absL (S.2 1 (a * 5 + b))) a b * k) r x y o a b) (5 - a)) 5 := by
  unfold eeS
  rw [eeA_v, (clrS_f S 2 25).2 1 (by decide), valP_z _ _ (clrS_z S 2 25)]; simp
