theorem wb_tb (n : Nat) : (lN n).toBitVec = BitVec.ofNat 64 n := rfl
theorem wb_inj {a b : Int64} (h : a.toBitVec = b.toBitVec) : a = b := Int64.toBitVec_inj.mp h
theorem wb_tn {n : Nat} (h : n < 2 ^ 64) : (lN n).toBitVec.toNat = n := by rw [wb_tb, BitVec.toNat_ofNat, Nat.mod_eq_of_lt h]
theorem wb_of (x : Int64) : ∃ n, n < 2 ^ 64 ∧ x = lN n := ⟨x.toBitVec.toNat, x.toBitVec.isLt, wb_inj (by rw [wb_tb]; simp)⟩
theorem wb_of32 (x : Int32) : ∃ n, n < 2 ^ 32 ∧ x = nI n := ⟨x.toBitVec.toNat, x.toBitVec.isLt, Int32.toBitVec_inj.mp (by show _ = BitVec.ofNat 32 _; simp)⟩
theorem wb_c : ∀ k, k < 64 → ((nI k).toInt64 &&& 63) = lN k := by decide +kernel
theorem wb_sm : ∀ k, k < 64 → (BitVec.ofNat 64 k).smod 64 = BitVec.ofNat 64 k := by decide +kernel
theorem wb_shl (n : Nat) {k : Nat} (hk : k < 64) : lN n <<< ((nI k).toInt64 &&& 63) = lN (n * 2 ^ k) := by
  rw [wb_c k hk]
  apply wb_inj
  rw [Int64.toBitVec_shiftLeft, wb_tb, wb_tb, wb_tb, wb_sm k hk]
  apply BitVec.eq_of_toNat_eq
  rw [BitVec.shiftLeft_eq', BitVec.toNat_shiftLeft, BitVec.toNat_ofNat, BitVec.toNat_ofNat, BitVec.toNat_ofNat, Nat.mod_eq_of_lt (show k < 2 ^ 64 by omega), Nat.shiftLeft_eq, Nat.mul_mod, Nat.mod_mod, ← Nat.mul_mod]
theorem shl4_s {a b : Nat} (h : a + b ≤ 4) (x : Int64) : shl4 x a b = x * lN (2 ^ (4 - a - b)) := by
  obtain ⟨n, hn, rfl⟩ := wb_of x
  unfold shl4
  rw [show (4 : Int32) = nI 4 from rfl, pk_sub (by omega), pk_sub (by omega), wb_shl n (by omega), lN_mul]
theorem s16_s : ∀ a, a < 5 → ∀ b, b < 5 → a + b ≤ 4 → s16 a b = lN (2 ^ (4 - a - b)) := by decide +kernel
theorem ways_F : ∀ a u b v : Fin 5, waysL a.val u.val b.val v.val = chL a.val u.val * chL b.val v.val := by decide +kernel
theorem ways_s (a : Nat) (ha : a < 5) (u : Nat) (hu : u < 5) (b : Nat) (hb : b < 5) (v : Nat) (hv : v < 5) (_ : u ≤ a) (_ : v ≤ b) : waysL a u b v = chL a u * chL b v := ways_F ⟨a, ha⟩ ⟨u, hu⟩ ⟨b, hb⟩ ⟨v, hv⟩
theorem sg2_s : ∀ u, u < 5 → ∀ v, v < 5 → ((nI u + nI v) &&& 1 = 0 ↔ sg2 u v = 0) := by decide +kernel
theorem abs_sz (v : Int64) : absL v = szL v := by
  unfold absL szL
  by_cases h : 0 < v
  · rw [if_pos h, if_pos (by rw [Int64.le_iff_toInt_le]; rw [Int64.lt_iff_toInt_lt] at h; omega)]
  · rw [if_neg h]
    by_cases h2 : 0 ≤ v
    · rw [if_pos h2]
      have : v = 0 := by
        rw [← Int64.toInt_inj]; rw [Int64.le_iff_toInt_le] at h2; rw [Int64.lt_iff_toInt_lt] at h
        omega
      subst this; rfl
    · rw [if_neg h2]
def te (K : Nat → Int32) (F G : Int64) (u v a b : Nat) : Int64 := (K (5 * a + b)).toInt64 * s16 a b * chL a u * chL b v * pw 1 F (a - u) * pw 1 G (b - v)
theorem teB_v (K : Nat → Int32) (F G : Int64) (u v a : Nat) (s : Int64) : ∀ n, teB K F G u v a s n = s + sm (fun k => te K F G u v a (v + k)) n
  | 0 => by simp [teB, sm]
  | n + 1 => by rw [teB, teB_v K F G u v a s n, sm_s]; unfold te; grind
theorem teA_v (K : Nat → Int32) (F G : Int64) (u v : Nat) : ∀ n, teA K F G u v n = sm (fun m => sm (fun k => te K F G u v (u + m) (v + k)) (5 - (u + m) - v)) n
  | 0 => by simp [teA, sm]
  | n + 1 => by rw [teA, teB_v, teA_v K F G u v n, sm_s]
def sgv (u v : Nat) (z : Int64) : Int64 := if sg2 u v = 0 then z else -z
theorem sgv_sm (u v : Nat) (c : Int64) (f : Nat → Int64) (n : Nat) : sgv u v (sm f n) * c = sm (fun i => sgv u v (f i) * c) n := by
  unfold sgv
  by_cases h : sg2 u v = 0
  · simp only [if_pos h]; rw [sm_mulr]
  · simp only [if_neg h]; rw [sm_mulr (f := fun i => -f i)]
    have := sm_mul (-1) f n
    rw [show (fun i => -f i) = fun i => -1 * f i from funext fun i => by grind, this]; grind
theorem teV_v (hr px py wt K : Nat → Int32) (q i j : Int32) (F G : Int64) (u : Nat) (s : Int64) : ∀ n, teV hr px py wt K q i j F G u s n = s + sm (fun v => sgv u v (teA K F G u v (5 - u)) * mmV hr px py wt q i j u v 40) n
  | 0 => by simp [teV, sm]
  | n + 1 => by rw [teV, teV_v hr px py wt K q i j F G u s n, sm_s]; unfold sgv; grind
theorem teU_v (hr px py wt K : Nat → Int32) (q i j : Int32) (F G : Int64) (o : Nat) : ∀ n, teU hr px py wt K q i j F G o n = sm (fun u => sm (fun v => sgv u v (teA K F G u v (5 - u)) * mmV hr px py wt q i j u v 40) (o + 1 - u)) n
  | 0 => by simp [teU, sm]
  | n + 1 => by rw [teU, teV_v, teU_v hr px py wt K q i j F G o n, sm_s]
theorem tri0 (t : Nat → Nat → Nat → Nat → Int64) : sm (fun a => sm (fun b => sm (fun u => sm (fun v => t a b u v) (min (b + 1) (0 + 1 - u))) (a + 1)) (5 - a)) 5 = sm (fun u => sm (fun v => sm (fun m => sm (fun k => t (u + m) (v + k) u v) (5 - (u + m) - v)) (5 - u)) (0 + 1 - u)) (0 + 1) := by
  simp [sm]
  try ac_rfl
theorem tri1 (t : Nat → Nat → Nat → Nat → Int64) : sm (fun a => sm (fun b => sm (fun u => sm (fun v => t a b u v) (min (b + 1) (1 + 1 - u))) (a + 1)) (5 - a)) 5 = sm (fun u => sm (fun v => sm (fun m => sm (fun k => t (u + m) (v + k) u v) (5 - (u + m) - v)) (5 - u)) (1 + 1 - u)) (1 + 1) := by
  simp [sm]
  ac_rfl
theorem tri2 (t : Nat → Nat → Nat → Nat → Int64) : sm (fun a => sm (fun b => sm (fun u => sm (fun v => t a b u v) (min (b + 1) (2 + 1 - u))) (a + 1)) (5 - a)) 5 = sm (fun u => sm (fun v => sm (fun m => sm (fun k => t (u + m) (v + k) u v) (5 - (u + m) - v)) (5 - u)) (2 + 1 - u)) (2 + 1) := by
  simp [sm]
  ac_rfl
theorem tri3 (t : Nat → Nat → Nat → Nat → Int64) : sm (fun a => sm (fun b => sm (fun u => sm (fun v => t a b u v) (min (b + 1) (3 + 1 - u))) (a + 1)) (5 - a)) 5 = sm (fun u => sm (fun v => sm (fun m => sm (fun k => t (u + m) (v + k) u v) (5 - (u + m) - v)) (5 - u)) (3 + 1 - u)) (3 + 1) := by
  simp [sm]
  ac_rfl
theorem tri4 (t : Nat → Nat → Nat → Nat → Int64) : sm (fun a => sm (fun b => sm (fun u => sm (fun v => t a b u v) (min (b + 1) (4 + 1 - u))) (a + 1)) (5 - a)) 5 = sm (fun u => sm (fun v => sm (fun m => sm (fun k => t (u + m) (v + k) u v) (5 - (u + m) - v)) (5 - u)) (4 + 1 - u)) (4 + 1) := by
  simp [sm]
  ac_rfl
theorem tri (t : Nat → Nat → Nat → Nat → Int64) {o : Nat} (ho : o ≤ 4) : sm (fun a => sm (fun b => sm (fun u => sm (fun v => t a b u v) (min (b + 1) (o + 1 - u))) (a + 1)) (5 - a)) 5 = sm (fun u => sm (fun v => sm (fun m => sm (fun k => t (u + m) (v + k) u v) (5 - (u + m) - v)) (5 - u)) (o + 1 - u)) (o + 1) := by
  have : o = 0 ∨ o = 1 ∨ o = 2 ∨ o = 3 ∨ o = 4 := by omega
  rcases this with rfl | rfl | rfl | rfl | rfl
  · exact tri0 t
  · exact tri1 t
  · exact tri2 t
  · exact tri3 t
  · exact tri4 t
def kOk (k : Nat → Int64) (K : Nat → Int32) : Prop := ∀ a b, a + b ≤ 4 → k (a * 5 + b) = (K (5 * a + b)).toInt64
theorem tq_te {m k : Nat → Int64} {K : Nat → Int32} (hk : kOk k K) (x y : Int64) {a b u v : Nat} (h : a + b ≤ 4) (hu : u ≤ a) (hv : v ≤ b) : tq m (shl4 (k (a * 5 + b)) a b) a b u v * (pw 1 x (a - u) * pw 1 y (b - v)) = sgv u v (te K x y u v a b) * m (u * 5 + v) := by
  unfold tq sgv te
  rw [shl4_s h, hk a b h, s16_s a (by omega) b (by omega) h, ways_s a (by omega) u (by omega) b (by omega) v (by omega) hu hv]
  by_cases e : sg2 u v = 0
  · rw [if_pos e, if_pos ((sg2_s u (by omega) v (by omega)).mpr e)]; grind
  · rw [if_neg e, if_neg (fun g => e ((sg2_s u (by omega) v (by omega)).mp g))]; grind
/-- the whole term, F's way and the reference's way -/
theorem term_eq {m k : Nat → Int64} {hr px py wt K : Nat → Int32} (hk : kOk k K) {q i j : Int32} (hm : ∀ u v, u + v ≤ 4 → m (u * 5 + v) = mmV hr px py wt q i j u v 40) {x y : Int64} {o : Nat} (ho : o ≤ 4) : sm (fun a => sm (tR m k x y o a) (5 - a)) 5 = teU hr px py wt K q i j x y o (o + 1) := by
  rw [teU_v]
  have e1 : sm (fun a => sm (tR m k x y o a) (5 - a)) 5 = sm (fun a => sm (fun b => sm (fun u => sm (fun v => sgv u v (te K x y u v a b) * m (u * 5 + v)) (min (b + 1) (o + 1 - u))) (a + 1)) (5 - a)) 5 := by
    refine sm_cong (fun a ha => sm_cong (fun b hb => ?_))
    unfold tR
    exact sm_cong (fun u hu => sm_cong (fun v hv => tq_te hk x y (by omega) (by omega) (by omega)))
  rw [e1, tri (fun a b u v => sgv u v (te K x y u v a b) * m (u * 5 + v)) ho]
  refine sm_cong (fun u hu => sm_cong (fun v hv => ?_))
  rw [teA_v, sgv_sm]
  refine sm_cong (fun n hn => ?_)
  rw [sgv_sm]
  exact sm_cong (fun k hk2 => by rw [hm u v (by omega)])
def me4 (K : Nat → Int32) (F G s : Int64) (a b u v : Nat) : Int64 := szL (K (5 * a + b)).toInt64 * s16 a b * chL a u * chL b v * pw 1 F (a - u) * pw 1 G (b - v) * pw 1 s (u + v)
theorem meV_v (K : Nat → Int32) (F G s : Int64) {o : Nat} (ho : o ≤ 4) (a b : Nat) {u : Nat} (hu : u ≤ 4) (z : Int64) : ∀ n, n ≤ 5 → meV K F G s o a b u z n = z + sm (fun v => if u + v ≤ o then 0 else me4 K F G s a b u v) n
  | 0, _ => by simp [meV, sm]
  | n + 1, hn => by
    rw [meV, meV_v K F G s ho a b hu z n (by omega), sm_s, nI_add]
    by_cases h : u + n ≤ o
    · rw [if_pos (nI_le h (by omega)), if_pos h]; simp
    · rw [if_neg (nI_ge (by omega) (by omega)), if_neg h]; unfold me4; grind
theorem meU_v (K : Nat → Int32) (F G s : Int64) {o : Nat} (ho : o ≤ 4) (a : Nat) {b : Nat} (hb : b ≤ 4) (z : Int64) : ∀ n, n ≤ 5 → meU K F G s o a b z n = z + sm (fun u => sm (fun v => if u + v ≤ o then 0 else me4 K F G s a b u v) (b + 1)) n
  | 0, _ => by simp [meU, sm]
  | n + 1, hn => by rw [meU, meV_v K F G s ho a b (by omega) _ _ (by omega), meU_v K F G s ho a hb z n (by omega), sm_s]; exact Int64.add_assoc _ _ _
theorem meB_v (K : Nat → Int32) (F G s : Int64) {o : Nat} (ho : o ≤ 4) {a : Nat} (ha : a ≤ 4) (z : Int64) : ∀ n, n ≤ 5 → meB K F G s o a z n = z + sm (fun b => sm (fun u => sm (fun v => if u + v ≤ o then 0 else me4 K F G s a b u v) (b + 1)) (a + 1)) n
  | 0, _ => by simp [meB, sm]
  | n + 1, hn => by rw [meB, meU_v K F G s ho a (by omega) _ _ (by omega), meB_v K F G s ho ha z n (by omega), sm_s]; exact Int64.add_assoc _ _ _
theorem meA_v (K : Nat → Int32) (F G s : Int64) {o : Nat} (ho : o ≤ 4) : ∀ n, n ≤ 5 → meA K F G s o n = sm (fun a => sm (fun b => sm (fun u => sm (fun v => if u + v ≤ o then 0 else me4 K F G s a b u v) (b + 1)) (a + 1)) (5 - a)) n
  | 0, _ => by simp [meA, sm]
  | n + 1, hn => by rw [meA, meB_v K F G s ho (by omega) _ _ (by omega), meA_v K F G s ho n (by omega), sm_s]
/-- the whole end, F's way and the reference's way -/
theorem end_eq {k : Nat → Int64} {K : Nat → Int32} (hk : kOk k K) (w : Int64) (r : Int32) (x y : Int64) {o : Nat} (ho : o ≤ 4) : sm (fun a => sm (fun b => eR (shl4 (absL (k (a * 5 + b))) a b * w) r x y o a b) (5 - a)) 5 = meA K x y r.toInt64 o 5 * w := by
  rw [meA_v K x y r.toInt64 ho 5 (Nat.le_refl _), ← sm_mulr]
  refine sm_cong (fun a ha => ?_)
  rw [← sm_mulr]
  refine sm_cong (fun b hb => ?_)
  unfold eR
  rw [← sm_mulr]
  refine sm_cong (fun u hu => ?_)
  rw [← sm_mulr]
  refine sm_cong (fun v hv => ?_)
  by_cases h : u + v ≤ o
  · rw [if_pos h, if_pos h]; simp
  · rw [if_neg h, if_neg h]
    unfold eq4 me4
    rw [shl4_s (by omega), hk a b (by omega), s16_s a (by omega) b (by omega) (by omega), ways_s a (by omega) u (by omega) b (by omega) v (by omega) (by omega) (by omega), abs_sz]; grind
theorem end_4 (K : Nat → Int32) (x y r : Int64) : meA K x y r 4 5 = 0 := by
  rw [meA_v K x y r (Nat.le_refl _) 5 (Nat.le_refl _)]
  exact sm_z (fun a ha => sm_z (fun b hb => sm_z (fun u hu => sm_z (fun v hv => if_pos (by omega)))))
/-- the plain sum of a point -/
theorem puB_v (K : Nat → Int32) (F G : Int64) (a : Nat) (s : Int64) : ∀ n, puB K F G a s n = s + sm (fun b => (K (5 * a + b)).toInt64 * (pw 1 F a * pw 1 G b)) n
  | 0 => by simp [puB, sm]
  | n + 1 => by rw [puB, puB_v K F G a s n, sm_s]; grind
theorem puA_v (K : Nat → Int32) (F G : Int64) : ∀ n, puA K F G n = sm (fun a => sm (fun b => (K (5 * a + b)).toInt64 * (pw 1 F a * pw 1 G b)) (5 - a)) n
  | 0 => by simp [puA, sm]
  | n + 1 => by rw [puA, puB_v, puA_v K F G n, sm_s]
theorem valP_pu {k : Nat → Int64} {K : Nat → Int32} (hk : kOk k K) (x y : Int64) : valP k x y = puA K x y 5 := by
  rw [valP_sm, puA_v]
  exact sm_cong (fun a ha => sm_cong (fun b hb => by rw [hk a b (by omega)]))
/-- the whole expansion at order 4 of one point is the plain sum (x = 2 D, taken apart) -/
theorem pw_2 (d : Int64) : ∀ n, pw 1 (2 * d) n = lN (2 ^ n) * pw 1 d n
  | 0 => by simp [pw]; rfl
  | n + 1 => by rw [pw, pw, pw_2 d n, Nat.pow_succ, ← lN_mul]; show _ = _ * (2 : Int64) * _; grind
