/-! the whole expansion is the plain sum -/
def sgN (u : Nat) : Int64 := if u % 2 = 0 then 1 else -1
theorem ch_B (X c : Int64) : ∀ a, a ≤ 4 → sm (fun u => sgN u * chL a u * (pw 1 X (a - u) * pw 1 c u)) (a + 1) = pw 1 (X - c) a
  | 0, _ => by simp [sm, sgN, pw, chL]
  | 1, _ => by
    have e0 : chL 1 0 = 1 := by decide +kernel
    have e1 : chL 1 1 = 1 := by decide +kernel
    simp only [sm, e0, e1, sgN, pw, Nat.reduceSub, Nat.reduceAdd, Nat.reduceMod, if_true, if_false]
    grind
  | 2, _ => by
    have e0 : chL 2 0 = 1 := by decide +kernel
    have e1 : chL 2 1 = 2 := by decide +kernel
    have e2 : chL 2 2 = 1 := by decide +kernel
    simp only [sm, e0, e1, e2, sgN, pw, Nat.reduceSub, Nat.reduceAdd, Nat.reduceMod, if_true, if_false]
    grind
  | 3, _ => by
    have e0 : chL 3 0 = 1 := by decide +kernel
    have e1 : chL 3 1 = 3 := by decide +kernel
    have e2 : chL 3 2 = 3 := by decide +kernel
    have e3 : chL 3 3 = 1 := by decide +kernel
    simp only [sm, e0, e1, e2, e3, sgN, pw, Nat.reduceSub, Nat.reduceAdd, Nat.reduceMod, if_true, if_false]
    grind
  | 4, _ => by
    have e0 : chL 4 0 = 1 := by decide +kernel
    have e1 : chL 4 1 = 4 := by decide +kernel
    have e2 : chL 4 2 = 6 := by decide +kernel
    have e3 : chL 4 3 = 4 := by decide +kernel
    have e4 : chL 4 4 = 1 := by decide +kernel
    simp only [sm, e0, e1, e2, e3, e4, sgN, pw, Nat.reduceSub, Nat.reduceAdd, Nat.reduceMod, if_true, if_false]
    grind
theorem sg_uv : ∀ u, u < 5 → ∀ v, v < 5 → ((nI u + nI v) &&& 1 = 0 ↔ sgN u * sgN v = 1) ∧ (¬ (nI u + nI v) &&& 1 = 0 ↔ sgN u * sgN v = -1) := by decide +kernel
/-- one part of the expansion, the moments put as a table -/
def tS (M : Nat → Nat → Int64) (c X Y : Int64) (a b : Nat) : Int64 := sm (fun u => sm (fun v => c * (sgN u * chL a u * pw 1 X (a - u)) * (sgN v * chL b v * pw 1 Y (b - v)) * M u v) (b + 1)) (a + 1)
theorem ring_a {g e : Int64} (h : g * e = 1) (w p q z x y : Int64) : w * (p * q) * z * (x * y) = w * (g * p * x) * (e * q * y) * z := by
  have r : w * (g * p * x) * (e * q * y) * z = (g * e) * (w * (p * q) * z * (x * y)) := by clear h; grind
  rw [r, h]; clear h r; grind
theorem ring_b {g e : Int64} (h : g * e = -1) (w p q z x y : Int64) : -(w * (p * q) * z) * (x * y) = w * (g * p * x) * (e * q * y) * z := by
  have r : w * (g * p * x) * (e * q * y) * z = (g * e) * (w * (p * q) * z * (x * y)) := by clear h; grind
  rw [r, h]; clear h r; grind
theorem tR_S (m k : Nat → Int64) (X Y : Int64) {a b : Nat} (h : a + b ≤ 4) : tR m k X Y 4 a b = tS (fun u v => m (u * 5 + v)) (k (a * 5 + b) * lN (2 ^ (4 - a - b))) X Y a b := by
  unfold tR tS
  refine sm_cong (fun u hu => ?_)
  rw [show min (b + 1) (4 + 1 - u) = b + 1 by omega]
  refine sm_cong (fun v hv => ?_)
  unfold tq
  dsimp only
  rw [shl4_s h, ways_s a (by omega) u (by omega) b (by omega) v (by omega) (by omega) (by omega)]
  have s := sg_uv u (by omega) v (by omega)
  by_cases c : (nI u + nI v) &&& 1 = 0
  · rw [if_pos c]; exact ring_a (s.1.mp c) _ _ _ _ _ _
  · rw [if_neg c]; exact ring_b (s.2.mp c) _ _ _ _ _ _
theorem tS_add (M N : Nat → Nat → Int64) (c X Y : Int64) (a b : Nat) : tS (fun u v => M u v + N u v) c X Y a b = tS M c X Y a b + tS N c X Y a b := by
  unfold tS
  rw [← sm_add]
  refine sm_cong (fun u _ => ?_)
  rw [← sm_add]
  refine sm_cong (fun v _ => ?_)
  grind
theorem tS_1 (w p q c X Y : Int64) {a b : Nat} (ha : a ≤ 4) (hb : b ≤ 4) : tS (fun u v => w * pw 1 p u * pw 1 q v) c X Y a b = c * w * (pw 1 (X - p) a * pw 1 (Y - q) b) := by
  have e : tS (fun u v => w * pw 1 p u * pw 1 q v) c X Y a b = sm (fun u => sgN u * chL a u * (pw 1 X (a - u) * pw 1 p u) * (c * w * pw 1 (Y - q) b)) (a + 1) := by
    unfold tS
    refine sm_cong (fun u _ => ?_)
    rw [← ch_B Y q b hb, ← sm_mul, ← sm_mul]
    refine sm_cong (fun v _ => ?_)
    grind
  rw [e, sm_mulr, ch_B X p a ha]; grind
/-- all parts -/
def tA (M : Nat → Nat → Int64) (k : Nat → Int64) (X Y : Int64) : Int64 := sm (fun a => sm (fun b => tS M (k (a * 5 + b) * lN (2 ^ (4 - a - b))) X Y a b) (5 - a)) 5
theorem tA_add (M N : Nat → Nat → Int64) (k : Nat → Int64) (X Y : Int64) : tA (fun u v => M u v + N u v) k X Y = tA M k X Y + tA N k X Y := by
  unfold tA
  rw [← sm_add]
  refine sm_cong (fun a _ => ?_)
  rw [← sm_add]
  exact sm_cong (fun b _ => tS_add M N _ X Y a b)
theorem tA_0 (k : Nat → Int64) (X Y : Int64) : tA (fun _ _ => 0) k X Y = 0 := sm_z (fun a _ => sm_z (fun b _ => sm_z (fun u _ => sm_z (fun v _ => by simp))))
theorem lN_16 {a b : Nat} (h : a + b ≤ 4) : lN (2 ^ (4 - a - b)) * (lN (2 ^ a) * lN (2 ^ b)) = 16 := by
  rw [lN_mul, lN_mul, ← Nat.pow_add, ← Nat.pow_add, show 4 - a - b + (a + b) = 4 by omega]; rfl
theorem tA_1 {k : Nat → Int64} {K : Nat → Int32} (hk : kOk k K) (w p q D E X Y : Int64) (hX : X - p = 2 * D) (hY : Y - q = 2 * E) : tA (fun u v => w * pw 1 p u * pw 1 q v) k X Y = 16 * w * puA K D E 5 := by
  rw [puA_v, ← sm_mul]
  unfold tA
  refine sm_cong (fun a ha => ?_)
  rw [← sm_mul]
  refine sm_cong (fun b hb => ?_)
  rw [tS_1 _ _ _ _ _ _ (by omega) (by omega), hX, hY, pw_2, pw_2, hk a b (by omega)]
  have e := lN_16 (show a + b ≤ 4 by omega)
  generalize (K (5 * a + b)).toInt64 = z at *
  generalize lN (2 ^ (4 - a - b)) = f at *
  generalize lN (2 ^ a) = g at *
  generalize lN (2 ^ b) = i at *
  generalize pw 1 D a = x at *
  generalize pw 1 E b = y at *
  rw [← e]; grind
theorem i64s {a b : Int32} (ha : -1000 ≤ a.toInt ∧ a.toInt ≤ 1000) (hb : -1000 ≤ b.toInt ∧ b.toInt ≤ 1000) : (a - b).toInt64 = a.toInt64 - b.toInt64 := by
  rw [← Int64.toInt_inj, Int32.toInt_toInt64, Int32.toInt_sub, Int64.toInt_sub, Int32.toInt_toInt64, Int32.toInt_toInt64, bm32 (by omega) (by omega), bm64 (by omega) (by omega)]
theorem i64f {a : Int32} (ha : -1000 ≤ a.toInt ∧ a.toInt ≤ 1000) : (2 * a - 63).toInt64 = 2 * a.toInt64 - 63 := by
  rw [← Int64.toInt_inj, Int32.toInt_toInt64, Int32.toInt_sub, Int32.toInt_mul, Int64.toInt_sub, Int64.toInt_mul, Int32.toInt_toInt64, show (2 : Int32).toInt = 2 from rfl, show (63 : Int32).toInt = 63 from rfl, show (2 : Int64).toInt = 2 from rfl, show (63 : Int64).toInt = 63 from rfl, bm32 (x := 2 * a.toInt) (by omega) (by omega), bm64 (x := 2 * a.toInt) (by omega) (by omega), bm32 (by omega) (by omega), bm64 (by omega) (by omega)]
theorem md_00 : mdI 0 0 = 63 := by decide +kernel
theorem frm_00 (x : Int32) : frmI x 0 0 = 2 * x - 63 := by
  show 2 * x - mdI 0 0 = _
  rw [md_00]
theorem ws_n {hr px py wt K : Nat → Int32} {k : Nat → Int64} (hp : pOk hr px py) (hk : kOk k K) {x y : Int32} (hx : -1000 ≤ x.toInt ∧ x.toInt ≤ 1000) (hy : -1000 ≤ y.toInt ∧ y.toInt ≤ 1000) : ∀ n, n ≤ 40 → tA (fun u v => mmV hr px py wt 0 0 0 u v n) k (frmI x 0 0).toInt64 (frmI y 0 0).toInt64 = saV hr K px py wt x y n
  | 0, _ => by
    rw [saV]; exact tA_0 _ _ _
  | n + 1, hn => by
    have ih := ws_n (wt := wt) hp hk hx hy n (by omega)
    have e := in_00 hp (show n < 40 by omega)
    rw [saV, ← ih]
    by_cases c : hr n = 0
    · rw [if_pos c]
      have f : (fun u v => mmV hr px py wt 0 0 0 u v (n + 1)) = (fun u v => mmV hr px py wt 0 0 0 u v n) := by
        funext u v; rw [mmV, if_pos (e.mpr c)]
      rw [f]; simp
    · rw [if_neg c]
      have f : (fun u v => mmV hr px py wt 0 0 0 u v (n + 1)) = (fun u v => mmV hr px py wt 0 0 0 u v n + (wt n).toInt64 * pw 1 (2 * px n - mdI 0 0).toInt64 u * pw 1 (2 * py n - mdI 0 0).toInt64 v) := by
        funext u v; rw [mmV, if_neg (fun z => c (e.mp z))]
      rw [f, tA_add]
      obtain ⟨a, ha, ea⟩ := vp_in_of (hp n (by omega) c).1 (by decide)
      obtain ⟨b, hb, eb⟩ := vp_in_of (hp n (by omega) c).2 (by decide)
      have ra : -1000 ≤ (px n).toInt ∧ (px n).toInt ≤ 1000 := by rw [ea, nI_toInt (by omega)]; omega
      have rb : -1000 ≤ (py n).toInt ∧ (py n).toInt ≤ 1000 := by rw [eb, nI_toInt (by omega)]; omega
      have hX : (frmI x 0 0).toInt64 - (2 * px n - mdI 0 0).toInt64 = 2 * (x - px n).toInt64 := by
        rw [frm_00, md_00, i64f hx, i64f ra, i64s hx ra]; clear ih f e; grind
      have hY : (frmI y 0 0).toInt64 - (2 * py n - mdI 0 0).toInt64 = 2 * (y - py n).toInt64 := by
        rw [frm_00, md_00, i64f hy, i64f rb, i64s hy rb]; clear ih f e; grind
      have t : tA (fun u v => (wt n).toInt64 * pw 1 (2 * px n - mdI 0 0).toInt64 u * pw 1 (2 * py n - mdI 0 0).toInt64 v) k (frmI x 0 0).toInt64 (frmI y 0 0).toInt64 = mpuL K px py wt n x y := by
        unfold mpuL; exact tA_1 hk _ _ _ _ _ _ _ hX hY
      rw [t]
theorem ws_all {S : St} {K : Nat → Int32} (hp : plOk S) (hk : kOk (S.2 1) K) {x y : Int32} (hx : -1000 ≤ x.toInt ∧ x.toInt ≤ 1000) (hy : -1000 ≤ y.toInt ∧ y.toInt ≤ 1000) : wsuL (etS (gatS S 0 0 0) 4) x y = saV (S.1 0) K (S.1 1) (S.1 2) (S.1 3) x y 40 := by
  unfold wsuL
  rw [etS_v, ← ws_n (wt := S.1 3) hp hk hx hy 40 (Nat.le_refl _)]
  unfold tA
  refine sm_cong (fun a ha => sm_cong (fun b hb => ?_))
  rw [tR_S _ _ _ _ (by omega), (gat_f S 0 0 0).2 1 (by decide)]
  unfold tS
  refine sm_cong (fun u hu => sm_cong (fun v hv => ?_))
  dsimp only
  rw [gat_m S 0 0 0 (by omega)]
