/-! points within boxes, counted -/
theorem bm32 {x : Int} (h : -2147483648 ≤ x) (h2 : x < 2147483648) : x.bmod (2 ^ 32) = x := by
  unfold Int.bmod; dsimp only; split <;> omega
theorem bm64 {x : Int} (h : -9223372036854775808 ≤ x) (h2 : x < 9223372036854775808) : x.bmod (2 ^ 64) = x := by
  unfold Int.bmod; dsimp only; split <;> omega
def pOk (hr px py : Nat → Int32) : Prop := ∀ p : Nat, p < 40 → ¬ hr p = 0 → vp_in (px p) 64 ∧ vp_in (py p) 64
def wOk (hr wt : Nat → Int32) : Prop := ∀ p : Nat, p < 40 → ¬ hr p = 0 → -1000 ≤ (wt p).toInt ∧ (wt p).toInt ≤ 1000
def dB (hr px py : Nat → Int32) (l i j p : Nat) : Bool := !(decide (hr p = 0)) && decide (numN l (px p).toNatClampNeg = i) && decide (numN l (py p).toNatClampNeg = j)
def cN (hr px py : Nat → Int32) (l i j : Nat) : Nat → Nat
  | 0 => 0
  | p + 1 => cN hr px py l i j p + (if dB hr px py l i j p = true then 1 else 0)
theorem cN_s (hr px py : Nat → Int32) (l i j p : Nat) : cN hr px py l i j (p + 1) = cN hr px py l i j p + (if dB hr px py l i j p = true then 1 else 0) := rfl
theorem inI_d {hr px py : Nat → Int32} (h : pOk hr px py) {l i j p : Nat} (hl : l ≤ 6) (hi : i < 64) (hj : j < 64) (hp : p < 40) : inI hr px py (nI l) (nI i) (nI j) p = if dB hr px py l i j p = true then 1 else 0 := by
  unfold inI dB
  by_cases h0 : hr p = 0
  · simp [h0]
  · obtain ⟨a, ha, ea⟩ := vp_in_of (h p hp h0).1 (by decide)
    obtain ⟨b, hb, eb⟩ := vp_in_of (h p hp h0).2 (by decide)
    rw [if_neg h0, ea, eb, num_N (by omega) (by omega), num_N (by omega) (by omega), ncl (by omega), ncl (by omega)]
    have h1 : numN l a < 64 := Nat.lt_of_le_of_lt (Nat.div_le_self _ _) ha
    have h2 : numN l b < 64 := Nat.lt_of_le_of_lt (Nat.div_le_self _ _) hb
    simp only [nI_eq (show numN l a < 2 ^ 31 by omega) (show i < 2 ^ 31 by omega), nI_eq (show numN l b < 2 ^ 31 by omega) (show j < 2 ^ 31 by omega)]
    by_cases c1 : numN l a = i
    · by_cases c2 : numN l b = j
      · simp [h0, c1, c2]
      · simp [c1, c2]
    · simp [c1]
theorem pnI_c {hr px py : Nat → Int32} (h : pOk hr px py) {l i j : Nat} (hl : l ≤ 6) (hi : i < 64) (hj : j < 64) : ∀ n, n ≤ 40 → pnI hr px py (nI l) (nI i) (nI j) n = nI (cN hr px py l i j n)
  | 0, _ => rfl
  | n + 1, hn => by
    rw [pnI, cN_s, pnI_c h hl hi hj n (by omega), inI_d h hl hi hj (by omega)]
    by_cases c : dB hr px py l i j n = true
    · simp only [if_pos c]; exact nI_1 _
    · simp only [if_neg c]; simp
theorem npN_c {hr px py : Nat → Int32} (h : pOk hr px py) {l i j : Nat} (hl : l ≤ 6) (hi : i < 64) (hj : j < 64) : ∀ n, n ≤ 40 → npN hr px py (nI l) (nI i) (nI j) n = cN hr px py l i j n
  | 0, _ => rfl
  | n + 1, hn => by
    rw [npN, cN_s, npN_c h hl hi hj n (by omega), inI_d h hl hi hj (by omega)]
    by_cases c : dB hr px py l i j n = true
    · simp only [if_pos c]; simp
    · simp only [if_neg c]; simp
theorem cN_le (hr px py : Nat → Int32) (l i j : Nat) : ∀ n, cN hr px py l i j n ≤ n
  | 0 => Nat.le_refl _
  | n + 1 => by rw [cN_s]; have := cN_le hr px py l i j n; split <;> omega
theorem num_half {l a : Nat} (hl : l ≤ 5) : numN l a = numN (l + 1) a / 2 := by
  unfold numN
  rw [Nat.div_div_eq_div_mul, ← Nat.pow_succ, show (6 - (l + 1)).succ = 6 - l by omega]
theorem cN_split (hr px py : Nat → Int32) {l : Nat} (i j : Nat) (hl : l ≤ 5) : ∀ n, cN hr px py l i j n = cN hr px py (l + 1) (2 * i) (2 * j) n + cN hr px py (l + 1) (2 * i + 1) (2 * j) n + cN hr px py (l + 1) (2 * i) (2 * j + 1) n + cN hr px py (l + 1) (2 * i + 1) (2 * j + 1) n
  | 0 => rfl
  | n + 1 => by
    rw [cN_s, cN_s, cN_s, cN_s, cN_s, cN_split hr px py i j hl n]
    unfold dB
    rw [num_half hl (a := (px n).toNatClampNeg), num_half hl (a := (py n).toNatClampNeg)]
    generalize numN (l + 1) (px n).toNatClampNeg = a
    generalize numN (l + 1) (py n).toNatClampNeg = b
    by_cases h0 : hr n = 0
    · simp [h0]
    · simp only [h0, decide_false, Bool.not_false, Bool.true_and, Bool.and_eq_true, decide_eq_true_eq]
      have ea : a / 2 = i ↔ (a = 2 * i ∨ a = 2 * i + 1) := by omega
      have eb : b / 2 = j ↔ (b = 2 * j ∨ b = 2 * j + 1) := by omega
      by_cases c1 : a = 2 * i
      · by_cases c2 : b = 2 * j
        · rw [if_pos (by omega), if_pos (by omega), if_neg (by omega), if_neg (by omega), if_neg (by omega)]; omega
        · by_cases c3 : b = 2 * j + 1
          · rw [if_pos (by omega), if_neg (by omega), if_neg (by omega), if_pos (by omega), if_neg (by omega)]; omega
          · rw [if_neg (by omega), if_neg (by omega), if_neg (by omega), if_neg (by omega), if_neg (by omega)]; omega
      · by_cases c4 : a = 2 * i + 1
        · by_cases c2 : b = 2 * j
          · rw [if_pos (by omega), if_neg (by omega), if_pos (by omega), if_neg (by omega), if_neg (by omega)]; omega
          · by_cases c3 : b = 2 * j + 1
            · rw [if_pos (by omega), if_neg (by omega), if_neg (by omega), if_neg (by omega), if_pos (by omega)]; omega
            · rw [if_neg (by omega), if_neg (by omega), if_neg (by omega), if_neg (by omega), if_neg (by omega)]; omega
        · rw [if_neg (by omega), if_neg (by omega), if_neg (by omega), if_neg (by omega), if_neg (by omega)]; omega
theorem cN_par (hr px py : Nat → Int32) {l : Nat} (a b : Nat) (hl : l ≤ 5) (n : Nat) : cN hr px py (l + 1) a b n ≤ cN hr px py l (a / 2) (b / 2) n := by
  rw [cN_split hr px py (a / 2) (b / 2) hl n]
  rcases Nat.mod_two_eq_zero_or_one a with ea | ea <;> rcases Nat.mod_two_eq_zero_or_one b with eb | eb
  · rw [show 2 * (a / 2) = a by omega, show 2 * (b / 2) = b by omega]; omega
  · rw [show 2 * (a / 2) = a by omega, show 2 * (b / 2) + 1 = b by omega]; omega
  · rw [show 2 * (a / 2) + 1 = a by omega, show 2 * (b / 2) = b by omega]; omega
  · rw [show 2 * (a / 2) + 1 = a by omega, show 2 * (b / 2) + 1 = b by omega]; omega
/-! the weights' bulk, and the moments, as F gathers them -/
theorem absN {w : Int32} (h1 : -1000 ≤ w.toInt) (h2 : w.toInt ≤ 1000) : absI w = nI w.toInt.natAbs ∧ (if 0 ≤ w then w.toInt64 else (-w).toInt64) = lN w.toInt.natAbs := by
  by_cases h : (0 : Int32) ≤ w
  · obtain ⟨j, hj, rfl⟩ := nI_of (x := w) (fun g => by rw [Int32.lt_iff_toInt_lt] at g; rw [Int32.le_iff_toInt_le] at h; omega)
    rw [nI_toInt hj] at *
    unfold absI
    rw [if_pos h, if_pos h, Int.natAbs_natCast, nI_l hj]; exact ⟨rfl, rfl⟩
  · have h3 : w.toInt < 0 := by rw [Int32.le_iff_toInt_le] at h; have : (0 : Int32).toInt = 0 := rfl; omega
    have e : -w = nI w.toInt.natAbs := by
      rw [← Int32.toInt_inj, nI_toInt (by omega), Int32.toInt_neg, bm32 (by omega) (by omega)]
      omega
    unfold absI
    rw [if_neg h, if_neg h, e, nI_l (by omega), show (0 : Int32) - w = -w by grind, e]; exact ⟨rfl, rfl⟩
def bN (hr px py wt : Nat → Int32) (l i j : Int32) : Nat → Nat
  | 0 => 0
  | p + 1 => bN hr px py wt l i j p + (if inI hr px py l i j p = 0 then 0 else (wt p).toInt.natAbs)
theorem inI_hr {hr px py : Nat → Int32} {l i j : Int32} {p : Nat} (h : ¬ inI hr px py l i j p = 0) : ¬ hr p = 0 := fun g => h (by unfold inI; rw [if_pos g])
theorem bkL_b {hr px py wt : Nat → Int32} (h : wOk hr wt) (l i j : Int32) : ∀ n, n ≤ 40 → bkL hr px py wt l i j n = lN (bN hr px py wt l i j n) ∧ bN hr px py wt l i j n ≤ 1000 * n
  | 0, _ => ⟨rfl, Nat.le_refl _⟩
  | n + 1, hn => by
    have ih := bkL_b (px := px) (py := py) h l i j n (by omega)
    rw [bkL, bN]
    by_cases c : inI hr px py l i j n = 0
    · rw [if_pos c, if_pos c]; exact ⟨ih.1, by have := ih.2; omega⟩
    · have w1 := h n (by omega) (inI_hr c)
      rw [if_neg c, if_neg c, ih.1, (absN w1.1 w1.2).2, lN_add]; exact ⟨rfl, by have := ih.2; omega⟩
theorem amB_f (T : St) (a : Nat) (v dy : Int64) : ∀ n, jf 0 T (amB T a v dy n)
  | 0 => jf.refl _ _
  | n + 1 => (amB_f T a v dy n).trans (jf_sJ _ _ _ _)
theorem amA_f (T : St) (v dx dy : Int64) : ∀ n, jf 0 T (amA T v dx dy n)
  | 0 => jf.refl _ _
  | n + 1 => (amA_f T v dx dy n).trans (amB_f _ _ _ _ _)
theorem amB_m (T : St) {a : Nat} (v dy : Int64) {u w : Nat} (h : u + w ≤ 4) : ∀ n, n ≤ 5 - a → (amB T a v dy n).2 0 (u * 5 + w) = T.2 0 (u * 5 + w) + (if u = a ∧ w < n then pw v dy w else 0)
  | 0, _ => by rw [if_neg (by omega)]; simp [amB]
  | n + 1, hn => by
    rw [amB, sJ_at, updL_add, amB_m T v dy h n (by omega)]
    by_cases e : u = a ∧ w = n
    · obtain ⟨rfl, rfl⟩ := e
      rw [if_neg (by omega), if_pos rfl, if_pos (by omega)]; simp
    · rw [if_neg (show ¬ u * 5 + w = a * 5 + n by omega)]
      by_cases e2 : u = a ∧ w < n
      · rw [if_pos e2, if_pos (by omega)]; simp
      · rw [if_neg e2, if_neg (by omega)]; simp
theorem amA_m (T : St) (v dx dy : Int64) {u w : Nat} (h : u + w ≤ 4) : ∀ n, n ≤ 5 → (amA T v dx dy n).2 0 (u * 5 + w) = T.2 0 (u * 5 + w) + (if u < n then pw (pw v dx u) dy w else 0)
  | 0, _ => by rw [if_neg (by omega)]; simp [amA]
  | n + 1, hn => by
    rw [amA, amB_m _ _ _ h _ (Nat.le_refl _), amA_m T v dx dy h n (by omega)]
    by_cases e : u = n
    · subst e
      rw [if_neg (by omega), if_pos (by omega), if_pos (by omega)]; simp
    · rw [if_neg (show ¬ (u = n ∧ w < 5 - n) by omega)]
      by_cases e2 : u < n
      · rw [if_pos e2, if_pos (by omega)]; simp
      · rw [if_neg e2, if_neg (by omega)]; simp
def gf (S T : St) : Prop := (∀ a, a ≠ 9 → T.1 a = S.1 a) ∧ ∀ j, j ≠ 0 → T.2 j = S.2 j
theorem gf.refl (S : St) : gf S S := ⟨fun _ _ => rfl, fun _ _ => rfl⟩
theorem gf.trans {S T U : St} (h : gf S T) (g : gf T U) : gf S U := ⟨fun a ha => (g.1 a ha).trans (h.1 a ha), fun a ha => (g.2 a ha).trans (h.2 a ha)⟩
theorem jf.gf {S T : St} (h : jf 0 S T) : gf S T := ⟨fun a _ => by rw [h.1], h.2⟩
theorem gf_9 (S : St) (v : Int32) : gf S (sI S 9 0 v) := ⟨fun _ ha => sI_ne ha, fun _ _ => rfl⟩
theorem gaT_f (S : St) (l i j : Int32) : ∀ n, gf S (gaT S l i j n)
  | 0 => (clrS_f S 0 25).gf.trans (gf_9 _ _)
  | n + 1 => by
    rw [gaT_s]; split
    · exact gaT_f S l i j n
    · refine ((gaT_f S l i j n).trans ?_).trans (gf_9 _ _)
      unfold gaP; exact (amA_f _ _ _ _ _).gf
theorem gat_f (S : St) (l i j : Int32) : gf S (gatS S l i j) := by unfold gatS; exact gaT_f S l i j 40
theorem hol_in {S T : St} (h : gf S T) (l i j : Int32) (p : Nat) : holI T l i j p = inI (S.1 0) (S.1 1) (S.1 2) l i j p := by
  unfold holI inI; rw [h.1 0 (by decide), h.1 1 (by decide), h.1 2 (by decide)]
theorem gaT_m (S : St) (l i j : Int32) {u w : Nat} (h : u + w ≤ 4) : ∀ n, (gaT S l i j n).2 0 (u * 5 + w) = mmV (S.1 0) (S.1 1) (S.1 2) (S.1 3) l i j u w n
  | 0 => by rw [gaT, mmV]; exact clrS_z S 0 25 _ (by omega)
  | n + 1 => by
    have ih := gaT_m S l i j h n
    have f := gaT_f S l i j n
    rw [gaT_s, mmV, hol_in f]
    split
    · exact ih
    · show (gaP (gaT S l i j n) l i j n).2 0 (u * 5 + w) = _
      unfold gaP
      rw [amA_m _ _ _ _ h _ (Nat.le_refl _), ih, if_pos (by omega), f.1 1 (by decide), f.1 2 (by decide), f.1 3 (by decide), pw_mul, pw_mul]
      rfl
theorem gat_m (S : St) (l i j : Int32) {u w : Nat} (h : u + w ≤ 4) : (gatS S l i j).2 0 (u * 5 + w) = mmV (S.1 0) (S.1 1) (S.1 2) (S.1 3) l i j u w 40 := by unfold gatS; exact gaT_m S l i j h 40
theorem gaT_b {S : St} (hw : wOk (S.1 0) (S.1 3)) (l i j : Int32) : ∀ n, n ≤ 40 → (gaT S l i j n).1 9 0 = nI (bN (S.1 0) (S.1 1) (S.1 2) (S.1 3) l i j n)
  | 0, _ => by rw [gaT, sI_eq, upd_eq]; rfl
  | n + 1, hn => by
    have ih := gaT_b hw l i j n (by omega)
    have f := gaT_f S l i j n
    rw [gaT_s, bN, hol_in f]
    split
    · exact ih
    · rename_i c
      have w1 := hw n (by omega) (inI_hr c)
      have g := amA_f (gaT S l i j n) ((gaT S l i j n).1 3 n).toInt64 (frmI ((gaT S l i j n).1 1 n) l i).toInt64 (frmI ((gaT S l i j n).1 2 n) l j).toInt64 5
      rw [sI_eq, upd_eq]
      unfold gaP
      rw [g.1, ih, f.1 3 (by decide), (absN w1.1 w1.2).1, nI_add]
theorem gat_b {S : St} (hw : wOk (S.1 0) (S.1 3)) (l i j : Int32) : (gatS S l i j).1 9 0 = nI (bN (S.1 0) (S.1 1) (S.1 2) (S.1 3) l i j 40) := by unfold gatS; exact gaT_b hw l i j 40 (Nat.le_refl _)
theorem gat_bL {S : St} (hw : wOk (S.1 0) (S.1 3)) (l i j : Int32) : ((gatS S l i j).1 9 0).toInt64 = bkL (S.1 0) (S.1 1) (S.1 2) (S.1 3) l i j 40 := by
  have b := bkL_b (px := S.1 1) (py := S.1 2) hw l i j 40 (Nat.le_refl _)
  rw [gat_b hw, b.1, nI_l (by omega)]
theorem gat_bI {S : St} (hw : wOk (S.1 0) (S.1 3)) (l i j : Int32) : (gatS S l i j).1 9 0 = (bkL (S.1 0) (S.1 1) (S.1 2) (S.1 3) l i j 40).toInt32 := by
  have b := bkL_b (px := S.1 1) (py := S.1 2) hw l i j 40 (Nat.le_refl _)
  rw [gat_b hw, b.1, lN_i]
/-! F's distances and the reference's -/
theorem side_N : ∀ l, l < 6 → sideI (nI l) = nI (64 / 2 ^ l) := by decide +kernel
theorem md_N {l i : Nat} (hl : l ≤ 5) (hi : i < 2 ^ l) : mdI (nI l) (nI i) = nI (2 * i * (64 / 2 ^ l) + 64 / 2 ^ l - 1) ∧ 2 * i * (64 / 2 ^ l) + 64 / 2 ^ l - 1 < 128 := by
  unfold mdI
  rw [side_N l (by omega), nI_2, pk_mul, nI_add, show (1 : Int32) = nI 1 from rfl, pk_sub (by
    have : l = 0 ∨ l = 1 ∨ l = 2 ∨ l = 3 ∨ l = 4 ∨ l = 5 := by omega
    rcases this with rfl | rfl | rfl | rfl | rfl | rfl <;> simp <;> omega)]
  refine ⟨rfl, ?_⟩
  have : l = 0 ∨ l = 1 ∨ l = 2 ∨ l = 3 ∨ l = 4 ∨ l = 5 := by omega
  rcases this with rfl | rfl | rfl | rfl | rfl | rfl <;> simp at * <;> omega
theorem sub_L {a b : Nat} (ha : a < 2 ^ 30) (hb : b < 2 ^ 30) : (nI a - nI b).toInt64 = lN a - lN b := by
  rw [← Int64.toInt_inj, Int32.toInt_toInt64, pk_sub_toInt ha hb, Int64.toInt_sub, lN_toInt (by omega), lN_toInt (by omega), bm64 (by omega) (by omega)]
theorem frm_L {a l i : Nat} (ha : a < 64) (hl : l ≤ 5) (hi : i < 2 ^ l) : (frmI (nI a) (nI l) (nI i)).toInt64 = farL (nI a) (nI l) (nI i) ∧ (frmI (nI a) (nI l) (nI i)).toInt = 2 * (a : Int) - (2 * i * (64 / 2 ^ l) + 64 / 2 ^ l - 1 : Nat) ∧ 2 * i * (64 / 2 ^ l) + 64 / 2 ^ l - 1 < 128 := by
  have m := md_N hl hi
  show (2 * nI a - mdI (nI l) (nI i)).toInt64 = _ ∧ (2 * nI a - mdI (nI l) (nI i)).toInt = _ ∧ _
  unfold farL
  rw [m.1, nI_2, sub_L (by omega) (by omega), pk_sub_toInt (by omega) (by omega), nI_l (by omega), nI_l (by omega), show (2 : Int64) = lN 2 from rfl, lN_mul]
  exact ⟨rfl, by omega, m.2⟩
theorem abs_L {x : Int32} (h : -1000000 ≤ x.toInt) : (absI x).toInt64 = szL x.toInt64 := by
  unfold absI szL
  have z : (0 : Int64) ≤ x.toInt64 ↔ (0 : Int32) ≤ x := by rw [Int64.le_iff_toInt_le, Int32.le_iff_toInt_le, Int32.toInt_toInt64]; rfl
  by_cases c : (0 : Int32) ≤ x
  · rw [if_pos c, if_pos (z.mpr c)]
  · rw [if_neg c, if_neg (fun g => c (z.mp g))]
    have c2 : x.toInt < 0 := by rw [Int32.le_iff_toInt_le] at c; have : (0 : Int32).toInt = 0 := rfl; omega
    rw [← Int64.toInt_inj, Int32.toInt_toInt64, Int64.toInt_neg, Int32.toInt_toInt64, show (0 : Int32) - x = -x by grind, Int32.toInt_neg, bm32 (by omega) (by omega), bm64 (by omega) (by omega)]
