/-! counting -/
def cb (f : Nat → Bool) : Nat → Nat
  | 0 => 0
  | n + 1 => cb f n + (if f n = true then 1 else 0)
theorem cb_s (f : Nat → Bool) (n : Nat) : cb f (n + 1) = cb f n + (if f n = true then 1 else 0) := rfl
theorem cb_cong {f g : Nat → Bool} : ∀ {n : Nat}, (∀ k, k < n → f k = g k) → cb f n = cb g n
  | 0, _ => rfl
  | n + 1, h => by rw [cb_s, cb_s, cb_cong (fun k hk => h k (Nat.lt_succ_of_lt hk)), h n (Nat.lt_succ_self n)]
theorem cb_add (f : Nat → Bool) (a : Nat) : ∀ n, cb f (a + n) = cb f a + cb (fun k => f (a + k)) n
  | 0 => rfl
  | n + 1 => by rw [← Nat.add_assoc, cb_s, cb_s, cb_add f a n]; omega
theorem cb_z (n : Nat) : cb (fun _ => false) n = 0 := by
  induction n with
  | zero => rfl
  | succ n ih => rw [cb_s, ih]; rfl
def sn (f : Nat → Nat) : Nat → Nat
  | 0 => 0
  | n + 1 => sn f n + f n
theorem sn_s (f : Nat → Nat) (n : Nat) : sn f (n + 1) = sn f n + f n := rfl
theorem cb_2 (h : Nat → Bool) : ∀ n, cb (fun i => h (i / 2)) (2 * n) = 2 * cb h n
  | 0 => rfl
  | n + 1 => by
    rw [show 2 * (n + 1) = 2 * n + 1 + 1 by omega, cb_s, cb_s, cb_2 h n, cb_s, show (2 * n + 1) / 2 = n by omega, show 2 * n / 2 = n by omega]
    split <;> omega
theorem sn_2 (h : Nat → Nat) (c : Nat) : ∀ n, sn (fun i => c * h (i / 2)) (2 * n) = 2 * (c * sn h n)
  | 0 => rfl
  | n + 1 => by
    rw [show 2 * (n + 1) = 2 * n + 1 + 1 by omega, sn_s, sn_s, sn_2 h c n, sn_s, show (2 * n + 1) / 2 = n by omega, show 2 * n / 2 = n by omega, Nat.mul_add]
    omega
theorem cb_row (g : Nat → Nat → Bool) {n : Nat} (hn : 0 < n) : ∀ m, cb (fun k => g (k % n) (k / n)) (m * n) = sn (fun j => cb (fun i => g i j) n) m
  | 0 => by rw [Nat.zero_mul]; rfl
  | m + 1 => by
    rw [Nat.add_mul, Nat.one_mul, cb_add, cb_row g hn m, sn_s]
    congr 1
    refine cb_cong (fun k hk => ?_)
    rw [Nat.mul_comm m n, Nat.mul_add_mod, Nat.mod_eq_of_lt hk, Nat.mul_add_div hn, Nat.div_eq_of_lt hk, Nat.add_zero]
theorem cb_4 (g : Nat → Nat → Bool) {n : Nat} (hn : 0 < n) : cb (fun k => g (k % (2 * n) / 2) (k / (2 * n) / 2)) (2 * n * (2 * n)) = 4 * cb (fun k => g (k % n) (k / n)) (n * n) := by
  rw [cb_row (fun i j => g (i / 2) (j / 2)) (by omega), cb_row g hn]
  have e : (fun j => cb (fun i => g (i / 2) (j / 2)) (2 * n)) = (fun j => 2 * (fun j => cb (fun i => g i j) n) (j / 2)) := by
    funext j; exact cb_2 (fun i => g i (j / 2)) n
  have r := sn_2 (fun j => cb (fun i => g i j) n) 2 n
  rw [e]; refine Eq.trans r ?_; omega
/-! COUNT -/
def spB (S : St) (m k a b : Nat) : Bool := decide (m < cN (S.1 0) (S.1 1) (S.1 2) k a b 40)
theorem p4 (l : Nat) : 4 ^ l = 2 ^ l * 2 ^ l := by rw [← Nat.mul_pow]
theorem off_1 : ∀ l, l < 5 → offN (l + 1) = offN l + 4 ^ l := by decide
theorem bix_k (l k : Nat) : bixN l (k % 2 ^ l) (k / 2 ^ l) = offN l + k := by
  unfold bixN
  have := Nat.mod_add_div k (2 ^ l)
  rw [Nat.mul_comm] at this
  omega
theorem kij {l k : Nat} (h : k < 4 ^ l) : k % 2 ^ l < 2 ^ l ∧ k / 2 ^ l < 2 ^ l := by
  have p := Nat.two_pow_pos l
  refine ⟨Nat.mod_lt _ p, Nat.div_lt_of_lt_mul ?_⟩
  rw [p4] at h; exact h
theorem ck_N {l k : Nat} (hl : l ≤ 5) (h : k < 4 ^ l) : ckI l k = nI (k % 2 ^ l) ∧ ckJ l k = nI (k / 2 ^ l) := by
  have p2 := p2_lt hl
  have h2 : k < 1024 := by
    have : 2 ^ l * 2 ^ l ≤ 32 * 32 := Nat.mul_le_mul p2 p2
    rw [p4] at h; omega
  refine ⟨?_, ?_⟩
  · unfold ckI
    rw [(sh1_N l (by omega)).2]
    exact pk_andN (by omega) l ((by decide +kernel : ∀ l, l < 6 → (nI (2 ^ l - 1)).toBitVec.toNat = 2 ^ l - 1) l (by omega))
  · exact pk_shrN (by omega) _ _ (shl_a (by omega))
theorem tal_k {S : St} (h : FI S) {l k : Nat} (hl : l ≤ 5) (hk : k < 4 ^ l) : S.1 7 (offN l + k) = nI (cN (S.1 0) (S.1 1) (S.1 2) l (k % 2 ^ l) (k / 2 ^ l) 40) := by
  obtain ⟨e1, e2⟩ := kij hk
  rw [← bix_k, h.2.2.2.1 l _ _ hl e1 e2, pnI_c h.1 (by omega) (lt64 hl e1) (lt64 hl e2) 40 (Nat.le_refl _)]
theorem tal_le {S : St} (h : FI S) {m : Nat} (hm : m < 2 ^ 31) (h8 : S.1 8 0 = nI m) {l k : Nat} (hl : l ≤ 5) (hk : k < 4 ^ l) : S.1 7 (offN l + k) ≤ S.1 8 0 ↔ ¬ spB S m l (k % 2 ^ l) (k / 2 ^ l) = true := by
  have c40 := cN_le (S.1 0) (S.1 1) (S.1 2) l (k % 2 ^ l) (k / 2 ^ l) 40
  rw [tal_k h hl hk, h8, nI_leI (by omega) hm]
  unfold spB
  rw [decide_eq_true_eq]; omega
def spN (S : St) (m l n : Nat) : Nat := cb (fun k => spB S m l (k % 2 ^ l) (k / 2 ^ l)) n
theorem spN_s (S : St) (m l n : Nat) : spN S m l (n + 1) = spN S m l n + (if spB S m l (n % 2 ^ l) (n / 2 ^ l) = true then 1 else 0) := rfl
theorem spb_n {S : St} (h : FI S) {m : Nat} (hm : m < 2 ^ 31) (h8 : S.1 8 0 = nI m) {l : Nat} (hl : l ≤ 5) : ∀ n, n ≤ 4 ^ l → spbI S (offN l + n) = spbI S (offN l) + nI (spN S m l n)
  | 0, _ => by show spbI S (offN l) = _ + nI 0; rw [nI_0]; simp
  | n + 1, hn => by
    rw [← Nat.add_assoc, spbI, spb_n h hm h8 hl n (by omega), spN_s]
    have t := tal_le h hm h8 hl (show n < 4 ^ l by omega)
    by_cases c : spB S m l (n % 2 ^ l) (n / 2 ^ l) = true
    · rw [if_neg (fun z => (t.mp z) c), if_pos c, ← nI_1]; grind
    · rw [if_pos (t.mpr c), if_neg c]; rfl
theorem sr_n {S : St} (h : FI S) {m : Nat} (hm : m < 2 ^ 31) (h8 : S.1 8 0 = nI m) {l : Nat} (hl : l ≤ 5) (lev nxt : Int32) : ∀ c n, n + c = 4 ^ l → srI S lev nxt c (offN l + n) = if spN S m l (4 ^ l) = spN S m l n then nxt else lev
  | 0, n, hn => by rw [srI, if_pos (by rw [← hn]; rfl)]
  | c + 1, n, hn => by
    have ih := sr_n h hm h8 hl lev nxt c (n + 1) (by omega)
    have t := tal_le h hm h8 hl (show n < 4 ^ l by omega)
    have mono : ∀ d k, spN S m l k ≤ spN S m l (k + d) := fun d => by
      induction d with
      | zero => exact fun k => Nat.le_refl _
      | succ d ih => exact fun k => Nat.le_trans (ih k) (by rw [← Nat.add_assoc, spN_s]; omega)
    rw [srI, Nat.add_assoc, ih]
    by_cases d : spB S m l (n % 2 ^ l) (n / 2 ^ l) = true
    · have e := mono c (n + 1)
      rw [show n + 1 + c = 4 ^ l by omega, spN_s, if_pos d] at e
      rw [if_neg (fun z => (t.mp z) d), if_neg (by omega)]
    · have e : spN S m l (n + 1) = spN S m l n := by rw [spN_s, if_neg d]; rfl
      rw [if_pos (t.mpr d), e]
def exN (S : St) (m l n : Nat) : Nat := cb (fun k => bxB (S.1 0) (S.1 1) (S.1 2) m l (k % 2 ^ l) (k / 2 ^ l)) n
theorem exN_s (S : St) (m l n : Nat) : exN S m l (n + 1) = exN S m l n + (if bxB (S.1 0) (S.1 1) (S.1 2) m l (n % 2 ^ l) (n / 2 ^ l) = true then 1 else 0) := rfl
theorem ex_4 (S : St) (m l : Nat) : exN S m (l + 1) (4 ^ (l + 1)) = 4 * spN S m l (4 ^ l) := by
  unfold exN spN
  rw [p4 (l + 1), p4 l, Nat.pow_succ, Nat.mul_comm (2 ^ l) 2]
  exact cb_4 (spB S m l) (Nat.two_pow_pos l)
def qN (S : St) (m l n : Nat) : Nat := if l < 5 then spN S m l n else 0
theorem sp_bx {S : St} {m l a b : Nat} (hl : l ≤ 5) (h : spB S m l a b = true) : bxB (S.1 0) (S.1 1) (S.1 2) m l a b = true := by
  unfold bxB
  cases l with
  | zero => rfl
  | succ n =>
    have p := cN_par (S.1 0) (S.1 1) (S.1 2) (l := n) a b (by omega) 40
    unfold spB at h
    rw [decide_eq_true_eq] at h
    simp only [decide_eq_true_eq]; omega
theorem msp_b {S : St} (h : FI S) {m : Nat} (hm : m < 2 ^ 31) {l k : Nat} (hl : l ≤ 5) (hk : k < 4 ^ l) : mspI (S.1 0) (S.1 1) (S.1 2) (nI m) (nI l) (ckI l k) (ckJ l k) = if l < 5 then (if spB S m l (k % 2 ^ l) (k / 2 ^ l) = true then 1 else 0) else 0 := by
  obtain ⟨e1, e2⟩ := kij hk
  have c40 := cN_le (S.1 0) (S.1 1) (S.1 2) l (k % 2 ^ l) (k / 2 ^ l) 40
  unfold mspI
  rw [(ck_N hl hk).1, (ck_N hl hk).2, pnI_c h.1 (by omega) (lt64 hl e1) (lt64 hl e2) 40 (Nat.le_refl _)]
  simp only [nI_leI (show cN (S.1 0) (S.1 1) (S.1 2) l (k % 2 ^ l) (k / 2 ^ l) 40 < 2 ^ 31 by omega) hm]
  by_cases c : l < 5
  · rw [if_neg (show ¬ (5 : Int32) ≤ nI l from nI_ge (b := 5) c (by decide)), if_pos c]
    unfold spB
    by_cases d : cN (S.1 0) (S.1 1) (S.1 2) l (k % 2 ^ l) (k / 2 ^ l) 40 ≤ m
    · rw [if_pos d, if_neg (by rw [decide_eq_true_eq]; omega)]
    · rw [if_neg d, if_pos (by rw [decide_eq_true_eq]; omega)]
  · rw [if_pos (show (5 : Int32) ≤ nI l from nI_le (a := 5) (by omega) (by omega)), if_neg c]
theorem ckK_n {S : St} (h : FI S) {m : Nat} (hm : m < 2 ^ 31) {l : Nat} (hl : l ≤ 5) (c : Int32 × Int32 × Int32) : ∀ n, n ≤ 4 ^ l → ckK (S.1 0) (S.1 1) (S.1 2) (nI m) l c n = (c.1 + nI (exN S m l n), if exN S m l n = 0 then c.2.1 else nI l, c.2.2 + nI (qN S m l n))
  | 0, _ => by
    rw [ckK, show exN S m l 0 = 0 from rfl, show qN S m l 0 = 0 by unfold qN; split <;> rfl, if_pos rfl, nI_0]
    simp
  | n + 1, hn => by
    have hk : n < 4 ^ l := by omega
    obtain ⟨e1, e2⟩ := kij hk
    rw [ckK, ckK_n h hm hl c n (by omega), msp_b h hm hl hk, (ck_N hl hk).1, (ck_N hl hk).2, mbx_N h.1 hm hl e1 e2, exN_s]
    have q : qN S m l (n + 1) = qN S m l n + (if l < 5 then (if spB S m l (n % 2 ^ l) (n / 2 ^ l) = true then 1 else 0) else 0) := by
      unfold qN; split
      · rw [spN_s]
      · rfl
    rw [q]
    by_cases d : bxB (S.1 0) (S.1 1) (S.1 2) m l (n % 2 ^ l) (n / 2 ^ l) = true
    · rw [if_pos d, if_neg (by decide), if_pos d, if_neg (show ¬ exN S m l n + 1 = 0 from Nat.succ_ne_zero _), ← nI_1]
      refine Prod.ext (by show _ + _ + 1 = _ + (_ + 1); grind) (Prod.ext rfl ?_)
      show c.2.2 + nI (qN S m l n) + _ = _
      by_cases d2 : l < 5
      · rw [if_pos d2, if_pos d2]
        by_cases d3 : spB S m l (n % 2 ^ l) (n / 2 ^ l) = true
        · rw [if_pos d3, if_pos d3, ← nI_1, if_neg (by decide)]; grind
        · rw [if_neg d3, if_neg d3, if_pos rfl]; simp
      · rw [if_neg d2, if_neg d2, if_pos rfl]; simp
    · have d3 : ¬ spB S m l (n % 2 ^ l) (n / 2 ^ l) = true := fun z => d (sp_bx hl z)
      rw [if_neg d, if_pos rfl, if_neg d, if_neg d3, Nat.add_zero, ite_self, Nat.add_zero]
/-- what both sides count, level by level -/
theorem ck_lev {S : St} (h : FI S) {m : Nat} (hm : m < 2 ^ 31) (h8 : S.1 8 0 = nI m) : ∀ l, l ≤ 4 → ckL (S.1 0) (S.1 1) (S.1 2) (nI m) (l + 1) = (1 + 4 * spbI S (offN l), grI S l, spbI S (offN (l + 1)))
  | 0, _ => by
    rw [ckL, ckL, ckK_n h hm (by omega) _ _ (Nat.le_refl _)]
    have e : exN S m 0 (4 ^ 0) = 1 := rfl
    have s := spb_n h hm h8 (l := 0) (by omega) (4 ^ 0) (Nat.le_refl _)
    rw [e, off_1 0 (by omega), s]
    rfl
  | l + 1, hl => by
    have s := spb_n h hm h8 (l := l + 1) (by omega) (4 ^ (l + 1)) (Nat.le_refl _)
    have s0 := spb_n h hm h8 (l := l) (by omega) (4 ^ l) (Nat.le_refl _)
    rw [ckL, ck_lev h hm h8 l (by omega), ckK_n h hm (by omega) _ _ (Nat.le_refl _), ex_4]
    rw [← off_1 l (by omega)] at s0
    rw [← off_1 (l + 1) (by omega)] at s
    rw [s]
    refine Prod.ext ?_ (Prod.ext ?_ ?_)
    · show 1 + 4 * spbI S (offN l) + nI (4 * spN S m l (4 ^ l)) = 1 + 4 * spbI S (offN (l + 1))
      rw [s0, ← pk_mul]
      show _ + (4 : Int32) * _ = _
      grind
    · show (if 4 * spN S m l (4 ^ l) = 0 then grI S l else nI (l + 1)) = grI S (l + 1)
      rw [grI, show offN (l + 1) - offN l = 4 ^ l by rw [off_1 l (by omega)]; exact Nat.add_sub_cancel_left _ _]
      have r := sr_n h hm h8 (l := l) (by omega) (nI (l + 1)) (grI S l) (4 ^ l) 0 (by omega)
      rw [show spN S m l 0 = 0 from rfl] at r
      rw [show srI S (nI (l + 1)) (grI S l) (4 ^ l) (offN l) = _ from r]
      by_cases c : spN S m l (4 ^ l) = 0
      · rw [if_pos (by omega), if_pos c]
      · rw [if_neg (by omega), if_neg c]
    · show spbI S (offN (l + 1)) + nI (qN S m (l + 1) (4 ^ (l + 1))) = _
      unfold qN; rw [if_pos (by omega)]
theorem ck_all {S : St} (h : FI S) {m : Nat} (hm : m < 2 ^ 31) (h8 : S.1 8 0 = nI m) : ckL (S.1 0) (S.1 1) (S.1 2) (nI m) 6 = (1 + 4 * spbI S 341, grI S 5, spbI S 341) := by
  have s0 := spb_n h hm h8 (l := 4) (by omega) (4 ^ 4) (Nat.le_refl _)
  rw [ckL, ck_lev h hm h8 4 (by omega), ckK_n h hm (by omega) _ _ (Nat.le_refl _), ex_4]
  rw [← off_1 4 (by omega)] at s0
  refine Prod.ext ?_ (Prod.ext ?_ ?_)
  · show 1 + 4 * spbI S (offN 4) + nI (4 * spN S m 4 (4 ^ 4)) = 1 + 4 * spbI S (offN 5)
    rw [s0, ← pk_mul]
    show _ + (4 : Int32) * _ = _
    grind
  · show (if 4 * spN S m 4 (4 ^ 4) = 0 then grI S 4 else nI 5) = grI S 5
    show _ = srI S (nI (4 + 1)) (grI S 4) (4 ^ 4) (offN 4)
    have r := sr_n h hm h8 (l := 4) (by omega) (nI (4 + 1)) (grI S 4) (4 ^ 4) 0 (by omega)
    rw [show spN S m 4 0 = 0 from rfl] at r
    rw [show srI S (nI (4 + 1)) (grI S 4) (4 ^ 4) (offN 4) = _ from r]
    by_cases c : spN S m 4 (4 ^ 4) = 0
    · rw [if_pos (by omega), if_pos c]
    · rw [if_neg (by omega), if_neg c]
  · show spbI S 341 + nI (qN S m 5 (4 ^ 5)) = _
    unfold qN; rw [if_neg (by omega), nI_0]; simp
theorem in_00 {hr px py : Nat → Int32} (h : pOk hr px py) {p : Nat} (hp : p < 40) : inI hr px py 0 0 0 p = 0 ↔ hr p = 0 := by
  unfold inI
  by_cases c : hr p = 0
  · rw [if_pos c]; simp [c]
  · obtain ⟨a, ha, ea⟩ := vp_in_of (h p hp c).1 (by decide)
    obtain ⟨b, hb, eb⟩ := vp_in_of (h p hp c).2 (by decide)
    rw [if_neg c, ea, eb, show (0 : Int32) = nI 0 from rfl, num_N (by omega) (by omega), num_N (by omega) (by omega)]
    have e1 : numN 0 a = 0 := Nat.div_eq_of_lt ha
    have e2 : numN 0 b = 0 := Nat.div_eq_of_lt hb
    rw [e1, e2, if_pos rfl, if_pos rfl]
    exact ⟨fun z => absurd z (by decide), fun z => absurd z c⟩
theorem blk_m {S : St} (h : FI S) : ∀ n, n ≤ 40 → blkI S n = nI (bN (S.1 0) (S.1 1) (S.1 2) (S.1 3) 0 0 0 n)
  | 0, _ => rfl
  | n + 1, hn => by
    rw [blkI, bN, blk_m h n (by omega)]
    have e := in_00 h.1 (show n < 40 by omega)
    by_cases c : S.1 0 n = 0
    · rw [if_pos c, if_pos (e.mpr c), Nat.add_zero]
    · have w1 := h.2.1 n (by omega) c
      rw [if_neg c, if_neg (fun z => c (e.mp z)), (absN w1.1 w1.2).1, nI_add]
theorem cn_m {S T : St} (h : FI S) (g : ag S T) (q : Int32) : cnI S q = mcnR T q := by
  obtain ⟨m, m1, m2, h8⟩ := h.2.2.2.2
  have l := g.1
  have e := ck_all h (show m < 2 ^ 31 by omega) h8
  rw [← h8] at e
  unfold cnI mcnR
  rw [← l.1, ← l.2.1, ← l.2.2.1, ← l.2.2.2.1, ← g.2.1, ← g.2.2.2, e, ← h.2.2.1]
  have b := bkL_b (px := S.1 1) (py := S.1 2) h.2.1 0 0 0 40 (Nat.le_refl _)
  rw [b.1, lN_i, blk_m h 40 (Nat.le_refl _)]
theorem op_count {S : St} (h : Inv S) (q : Int32) : cnI S q = mcnR S q ∧ Inv S := ⟨cn_m h.1 h.2 q, h⟩
/-! DIGEST -/
theorem dc_m {S T : St} (h : FI S) (g : ag S T) : ∀ n, dcV S n = mdcV T n
  | 0 => rfl
  | n + 1 => by rw [dcV, mdcV, dc_m h g n, cn_m h g]
theorem dq_m {S T : St} (g : ag S T) {p : Nat} (hp : p < 40) (hh : ¬ S.1 0 p = 0) (v : Int64) : ∀ n, dqV S p v n = mdqV T p v n
  | 0 => rfl
  | n + 1 => by
    rw [dqV, mdqV, dq_m g hp hh v n, ← at_m g]
    unfold aqR
    rw [if_neg (fun z => by
      unfold hasI at z
      rw [if_neg (nI_pos (by omega)), if_neg (show ¬ (40 : Int32) ≤ nI p from nI_ge (b := 40) hp (by decide)), ncl (by omega), if_neg hh] at z
      exact absurd z (by decide))]
theorem dp_m {S T : St} (g : ag S T) (v : Int64) : ∀ n, n ≤ 40 → dpV S v n = mdpV T v n
  | 0, _ => rfl
  | n + 1, hn => by
    rw [dpV, mdpV, dp_m g v n (by omega), ← g.1.1]
    by_cases c : S.1 0 n = 0
    · rw [if_pos c, if_pos c]
    · rw [if_neg c, if_neg c, dq_m g (by omega) c]
theorem dfB_m {S T : St} (g : ag S T) {a : Nat} (v : Int64) : ∀ n, n ≤ 5 - a → dfB S a v n = mdfB T a v n
  | 0, _ => rfl
  | n + 1, hn => by rw [dfB, mdfB, dfB_m g v n (by omega), g.2.2.1 a n (by omega)]
theorem dfA_m {S T : St} (g : ag S T) (v : Int64) : ∀ n, dfA S v n = mdfA T v n
  | 0 => rfl
  | n + 1 => by rw [dfA, mdfA, dfA_m g v n, dfB_m g _ _ (Nat.le_refl _)]
theorem dbI_m {S T : St} (h : FI S) (g : ag S T) {l : Nat} (hl : l ≤ 5) {j : Nat} (hj : j < 2 ^ l) (V : St × Int64) (w : Int64) (hV : qf S V.1) (hv : V.2 = mdkV T l w (j * 2 ^ l)) : ∀ n, n ≤ 2 ^ l → qf S (dbI V l j n).1 ∧ (dbI V l j n).2 = mdkV T l w (j * 2 ^ l + n)
  | 0, _ => ⟨hV, hv⟩
  | n + 1, hn => by
    obtain ⟨i1, i2⟩ := dbI_m h g hl hj V w hV hv n (by omega)
    have p1 := Nat.two_pow_pos l
    have k1 : (j * 2 ^ l + n) % 2 ^ l = n := by rw [Nat.mul_comm, Nat.mul_add_mod, Nat.mod_eq_of_lt (by omega)]
    have k2 : (j * 2 ^ l + n) / 2 ^ l = j := by rw [Nat.mul_comm, Nat.mul_add_div p1, Nat.div_eq_of_lt (by omega), Nat.add_zero]
    have hk : j * 2 ^ l + n < 4 ^ l := by
      have : (j + 1) * 2 ^ l ≤ 2 ^ l * 2 ^ l := Nat.mul_le_mul_right _ hj
      rw [p4]; rw [Nat.add_mul] at this; omega
    have ck := ck_N hl hk
    rw [k1, k2] at ck
    have hU := FI_of (fun a ha => i1.1 a (by omega)) h
    have gU := ag_l g i1
    have l1 := gU.1
    rw [dbI, ← Nat.add_assoc, mdkV, ck.1, ck.2, thr_m hU, ← i2, ← l1.1, ← l1.2.1, ← l1.2.2.1, ← gU.2.1]
    split
    · exact ⟨i1, rfl⟩
    · have q := (gat_f (dbI V l j n).1 (nI l) (nI n) (nI j)).qf
      dsimp only
      refine ⟨i1.trans q, ?_⟩
      unfold dmV mdmV
      rw [gat_m _ _ _ _ (by omega), gat_m _ _ _ _ (by omega), gat_m _ _ _ _ (by omega), ← l1.1, ← l1.2.1, ← l1.2.2.1, ← l1.2.2.2.1]
theorem dbJ_m {S T : St} (h : FI S) (g : ag S T) {l : Nat} (hl : l ≤ 5) (V : St × Int64) (hV : qf S V.1) : ∀ n, n ≤ 2 ^ l → qf S (dbJ V l n).1 ∧ (dbJ V l n).2 = mdkV T l V.2 (n * 2 ^ l)
  | 0, _ => ⟨hV, by rw [Nat.zero_mul]; rfl⟩
  | n + 1, hn => by
    obtain ⟨i1, i2⟩ := dbJ_m h g hl V hV n (by omega)
    have r := dbI_m h g hl (show n < 2 ^ l by omega) (dbJ V l n) V.2 i1 i2 (2 ^ l) (Nat.le_refl _)
    rw [dbJ, Nat.add_mul, Nat.one_mul]; exact r
theorem dbL_m {S T : St} (h : FI S) (g : ag S T) (v : Int64) : ∀ n, n ≤ 6 → qf S (dbL (S, v) n).1 ∧ (dbL (S, v) n).2 = mdlV T v n
  | 0, _ => ⟨qf.refl _, rfl⟩
  | n + 1, hn => by
    obtain ⟨i1, i2⟩ := dbL_m h g v n (by omega)
    have r := dbJ_m h g (show n ≤ 5 by omega) (dbL (S, v) n) i1 (2 ^ n) (Nat.le_refl _)
    rw [dbL, mdlV, ← i2, p4]; exact r
theorem dgT_u : dgT = fun S => (dbL (S, dgH S) 6).1 := rfl
theorem dgR_u : dgR = fun S => (dbL (S, dgH S) 6).2 := rfl
theorem dg_q {S : St} (h : Inv S) : qf S (dgT S) := by
  have r := (dbL_m h.1 h.2 (dgH S) 6 (Nat.le_refl _)).1
  rw [congrFun dgT_u S]; exact r
theorem dgH_m {S T : St} (h : FI S) (g : ag S T) : dgH S = 31 * mdfA T (mdpV T (mdcV T 6) 40) 5 + (T.1 27 0).toInt64 := by
  unfold dgH
  rw [dfA_m g, dp_m g _ 40 (Nat.le_refl _), dc_m h g, g.2.1]
theorem dg_m {S T : St} (h : FI S) (g : ag S T) : dgR S = mdgR T := by
  have r := (dbL_m h g (dgH S) 6 (Nat.le_refl _)).2
  rw [congrFun dgR_u S]
  refine Eq.trans r ?_
  unfold mdgR
  rw [dgH_m h g]
theorem op_digest {S : St} (h : Inv S) : dgR S = mdgR (dgT S) ∧ Inv (dgT S) := ⟨dg_m h.1 (ag_q h.2 (dg_q h)), Inv_q (dg_q h) h⟩
