section
variable {X : Fr} {cc : ByteArray} {own : String} {d : Nat} {S : St} {pc : Nat} {lv st : List Value}
/-- behind a call of which only 'post' is known -/
theorem r_afterP {a : Array Value} {g0 rest : List Value} {post : Option Value → St → Prop} {H : Heap} {locs : List Loc} {ls : Array Slot} (hS : va_S (fA (xw X)) (xs X).heap H locs) (hl : hL ls (xn X) lv)
    (hr : va_Run (xp X) (xl X) (xe X) (xR X) (xs X) (xm X) (xa X) (xb X) (xme X) (xc X) H locs (xk X).1 (xk X).2 0 0 (F0 (xm X) pc ls g0) rest (QX (xw X) post a) (fA (xw X)))
    (k : ∀ (v : Option Value) (S2 : St), post v S2 → Wx X S2 (pc + 3) lv (v.toList ++ rest)) : W (xp X) (xl X) (xe X) (xR X) (xs X) (xm X) (xa X) (xb X) (xme X) (xc X) H locs (xk X).1 (xk X).2 (xQ X) (F0 (xm X) pc ls g0) := by
  intro T hT Xs
  obtain ⟨v, st₀, t, T', L, h0, X', hL', e1, e2, ⟨⟨v', S', hv, hpp, hP'⟩, hz, hk⟩, stp⟩ := hr T hT Xs
  cases hv
  rw [h0] at hz hk
  have hS' : va_S (fA (xw X)) (xs X).heap T'.heap (locs ++ L) := ⟨Nat.le_trans hS.1 (by rw [e1]; exact hz), fun q h1 h2 => by rw [e1, hk q (Nat.lt_of_lt_of_le h1 hS.1) h2]; exact hS.2.1 q h1 h2, fun q hq => by
    rcases List.mem_append.mp hq with z | z
    · exact hS.2.2 q z
    · exact hL' q z⟩
  obtain ⟨t2, a1, b1⟩ := k v S' hpp T'.heap (locs ++ L) ls (by rw [e1]; exact hP') hS' hl T' rfl X'
  exact ⟨t2, stp t2 a1, b1⟩
theorem r_callP {y : MethodName} {cc' : ByteArray} {mL d' n b idx ci N : Nat} {rt : Option FieldType} {As rest : List Value} {post : Option Value → St → Prop} {T : u_T} {fs : List Value} (h : Ok X cc own d) (hM : Ct (xl X) y cc' mL rt d' (xw X) (.ref b :: As) S post) (hc : CalV y cc' mL rt n) (hlink : Cond.methodLink own idx y ∈ tb) (hd : d' + 1 ≤ d) (q0 : Nat) (hpl : (wS (xw X) S)[q0]? = some (b, .inr (ci, fs))) (hcl : vwCl[ci]? = some (y.cls, T, N)) (hn : As.length = n) (hst : st = As.reverse ++ .ref b :: rest) (hroom : (rest.map fun v => v.category).sum ≤ 8) (dg : decode cc pc = .ok (.invokevirtual idx, 3)) (k : ∀ (v : Option Value) (S2 : St), post v S2 → Wx X S2 (pc + 3) lv (v.toList ++ rest)) : Wx X S pc lv st := by
  subst hst
  intro H locs ls hP hS hl
  obtain ⟨⟨c1, c2, c3, c4⟩, c5, c6⟩ := hc
  have hts := h.2.2.2.2.1
  have hfr := h.2.2.2.2.2.2.2.1
  have hB := h.2.2.2.2.2.2.1
  have hcw : CallW (xR X) (xs X) (xa X) own y.cls idx y cc' mL rt (Cond.code y cc' mL rt :: tb) (rmD d') 0 0 n := cwV n hts (good_of (fun w hw => by
    rcases List.mem_append.mp hw with z | z
    · simp only [List.mem_cons, List.not_mem_nil, or_false] at z
      rcases z with rfl | rfl | rfl | rfl <;> assumption
    · rcases List.mem_cons.mp z with rfl | z
      · exact c1
      · exact z)) rfl rfl rfl ⟨rfl, c3⟩ ⟨by show d' + 1 ≤ (xR X).frames; omega, by show 8 + (mL + 11) + 40 * d' ≤ (xR X).locals; omega⟩
  have hr := va_runV (cc := cc) (nL := xn X) (Ts := tb) (own := own) (As := As) (rest := rest) (b := b) (g := F0 (xm X) pc ls (As.reverse ++ .ref b :: rest)) (H := H) (locs := locs) (below := xb X) (e := xe X) (meth := xme X) (cells := (xk X).1) (slots := (xk X).2) ⟨h.1, h.2.1, h.2.2.1, h.2.2.2.1, hts⟩ hM hcw ⟨pc_blind, va_recv hB.1 hP hcl hpl, fun U hU hW => ⟨rfl, by rw [hU]; exact hP, Bs_move hS hU hW hB⟩⟩ rfl hn hl.1.1 rfl (lv_room hroom) dg ⟨h.2.2.2.2.2.2.2.2.1, h.2.2.2.2.2.2.2.2.2⟩
  exact r_afterP hS hl hr k
end
/-- the state without the reference's own stack -/
def nz (S : St) : St := (fun a => if a = 29 then (fun _ => 0) else if a = 30 then (fun _ => 0) else if a = 31 then (fun _ => 0) else S.1 a, S.2)
theorem nz_at {S : St} {a : Nat} (h1 : a ≠ 29) (h2 : a ≠ 30) (h3 : a ≠ 31) : (nz S).1 a = S.1 a := by
  show (if a = 29 then _ else if a = 30 then _ else if a = 31 then _ else S.1 a) = S.1 a
  rw [if_neg h1, if_neg h2, if_neg h3]
theorem nz_J {S : St} : (nz S).2 = S.2 := rfl
theorem nz_nz {S : St} : nz (nz S) = nz S := by
  apply Prod.ext
  · funext a
    show (if a = 29 then _ else if a = 30 then _ else if a = 31 then _ else (nz S).1 a) = (if a = 29 then _ else if a = 30 then _ else if a = 31 then _ else S.1 a)
    split
    · rfl
    · split
      · rfl
      · split
        · rfl
        · rename_i h1 h2 h3; exact nz_at h1 h2 h3
  · rfl
theorem nz_sI {S : St} {k i : Nat} {v : Int32} (h1 : k ≠ 29) (h2 : k ≠ 30) (h3 : k ≠ 31) : nz (sI S k i v) = sI (nz S) k i v := by
  apply Prod.ext
  · funext a
    by_cases q : a = k
    · subst q; rw [nz_at h1 h2 h3, sI_eq, sI_eq, nz_at h1 h2 h3]
    · rw [sI_ne q]
      by_cases z1 : a = 29
      · subst z1; rfl
      by_cases z2 : a = 30
      · subst z2; rfl
      by_cases z3 : a = 31
      · subst z3; rfl
      rw [nz_at z1 z2 z3, nz_at z1 z2 z3, sI_ne q]
  · rfl
theorem nz_sJ {S : St} {k i : Nat} {v : Int64} : nz (sJ S k i v) = sJ (nz S) k i v := rfl
theorem nz_st {S : St} {k i : Nat} {v : Int32} (h : k = 29 ∨ k = 30 ∨ k = 31) : nz (sI S k i v) = nz S := by
  apply Prod.ext
  · funext a
    by_cases z1 : a = 29
    · subst z1; rfl
    by_cases z2 : a = 30
    · subst z2; rfl
    by_cases z3 : a = 31
    · subst z3; rfl
    rw [nz_at z1 z2 z3, nz_at z1 z2 z3, sI_ne (by omega)]
  · rfl
def goeS (S : St) (a b c : Int32) : St := sI (sI (sI (sI S 32 (S.1 35 0).toNatClampNeg a) 33 (S.1 35 0).toNatClampNeg b) 34 (S.1 35 0).toNatClampNeg c) 35 0 (S.1 35 0 + 1)
theorem nz_goe {S : St} {a b c : Int32} : nz (goeS S a b c) = goeS (nz S) a b c := by
  unfold goeS
  rw [nz_sI (by decide) (by decide) (by decide), nz_sI (by decide) (by decide) (by decide), nz_sI (by decide) (by decide) (by decide), nz_sI (by decide) (by decide) (by decide)]
  rfl
def ev1 (S : St) (l i j x y : Int32) (o : Nat) : St := sJ S 3 0 (S.2 3 0 + mteL (S.1 20) (S.1 21) (S.1 22) (S.1 23) (S.1 26) l i j x y o)
def ev2 (S : St) (l i j x y : Int32) (o : Nat) : St := sJ (ev1 S l i j x y o) 4 0 ((ev1 S l i j x y o).2 4 0 + menL (S.1 20) (S.1 21) (S.1 22) (S.1 23) (S.1 26) l i j x y o)
def evB (S : St) (l i j x y : Int32) (o : Nat) : St := goeS (ev2 S l i j x y o) l i j
theorem nz_evB {S : St} {l i j x y : Int32} {o : Nat} : nz (evB S l i j x y o) = evB (nz S) l i j x y o := by
  unfold evB
  rw [nz_goe]
  rfl
def evP (S : St) (p : Nat) (x y : Int32) : St := goeS (sJ S 3 0 (S.2 3 0 + mpuL (S.1 26) (S.1 21) (S.1 22) (S.1 23) p x y)) (-1) (nI p) (-1)
theorem nz_evP {S : St} {p : Nat} {x y : Int32} : nz (evP S p x y) = evP (nz S) p x y := by
  unfold evP
  rw [nz_goe]
  rfl
def ppS (S : St) (l i j x y : Int32) : Nat → St
  | 0 => S
  | p + 1 => if inI ((ppS S l i j x y p).1 20) ((ppS S l i j x y p).1 21) ((ppS S l i j x y p).1 22) l i j p = 0 then ppS S l i j x y p else evP (ppS S l i j x y p) p x y
theorem ppS_s {S : St} {l i j x y : Int32} {p : Nat} : ppS S l i j x y (p + 1) = if inI ((ppS S l i j x y p).1 20) ((ppS S l i j x y p).1 21) ((ppS S l i j x y p).1 22) l i j p = 0 then ppS S l i j x y p else evP (ppS S l i j x y p) p x y := rfl
theorem goe_ne {S : St} {a b c : Int32} {k : Nat} (h1 : k ≠ 32) (h2 : k ≠ 33) (h3 : k ≠ 34) (h4 : k ≠ 35) : (goeS S a b c).1 k = S.1 k := by
  unfold goeS
  rw [sI_ne h4, sI_ne h3, sI_ne h2, sI_ne h1]
theorem evB_ne {S : St} {l i j x y : Int32} {o k : Nat} (h1 : k ≠ 32) (h2 : k ≠ 33) (h3 : k ≠ 34) (h4 : k ≠ 35) : (evB S l i j x y o).1 k = S.1 k := goe_ne h1 h2 h3 h4
theorem evP_ne {S : St} {p : Nat} {x y : Int32} {k : Nat} (h1 : k ≠ 32) (h2 : k ≠ 33) (h3 : k ≠ 34) (h4 : k ≠ 35) : (evP S p x y).1 k = S.1 k := goe_ne h1 h2 h3 h4
theorem ppS_ne {S : St} {l i j x y : Int32} {k : Nat} (h1 : k ≠ 32) (h2 : k ≠ 33) (h3 : k ≠ 34) (h4 : k ≠ 35) : ∀ p, (ppS S l i j x y p).1 k = S.1 k
  | 0 => rfl
  | p + 1 => by
    rw [ppS_s]
    split
    · exact ppS_ne h1 h2 h3 h4 p
    · rw [evP_ne h1 h2 h3 h4]; exact ppS_ne h1 h2 h3 h4 p
theorem nz_pp {S : St} {l i j x y : Int32} : ∀ p, nz (ppS S l i j x y p) = ppS (nz S) l i j x y p
  | 0 => rfl
  | p + 1 => by
    rw [ppS_s, ppS_s, ← nz_pp p, nz_at (by decide) (by decide) (by decide), nz_at (by decide) (by decide) (by decide), nz_at (by decide) (by decide) (by decide)]
    split
    · rfl
    · exact nz_evP
/-- whether the reference takes a BOX by its TERM -/
def apL (t l : Int32) : Int64 := 2 * (sideI l).toInt64 * t.toInt64
def mfaI (x y t l i j : Int32) : Int32 := if apL t l ≤ szL (farL x l i) then 1 else if szL (farL y l j) < apL t l then 0 else 1
/-- the numbers of parts -/
def npN (hr px py : Nat → Int32) (l i j : Int32) : Nat → Nat
  | 0 => 0
  | p + 1 => npN hr px py l i j p + (if inI hr px py l i j p = 0 then 0 else 1)
theorem npN_s {hr px py : Nat → Int32} {l i j : Int32} (p : Nat) : npN hr px py l i j (p + 1) = npN hr px py l i j p + (if inI hr px py l i j p = 0 then 0 else 1) := rfl
def gaN (hr px py : Nat → Int32) (mo x y t : Int32) : Nat → Nat → Nat → Nat → Nat
  | 0, _, _, _ => 0
  | d + 1, l, i, j => if pnI hr px py (nI l) (nI i) (nI j) 40 ≤ 0 then 0 else if mfaI x y t (nI l) (nI i) (nI j) = 0 then (if mspI hr px py mo (nI l) (nI i) (nI j) = 0 then npN hr px py (nI l) (nI i) (nI j) 40 else gaN hr px py mo x y t d (l + 1) (2 * i) (2 * j) + gaN hr px py mo x y t d (l + 1) (2 * i + 1) (2 * j) + gaN hr px py mo x y t d (l + 1) (2 * i) (2 * j + 1) + gaN hr px py mo x y t d (l + 1) (2 * i + 1) (2 * j + 1)) else 1
theorem gaN_s {hr px py : Nat → Int32} {mo x y t : Int32} {d l i j : Nat} : gaN hr px py mo x y t (d + 1) l i j = if pnI hr px py (nI l) (nI i) (nI j) 40 ≤ 0 then 0 else if mfaI x y t (nI l) (nI i) (nI j) = 0 then (if mspI hr px py mo (nI l) (nI i) (nI j) = 0 then npN hr px py (nI l) (nI i) (nI j) 40 else gaN hr px py mo x y t d (l + 1) (2 * i) (2 * j) + gaN hr px py mo x y t d (l + 1) (2 * i + 1) (2 * j) + gaN hr px py mo x y t d (l + 1) (2 * i) (2 * j + 1) + gaN hr px py mo x y t d (l + 1) (2 * i + 1) (2 * j + 1)) else 1 := rfl
/-- the reference's way over a BOX, as a recursion -/
def gaS (x y t : Int32) (o : Nat) : Nat → St → Nat → Nat → Nat → St
  | 0, S, _, _, _ => S
  | d + 1, S, l, i, j => if pnI (S.1 20) (S.1 21) (S.1 22) (nI l) (nI i) (nI j) 40 ≤ 0 then S else if mfaI x y t (nI l) (nI i) (nI j) = 0 then (if mspI (S.1 20) (S.1 21) (S.1 22) (S.1 27 0) (nI l) (nI i) (nI j) = 0 then ppS S (nI l) (nI i) (nI j) x y 40 else gaS x y t o d (gaS x y t o d (gaS x y t o d (gaS x y t o d S (l + 1) (2 * i) (2 * j)) (l + 1) (2 * i + 1) (2 * j)) (l + 1) (2 * i) (2 * j + 1)) (l + 1) (2 * i + 1) (2 * j + 1)) else evB S (nI l) (nI i) (nI j) x y o
theorem gaS_s {x y t : Int32} {o d : Nat} {S : St} {l i j : Nat} : gaS x y t o (d + 1) S l i j = if pnI (S.1 20) (S.1 21) (S.1 22) (nI l) (nI i) (nI j) 40 ≤ 0 then S else if mfaI x y t (nI l) (nI i) (nI j) = 0 then (if mspI (S.1 20) (S.1 21) (S.1 22) (S.1 27 0) (nI l) (nI i) (nI j) = 0 then ppS S (nI l) (nI i) (nI j) x y 40 else gaS x y t o d (gaS x y t o d (gaS x y t o d (gaS x y t o d S (l + 1) (2 * i) (2 * j)) (l + 1) (2 * i + 1) (2 * j)) (l + 1) (2 * i) (2 * j + 1)) (l + 1) (2 * i + 1) (2 * j + 1)) else evB S (nI l) (nI i) (nI j) x y o := rfl
theorem gaS_ne {x y t : Int32} {o k : Nat} (h1 : k ≠ 32) (h2 : k ≠ 33) (h3 : k ≠ 34) (h4 : k ≠ 35) : ∀ (d : Nat) (S : St) (l i j : Nat), (gaS x y t o d S l i j).1 k = S.1 k
  | 0, _, _, _, _ => rfl
  | d + 1, S, l, i, j => by
    rw [gaS_s]
    split
    · rfl
    split
    · split
      · exact ppS_ne h1 h2 h3 h4 40
      · rw [gaS_ne h1 h2 h3 h4 d, gaS_ne h1 h2 h3 h4 d, gaS_ne h1 h2 h3 h4 d, gaS_ne h1 h2 h3 h4 d]
    · exact evB_ne h1 h2 h3 h4
theorem goe_w {S : St} {a b c : Int32} {w : Nat} (h : S.1 35 0 = nI w) : (goeS S a b c).1 35 0 = nI (w + 1) := by
  unfold goeS
  rw [sI_eq, upd_eq, h, nI_1]
theorem pp_w {S : St} {l i j x y : Int32} {w : Nat} (h : S.1 35 0 = nI w) : ∀ p, (ppS S l i j x y p).1 35 0 = nI (w + npN (S.1 20) (S.1 21) (S.1 22) l i j p)
  | 0 => h
  | p + 1 => by
    rw [ppS_s, npN, ppS_ne (k := 20) (by decide) (by decide) (by decide) (by decide), ppS_ne (k := 21) (by decide) (by decide) (by decide) (by decide), ppS_ne (k := 22) (by decide) (by decide) (by decide) (by decide)]
    split
    · exact pp_w h p
    · exact goe_w (pp_w h p)
theorem ga_w {x y t : Int32} {o : Nat} : ∀ (d : Nat) (S : St) (l i j w : Nat), S.1 35 0 = nI w → (gaS x y t o d S l i j).1 35 0 = nI (w + gaN (S.1 20) (S.1 21) (S.1 22) (S.1 27 0) x y t d l i j)
  | 0, _, _, _, _, _, h => h
  | d + 1, S, l, i, j, w, h => by
    rw [gaS_s, gaN_s]
    by_cases c1 : pnI (S.1 20) (S.1 21) (S.1 22) (nI l) (nI i) (nI j) 40 ≤ 0
    · rw [if_pos c1, if_pos c1]; exact h
    rw [if_neg c1, if_neg c1]
    by_cases c2 : mfaI x y t (nI l) (nI i) (nI j) = 0
    · rw [if_pos c2, if_pos c2]
      by_cases c3 : mspI (S.1 20) (S.1 21) (S.1 22) (S.1 27 0) (nI l) (nI i) (nI j) = 0
      · rw [if_pos c3, if_pos c3]; exact pp_w h 40
      · rw [if_neg c3, if_neg c3]
        have e : ∀ (T : St) (a b c : Nat), (∀ k, k = 20 ∨ k = 21 ∨ k = 22 ∨ k = 27 → T.1 k = S.1 k) → gaN (T.1 20) (T.1 21) (T.1 22) (T.1 27 0) x y t d a b c = gaN (S.1 20) (S.1 21) (S.1 22) (S.1 27 0) x y t d a b c := by
          intro T a b c hT
          rw [hT 20 (by decide), hT 21 (by decide), hT 22 (by decide), hT 27 (by decide)]
        have f : ∀ (T : St) (a b c : Nat), (∀ k, k = 20 ∨ k = 21 ∨ k = 22 ∨ k = 27 → T.1 k = S.1 k) → ∀ k, k = 20 ∨ k = 21 ∨ k = 22 ∨ k = 27 → (gaS x y t o d T a b c).1 k = S.1 k := by
          intro T a b c hT k hk
          rw [gaS_ne (by omega) (by omega) (by omega) (by omega)]
          exact hT k hk
        have f0 : ∀ k, k = 20 ∨ k = 21 ∨ k = 22 ∨ k = 27 → S.1 k = S.1 k := fun _ _ => rfl
        have f1 := f S (l + 1) (2 * i) (2 * j) f0
        have f2 := f _ (l + 1) (2 * i + 1) (2 * j) f1
        have f3 := f _ (l + 1) (2 * i) (2 * j + 1) f2
        have g1 := ga_w (x := x) (y := y) (t := t) (o := o) d S (l + 1) (2 * i) (2 * j) w h
        have g2 := ga_w (x := x) (y := y) (t := t) (o := o) d _ (l + 1) (2 * i + 1) (2 * j) _ g1
        rw [e _ _ _ _ f1] at g2
        have g3 := ga_w (x := x) (y := y) (t := t) (o := o) d _ (l + 1) (2 * i) (2 * j + 1) _ g2
        rw [e _ _ _ _ f2] at g3
        have g4 := ga_w (x := x) (y := y) (t := t) (o := o) d _ (l + 1) (2 * i + 1) (2 * j + 1) _ g3
        rw [e _ _ _ _ f3] at g4
        rw [g4]
        congr 1
        omega
    · rw [if_neg c2, if_neg c2]; exact goe_w h
def psh (S : St) (n : Nat) (a b c : Int32) : St := sI (sI (sI S 29 n a) 30 n b) 31 n c
theorem nz_psh {S : St} {n : Nat} {a b c : Int32} : nz (psh S n a b c) = nz S := by
  unfold psh
  rw [nz_st (by decide), nz_st (by decide), nz_st (by decide)]
theorem psh_at {S : St} {n : Nat} {a b c : Int32} : (psh S n a b c).1 29 n = a ∧ (psh S n a b c).1 30 n = b ∧ (psh S n a b c).1 31 n = c := by
  unfold psh
  refine ⟨?_, ?_, ?_⟩
  · rw [sI_ne (by decide), sI_ne (by decide), sI_eq, upd_eq]
  · rw [sI_ne (by decide), sI_eq, upd_eq]
  · rw [sI_eq, upd_eq]
theorem psh_ne {S : St} {n k : Nat} {a b c : Int32} (h : k ≠ n) : (psh S n a b c).1 29 k = S.1 29 k ∧ (psh S n a b c).1 30 k = S.1 30 k ∧ (psh S n a b c).1 31 k = S.1 31 k := by
  unfold psh
  refine ⟨?_, ?_, ?_⟩
  · rw [sI_ne (by decide), sI_ne (by decide), sI_eq, upd_ne h]
  · rw [sI_ne (by decide), sI_eq, upd_ne h, sI_ne (by decide)]
  · rw [sI_eq, upd_ne h, sI_ne (by decide), sI_ne (by decide)]
def stk (T S : St) (n : Nat) : Prop := ∀ k, k < n → T.1 29 k = S.1 29 k ∧ T.1 30 k = S.1 30 k ∧ T.1 31 k = S.1 31 k
theorem stk_tr {A B C : St} {n m : Nat} (h1 : stk A B n) (h2 : stk B C m) (hm : m ≤ n) : stk A C m := fun k hk => by
  obtain ⟨a1, a2, a3⟩ := h1 k (by omega)
  obtain ⟨b1, b2, b3⟩ := h2 k hk
  exact ⟨a1.trans b1, a2.trans b2, a3.trans b3⟩
def iniS (S : St) : St := sI (sJ (sJ S 3 0 0) 4 0 0) 35 0 0
/-- the reference's state behind goAcross, its stack apart -/
def gacS (S : St) (x y t : Int32) (o : Nat) : St := gaS x y t o 6 (nz (iniS S)) 0 0 0
theorem irem2 : ((3 : Int32) - 3 / 2 * 2) = nI 1 ∧ ((2 : Int32) - 2 / 2 * 2) = nI 0 ∧ ((1 : Int32) - 1 / 2 * 2) = nI 1 ∧ ((0 : Int32) - 0 / 2 * 2) = nI 0 ∧ ((3 : Int32) / 2) = nI 1 ∧ ((2 : Int32) / 2) = nI 1 ∧ ((1 : Int32) / 2) = nI 0 ∧ ((0 : Int32) / 2) = nI 0 := by decide
set_option maxRecDepth 100000 in
set_option maxHeartbeats 4000000 in
theorem mX7_goes (l : Launch) (w : Fx) (S : St) (a b c : Int32) (hw : vp_in (S.1 35 0) 80) : Ct l yX7_goes cX7_goes 4 none 0 w [.ref (aD w 23), .int a, .int b, .int c] S (fun v S' => v = none ∧ S' = goeS S a b c) := by
  refine Ct.of (by decide) (Nat.le_of_ble_eq_true rfl) (fun X h hr hl hw => ?_)
  subst hl hw
  have h : Ok X cX7_goes RX7 0 := h
  show Wx X S 0 [.ref (aD (xw X) 23), .int a, .int b, .int c] []
  refine r_aload_n 0 h dX7_goes_0 rfl rfl ?_
  refine g23_12 h lf_X7_45 dX7_goes_1 ?_
  refine r_aload_n 0 h dX7_goes_4 rfl rfl ?_
  refine g23_15 h lf_X7_150 dX7_goes_5 ?_
  refine r_iload_n 1 h dX7_goes_8 rfl rfl ?_
  show Wx _ _ 9 _ _
  refine as_34 h (show vp_in (S.1 35 0) 80 from hw) dX7_goes_9 ?_
  refine r_aload_n 0 h dX7_goes_10 rfl rfl ?_
  refine g23_13 h lf_X7_48 dX7_goes_11 ?_
  refine r_aload_n 0 h dX7_goes_14 rfl rfl ?_
  refine g23_15 h lf_X7_150 dX7_goes_15 ?_
  refine r_iload_n 2 h dX7_goes_18 rfl rfl ?_
  show Wx _ _ 19 _ _
  refine as_35 h (show vp_in (S.1 35 0) 80 from hw) dX7_goes_19 ?_
  refine r_aload_n 0 h dX7_goes_20 rfl rfl ?_
  refine g23_14 h lf_X7_51 dX7_goes_21 ?_
  refine r_aload_n 0 h dX7_goes_24 rfl rfl ?_
  refine g23_15 h lf_X7_150 dX7_goes_25 ?_
  refine r_iload_n 3 h dX7_goes_28 rfl rfl ?_
  show Wx _ _ 29 _ _
  refine as_36 h (show vp_in (S.1 35 0) 80 from hw) dX7_goes_29 ?_
  refine r_aload_n 0 h dX7_goes_30 rfl rfl ?_
  refine r_dup h dX7_goes_31 rfl ?_
  refine g23_15 h lf_X7_150 dX7_goes_32 ?_
  refine r_iconst 1 h dX7_goes_35 (by decide) ?_
  refine r_iadd h dX7_goes_36 ?_
  show Wx _ _ 37 _ _
  refine p23_15 h lf_X7_150 dX7_goes_37 ?_
  exact r_vret h hr dX7_goes_40 ⟨rfl, rfl⟩
set_option maxRecDepth 100000 in
set_option maxHeartbeats 4000000 in
theorem mX7_goAcross (l : Launch) (w : Fx) (S : St) (x y t : Int32) (o : Nat) (ho : o ≤ 4) (hw : gaN (S.1 20) (S.1 21) (S.1 22) (S.1 27 0) x y t 6 0 0 0 ≤ 80) : Ct l yX7_goAcross cX7_goAcross 12 none 3 w [.ref (aD w 23), .int x, .int y, .int (nI o), .int t] S (fun v T => v = none ∧ nz T = gacS S x y t o) := by
  refine Ct.of (by decide) (Nat.le_of_ble_eq_true rfl) (fun X h hr hl hw2 => ?_)
  subst hl hw2
  have h : Ok X cX7_goAcross RX7 3 := h
  have key : ∀ (d : Nat) (S : St) (n l i j w : Nat), l + d = 5 → i < 2 ^ l → j < 2 ^ l → n + 3 * (d + 1) ≤ 18 → S.1 29 n = nI l → S.1 30 n = nI i → S.1 31 n = nI j → S.1 35 0 = nI w → w + gaN (S.1 20) (S.1 21) (S.1 22) (S.1 27 0) x y t (d + 1) l i j ≤ 80 → (∀ T : St, nz T = gaS x y t o (d + 1) (nz S) l i j → stk T S n → Wx X T 39 [.ref (aD (xw X) 23), .int x, .int y, .int (nI o), .int t, .int (nI n), .null, .null, .null, .null, .null, .null] []) → Wx X S 39 [.ref (aD (xw X) 23), .int x, .int y, .int (nI o), .int t, .int (nI (n + 1)), .null, .null, .null, .null, .null, .null] [] := by
    intro d
    induction d with
    | zero =>
      intro S n l i j w hl hi hj hn e1 e2 e3 ew hN hk
      have hp2 := p2_lt (l := l) (by omega)
      have hG := gaS_s (x := x) (y := y) (t := t) (o := o) (d := 0) (S := nz S) (l := l) (i := i) (j := j)
      have hGN := gaN_s (hr := S.1 20) (px := S.1 21) (py := S.1 22) (mo := S.1 27 0) (x := x) (y := y) (t := t) (d := 0) (l := l) (i := i) (j := j)
      rw [hGN] at hN
      rw [hG] at hk
      clear hG hGN
      rw [nz_at (S := S) (a := 20) (by decide) (by decide) (by decide), nz_at (S := S) (a := 21) (by decide) (by decide) (by decide), nz_at (S := S) (a := 22) (by decide) (by decide) (by decide), nz_at (S := S) (a := 27) (by decide) (by decide) (by decide)] at hk
      refine r_iload h dX7_goAcross_39 rfl ?_
      refine r_if_le_f 343 h dX7_goAcross_41 (by decide) (nI_nle (by omega) (by omega)) ?_
      refine r_iinc (-1) h dX7_goAcross_44 (by decide) rfl ?_
      show Wx _ _ _ [_, _, _, _, _, .int (nI (n + 1) + (-1)), _, _, _, _, _, _] _
      rw [pk_m1]
      refine r_aload_n 0 h dX7_goAcross_47 rfl rfl ?_
      refine g23_9 h lf_X7_36 dX7_goAcross_48 ?_
      show Wx _ _ 51 _ _
      refine r_iload h dX7_goAcross_51 rfl ?_
      refine alN_31 h (by omega) dX7_goAcross_53 ?_
      rw [e1]
      refine r_istore h dX7_goAcross_54 (Nat.le_of_ble_eq_true rfl) ?_
      show Wx _ _ _ [_, _, _, _, _, _, _, _, _, _, _, _] _
      refine r_aload_n 0 h dX7_goAcross_56 rfl rfl ?_
      refine g23_10 h lf_X7_39 dX7_goAcross_57 ?_
      refine r_iload h dX7_goAcross_60 rfl ?_
      show Wx _ _ 62 _ _
      refine alN_32 h (by omega) dX7_goAcross_62 ?_
      rw [e2]
      refine r_istore h dX7_goAcross_63 (Nat.le_of_ble_eq_true rfl) ?_
      show Wx _ _ _ [_, _, _, _, _, _, _, _, _, _, _, _] _
      refine r_aload_n 0 h dX7_goAcross_65 rfl rfl ?_
      refine g23_11 h lf_X7_42 dX7_goAcross_66 ?_
      refine r_iload h dX7_goAcross_69 rfl ?_
      refine alN_33 h (by omega) dX7_goAcross_71 ?_
      show Wx _ _ 72 _ _
      rw [e3]
      refine r_istore h dX7_goAcross_72 (Nat.le_of_ble_eq_true rfl) ?_
      show Wx _ _ _ [_, _, _, _, _, _, _, _, _, _, _, _] _
      refine r_ldc2 h lc_X7_134 dX7_goAcross_74 ?_
      refine r_bipush 64 h dX7_goAcross_77 (by decide) ?_
      refine r_iload h dX7_goAcross_79 rfl ?_
      refine r_ishr h dX7_goAcross_81 ?_
      refine r_i2l h dX7_goAcross_82 ?_
      show Wx _ _ 83 _ _
      refine r_lmul h dX7_goAcross_83 ?_
      refine r_iload h dX7_goAcross_84 rfl ?_
      refine r_i2l h dX7_goAcross_86 ?_
      refine r_lmul h dX7_goAcross_87 ?_
      refine r_lstore h dX7_goAcross_88 (Nat.le_of_ble_eq_true rfl) ?_
      show Wx _ _ _ [_, _, _, _, _, _, _, _, _, _, _, _] _
      refine r_aload_n 0 h dX7_goAcross_90 rfl rfl ?_
      show Wx _ _ 91 _ _
      refine r_iload h dX7_goAcross_91 rfl ?_
      refine r_iload h dX7_goAcross_93 rfl ?_
      refine r_iload h dX7_goAcross_95 rfl ?_
      refine cV3 h (mX7_pointsIn _ _ _ (nI l) (nI i) (nI j)) kX7_pointsIn lm_X7_117 (by decide) 23 (pl_23 _ _) rfl (Nat.le_of_ble_eq_true rfl) dX7_goAcross_97 ?_
      refine r_if_le 340 h dX7_goAcross_100 (by decide) (fun c100 => ?_) (fun c100 => ?_)
      · rw [if_pos c100] at hk
        refine r_goto 39 h dX7_goAcross_340 (by decide) ?_
        exact Wx.weak (lv' := [.ref (aD (xw X) 23), .int x, .int y, .int (nI o), .int t, .int (nI n), .null, .null, .null, .null, .null, .null]) (And.intro rfl (And.intro rfl (And.intro rfl (And.intro rfl (And.intro rfl (And.intro rfl trivial)))))) (hk S rfl (fun k _ => ⟨rfl, rfl, rfl⟩))
      · refine r_ldc2 h lc_X7_134 dX7_goAcross_103 ?_
        refine r_iload_n 1 h dX7_goAcross_106 rfl rfl ?_
        refine r_i2l h dX7_goAcross_107 ?_
        refine r_lmul h dX7_goAcross_108 ?_
        refine r_iload h dX7_goAcross_109 rfl ?_
        show Wx _ _ 111 _ _
        refine r_iload h dX7_goAcross_111 rfl ?_
        refine cS2 h (mX7_middle _ _ _ (nI l) (nI i)) kX7_middle lm_X7_127 (by decide) (Nat.le_of_ble_eq_true rfl) dX7_goAcross_113 ?_
        refine r_i2l h dX7_goAcross_116 ?_
        refine r_lsub h dX7_goAcross_117 ?_
        refine cS1 h (mX7_size _ _ _ _) kX7_size lm_X7_146 (by decide) (Nat.le_of_ble_eq_true rfl) dX7_goAcross_118 ?_
        refine r_lload h dX7_goAcross_121 rfl ?_
        show Wx _ _ 123 _ _
        refine r_lc_ge 151 h dX7_goAcross_123 dX7_goAcross_124 (by decide) (fun c123 => ?_) (fun c123 => ?_)
        · have hf : ¬ mfaI x y t (nI l) (nI i) (nI j) = 0 := by
            unfold mfaI
            first | (rw [if_pos (show apL t (nI l) ≤ szL (farL x (nI l) (nI i)) from c123)]; decide) | (rw [if_neg (show ¬ apL t (nI l) ≤ szL (farL x (nI l) (nI i)) from c123), if_neg (show ¬ szL (farL y (nI l) (nI j)) < apL t (nI l) from c147)]; decide)
          rw [if_neg c100, if_neg hf] at hN
          rw [if_neg c100, if_neg hf] at hk
          refine r_aload_n 0 h dX7_goAcross_151 rfl rfl ?_
          refine r_dup h dX7_goAcross_152 rfl ?_
          refine g23_16 h lf_X7_153 dX7_goAcross_153 ?_
          refine r_aload_n 0 h dX7_goAcross_156 rfl rfl ?_
          refine r_iload h dX7_goAcross_157 rfl ?_
          show Wx _ _ 159 _ _
          refine r_iload h dX7_goAcross_159 rfl ?_
          refine r_iload h dX7_goAcross_161 rfl ?_
          refine r_iload_n 1 h dX7_goAcross_163 rfl rfl ?_
          refine r_iload_n 2 h dX7_goAcross_164 rfl rfl ?_
          refine r_iload_n 3 h dX7_goAcross_165 rfl rfl ?_
          refine cV6 h (mX7_term _ _ _ (nI l) (nI i) (nI j) x y o ho) kX7_term lm_X7_160 (by decide) 23 (pl_23 _ _) rfl (Nat.le_of_ble_eq_true rfl) dX7_goAcross_166 ?_
          show Wx _ _ 169 _ _
          refine r_ladd h dX7_goAcross_169 ?_
          refine p23_16 h lf_X7_153 dX7_goAcross_170 ?_
          refine r_aload_n 0 h dX7_goAcross_173 rfl rfl ?_
          refine r_dup h dX7_goAcross_174 rfl ?_
          refine g23_17 h lf_X7_157 dX7_goAcross_175 ?_
          refine r_aload_n 0 h dX7_goAcross_178 rfl rfl ?_
          show Wx _ _ 179 _ _
          refine r_iload h dX7_goAcross_179 rfl ?_
          refine r_iload h dX7_goAcross_181 rfl ?_
          refine r_iload h dX7_goAcross_183 rfl ?_
          refine r_iload_n 1 h dX7_goAcross_185 rfl rfl ?_
          refine r_iload_n 2 h dX7_goAcross_186 rfl rfl ?_
          refine r_iload_n 3 h dX7_goAcross_187 rfl rfl ?_
          show Wx _ _ 188 _ _
          refine cV6 h (mX7_endOf _ _ _ (nI l) (nI i) (nI j) x y o ho) kX7_endOf lm_X7_164 (by decide) 23 (pl_23 _ _) rfl (Nat.le_of_ble_eq_true rfl) dX7_goAcross_188 ?_
          refine r_ladd h dX7_goAcross_191 ?_
          refine p23_17 h lf_X7_157 dX7_goAcross_192 ?_
          refine r_aload_n 0 h dX7_goAcross_195 rfl rfl ?_
          refine r_iload h dX7_goAcross_196 rfl ?_
          refine r_iload h dX7_goAcross_198 rfl ?_
          show Wx _ _ 200 _ _
          refine r_iload h dX7_goAcross_200 rfl ?_
          refine cV3v h (mX7_goes _ _ _ _ _ _ (by show vp_in (S.1 35 0) 80; rw [ew]; exact vin (by omega))) kX7_goes lm_X7_167 (by decide) 23 (pl_23 _ _) rfl (Nat.le_of_ble_eq_true rfl) dX7_goAcross_202 ?_
          refine r_goto 340 h dX7_goAcross_205 (by decide) ?_
          refine r_goto 39 h dX7_goAcross_340 (by decide) ?_
          exact Wx.weak (lv' := [.ref (aD (xw X) 23), .int x, .int y, .int (nI o), .int t, .int (nI n), .null, .null, .null, .null, .null, .null]) (And.intro rfl (And.intro rfl (And.intro rfl (And.intro rfl (And.intro rfl (And.intro rfl trivial)))))) (hk (evB S (nI l) (nI i) (nI j) x y o) nz_evB (fun k _ => ⟨by rw [evB_ne (by decide) (by decide) (by decide) (by decide)], by rw [evB_ne (by decide) (by decide) (by decide) (by decide)], by rw [evB_ne (by decide) (by decide) (by decide) (by decide)]⟩))
        · refine r_ldc2 h lc_X7_134 dX7_goAcross_127 ?_
          refine r_iload_n 2 h dX7_goAcross_130 rfl rfl ?_
          refine r_i2l h dX7_goAcross_131 ?_
          refine r_lmul h dX7_goAcross_132 ?_
          refine r_iload h dX7_goAcross_133 rfl ?_
          show Wx _ _ 135 _ _
          refine r_iload h dX7_goAcross_135 rfl ?_
          refine cS2 h (mX7_middle _ _ _ (nI l) (nI j)) kX7_middle lm_X7_127 (by decide) (Nat.le_of_ble_eq_true rfl) dX7_goAcross_137 ?_
          refine r_i2l h dX7_goAcross_140 ?_
          refine r_lsub h dX7_goAcross_141 ?_
          refine cS1 h (mX7_size _ _ _ _) kX7_size lm_X7_146 (by decide) (Nat.le_of_ble_eq_true rfl) dX7_goAcross_142 ?_
          refine r_lload h dX7_goAcross_145 rfl ?_
          show Wx _ _ 147 _ _
          refine r_lc_lt 208 h dX7_goAcross_147 dX7_goAcross_148 (by decide) (fun c147 => ?_) (fun c147 => ?_)
          · have hf : mfaI x y t (nI l) (nI i) (nI j) = 0 := by
              unfold mfaI
              rw [if_neg (show ¬ apL t (nI l) ≤ szL (farL x (nI l) (nI i)) from c123), if_pos (show szL (farL y (nI l) (nI j)) < apL t (nI l) from c147)]
            rw [if_neg c100, if_pos hf] at hN
            rw [if_neg c100, if_pos hf] at hk
            refine r_aload_n 0 h dX7_goAcross_208 rfl rfl ?_
            refine r_iload h dX7_goAcross_209 rfl ?_
            refine r_iload h dX7_goAcross_211 rfl ?_
            refine r_iload h dX7_goAcross_213 rfl ?_
            refine cV3 h (mX7_isSplit _ _ _ (nI l) (nI i) (nI j)) kX7_isSplit lm_X7_123 (by decide) 23 (pl_23 _ _) rfl (Nat.le_of_ble_eq_true rfl) dX7_goAcross_215 ?_
            show Wx _ _ 218 _ _
            refine r_if_eq 284 h dX7_goAcross_218 (by decide) (fun c218 => ?_) (fun c218 => ?_)
            · rw [if_pos c218] at hN
              rw [if_pos c218] at hk
              have hnp : ∀ p, p ≤ 40 → npN (S.1 20) (S.1 21) (S.1 22) (nI l) (nI i) (nI j) p ≤ npN (S.1 20) (S.1 21) (S.1 22) (nI l) (nI i) (nI j) 40 := by
                intro p hp
                have step : ∀ m, npN (S.1 20) (S.1 21) (S.1 22) (nI l) (nI i) (nI j) p ≤ npN (S.1 20) (S.1 21) (S.1 22) (nI l) (nI i) (nI j) (p + m) := by
                  intro m
                  induction m with
                  | zero => exact Nat.le_refl _
                  | succ m ihm => exact Nat.le_trans ihm (Nat.le_add_right _ _)
                have := step (40 - p)
                rwa [show p + (40 - p) = 40 by omega] at this
              have lp : ∀ m p : Nat, p + m = 40 → Wx X (ppS S (nI l) (nI i) (nI j) x y p) 287 [.ref (aD (xw X) 23), .int x, .int y, .int (nI o), .int t, .int (nI n), .int (nI l), .int (nI i), .int (nI j), .null, .null, .int (nI p)] [] := by
                intro m
                induction m with
                | zero =>
                  intro p hp
                  have hp : p = 40 := by omega
                  subst hp
                  refine r_iload h dX7_goAcross_287 rfl ?_
                  refine r_bipush 40 h dX7_goAcross_289 (by decide) ?_
                  refine r_icmp_ge_t 340 h dX7_goAcross_291 (by decide) (bigT (a := 40) (by omega) (by omega)) ?_
                  refine r_goto 39 h dX7_goAcross_340 (by decide) ?_
                  exact Wx.weak (lv' := [.ref (aD (xw X) 23), .int x, .int y, .int (nI o), .int t, .int (nI n), .null, .null, .null, .null, .null, .null]) (And.intro rfl (And.intro rfl (And.intro rfl (And.intro rfl (And.intro rfl (And.intro rfl trivial)))))) (hk _ (nz_pp 40) (fun k _ => ⟨by rw [ppS_ne (by decide) (by decide) (by decide) (by decide)], by rw [ppS_ne (by decide) (by decide) (by decide) (by decide)], by rw [ppS_ne (by decide) (by decide) (by decide) (by decide)]⟩))
                | succ m ihm =>
                  intro p hp
                  have hq := ihm (p + 1) (by omega)
                  rw [ppS_s] at hq
                  have hwp := pp_w (l := nI l) (i := nI i) (j := nI j) (x := x) (y := y) ew p
                  have hnpp := hnp (p + 1) (by omega)
                  rw [npN_s p] at hnpp
                  refine r_iload h dX7_goAcross_287 rfl ?_
                  refine r_bipush 40 h dX7_goAcross_289 (by decide) ?_
                  refine r_icmp_ge_f 340 h dX7_goAcross_291 (by decide) (bigF (a := 40) (by omega) (by omega)) ?_
                  refine r_aload_n 0 h dX7_goAcross_294 rfl rfl ?_
                  refine r_iload h dX7_goAcross_295 rfl ?_
                  show Wx _ _ 297 _ _
                  refine r_iload h dX7_goAcross_297 rfl ?_
                  refine r_iload h dX7_goAcross_299 rfl ?_
                  refine r_iload h dX7_goAcross_301 rfl ?_
                  refine cV4 h (mX7_isIn _ _ _ p (nI l) (nI i) (nI j) (by omega)) kX7_isIn lm_X7_113 (by decide) 23 (pl_23 _ _) rfl (Nat.le_of_ble_eq_true rfl) dX7_goAcross_303 ?_
                  refine r_if_eq 334 h dX7_goAcross_306 (by decide) (fun c306 => ?_) (fun c306 => ?_)
                  · refine r_iincN h dX7_goAcross_334 rfl ?_
                    show Wx _ _ _ [_, _, _, _, _, _, _, _, _, _, _, _] _
                    refine r_goto 287 h dX7_goAcross_337 (by decide) ?_
                    first | (rw [if_pos c306] at hq; exact hq) | (rw [if_neg c306] at hq; exact hq)
                  · have c7 := c306
                    rw [ppS_ne (k := 20) (by decide) (by decide) (by decide) (by decide), ppS_ne (k := 21) (by decide) (by decide) (by decide) (by decide), ppS_ne (k := 22) (by decide) (by decide) (by decide) (by decide)] at c7
                    rw [if_neg c7] at hnpp
                    refine r_aload_n 0 h dX7_goAcross_309 rfl rfl ?_
                    refine r_dup h dX7_goAcross_310 rfl ?_
                    refine g23_16 h lf_X7_153 dX7_goAcross_311 ?_
                    refine r_aload_n 0 h dX7_goAcross_314 rfl rfl ?_
                    refine r_iload h dX7_goAcross_315 rfl ?_
                    show Wx _ _ 317 _ _
                    refine r_iload_n 1 h dX7_goAcross_317 rfl rfl ?_
                    refine r_iload_n 2 h dX7_goAcross_318 rfl rfl ?_
                    refine cV3 h (mX7_pull _ _ _ p x y (by omega)) kX7_pull lm_X7_103 (by decide) 23 (pl_23 _ _) rfl (Nat.le_of_ble_eq_true rfl) dX7_goAcross_319 ?_
                    refine r_ladd h dX7_goAcross_322 ?_
                    refine p23_16 h lf_X7_153 dX7_goAcross_323 ?_
                    refine r_aload_n 0 h dX7_goAcross_326 rfl rfl ?_
                    show Wx _ _ 327 _ _
                    refine r_iconst (-1) h dX7_goAcross_327 (by decide) ?_
                    refine r_iload h dX7_goAcross_328 rfl ?_
                    refine r_iconst (-1) h dX7_goAcross_330 (by decide) ?_
                    refine cV3v h (mX7_goes _ _ _ (-1) (nI p) (-1) (by show vp_in ((ppS S (nI l) (nI i) (nI j) x y p).1 35 0) 80; rw [hwp]; exact vin (by omega))) kX7_goes lm_X7_167 (by decide) 23 (pl_23 _ _) rfl (Nat.le_of_ble_eq_true rfl) dX7_goAcross_331 ?_
                    refine r_iincN h dX7_goAcross_334 rfl ?_
                    show Wx _ _ _ [_, _, _, _, _, _, _, _, _, _, _, _] _
                    refine r_goto 287 h dX7_goAcross_337 (by decide) ?_
                    first | (rw [if_pos c306] at hq; exact hq) | (rw [if_neg c306] at hq; exact hq)
              refine r_iconst 0 h dX7_goAcross_284 (by decide) ?_
              refine r_istore h dX7_goAcross_285 (Nat.le_of_ble_eq_true rfl) ?_
              show Wx _ _ _ [_, _, _, _, _, _, _, _, _, _, _, _] _
              exact Wx.weak (lv' := [.ref (aD (xw X) 23), .int x, .int y, .int (nI o), .int t, .int (nI n), .int (nI l), .int (nI i), .int (nI j), .null, .null, .int (nI 0)]) (And.intro rfl (And.intro rfl (And.intro rfl (And.intro rfl (And.intro rfl (And.intro rfl (And.intro rfl (And.intro rfl (And.intro rfl (And.intro rfl trivial)))))))))) (lp 40 0 rfl)
            · have hl5 : l = 5 := by omega
              subst hl5
              exact absurd msp_5 c218
          · have hf : ¬ mfaI x y t (nI l) (nI i) (nI j) = 0 := by
              unfold mfaI
              first | (rw [if_pos (show apL t (nI l) ≤ szL (farL x (nI l) (nI i)) from c123)]; decide) | (rw [if_neg (show ¬ apL t (nI l) ≤ szL (farL x (nI l) (nI i)) from c123), if_neg (show ¬ szL (farL y (nI l) (nI j)) < apL t (nI l) from c147)]; decide)
            rw [if_neg c100, if_neg hf] at hN
            rw [if_neg c100, if_neg hf] at hk
            refine r_aload_n 0 h dX7_goAcross_151 rfl rfl ?_
            refine r_dup h dX7_goAcross_152 rfl ?_
            refine g23_16 h lf_X7_153 dX7_goAcross_153 ?_
            refine r_aload_n 0 h dX7_goAcross_156 rfl rfl ?_
            refine r_iload h dX7_goAcross_157 rfl ?_
            show Wx _ _ 159 _ _
            refine r_iload h dX7_goAcross_159 rfl ?_
            refine r_iload h dX7_goAcross_161 rfl ?_
            refine r_iload_n 1 h dX7_goAcross_163 rfl rfl ?_
            refine r_iload_n 2 h dX7_goAcross_164 rfl rfl ?_
            refine r_iload_n 3 h dX7_goAcross_165 rfl rfl ?_
            refine cV6 h (mX7_term _ _ _ (nI l) (nI i) (nI j) x y o ho) kX7_term lm_X7_160 (by decide) 23 (pl_23 _ _) rfl (Nat.le_of_ble_eq_true rfl) dX7_goAcross_166 ?_
            show Wx _ _ 169 _ _
            refine r_ladd h dX7_goAcross_169 ?_
            refine p23_16 h lf_X7_153 dX7_goAcross_170 ?_
            refine r_aload_n 0 h dX7_goAcross_173 rfl rfl ?_
            refine r_dup h dX7_goAcross_174 rfl ?_
            refine g23_17 h lf_X7_157 dX7_goAcross_175 ?_
            refine r_aload_n 0 h dX7_goAcross_178 rfl rfl ?_
            show Wx _ _ 179 _ _
            refine r_iload h dX7_goAcross_179 rfl ?_
            refine r_iload h dX7_goAcross_181 rfl ?_
            refine r_iload h dX7_goAcross_183 rfl ?_
            refine r_iload_n 1 h dX7_goAcross_185 rfl rfl ?_
            refine r_iload_n 2 h dX7_goAcross_186 rfl rfl ?_
            refine r_iload_n 3 h dX7_goAcross_187 rfl rfl ?_
            show Wx _ _ 188 _ _
            refine cV6 h (mX7_endOf _ _ _ (nI l) (nI i) (nI j) x y o ho) kX7_endOf lm_X7_164 (by decide) 23 (pl_23 _ _) rfl (Nat.le_of_ble_eq_true rfl) dX7_goAcross_188 ?_
            refine r_ladd h dX7_goAcross_191 ?_
            refine p23_17 h lf_X7_157 dX7_goAcross_192 ?_
            refine r_aload_n 0 h dX7_goAcross_195 rfl rfl ?_
            refine r_iload h dX7_goAcross_196 rfl ?_
            refine r_iload h dX7_goAcross_198 rfl ?_
            show Wx _ _ 200 _ _
            refine r_iload h dX7_goAcross_200 rfl ?_
            refine cV3v h (mX7_goes _ _ _ _ _ _ (by show vp_in (S.1 35 0) 80; rw [ew]; exact vin (by omega))) kX7_goes lm_X7_167 (by decide) 23 (pl_23 _ _) rfl (Nat.le_of_ble_eq_true rfl) dX7_goAcross_202 ?_
            refine r_goto 340 h dX7_goAcross_205 (by decide) ?_
            refine r_goto 39 h dX7_goAcross_340 (by decide) ?_
            exact Wx.weak (lv' := [.ref (aD (xw X) 23), .int x, .int y, .int (nI o), .int t, .int (nI n), .null, .null, .null, .null, .null, .null]) (And.intro rfl (And.intro rfl (And.intro rfl (And.intro rfl (And.intro rfl (And.intro rfl trivial)))))) (hk (evB S (nI l) (nI i) (nI j) x y o) nz_evB (fun k _ => ⟨by rw [evB_ne (by decide) (by decide) (by decide) (by decide)], by rw [evB_ne (by decide) (by decide) (by decide) (by decide)], by rw [evB_ne (by decide) (by decide) (by decide) (by decide)]⟩))
    | succ d ih =>
      intro S n l i j w hl hi hj hn e1 e2 e3 ew hN hk
      have hp2 := p2_lt (l := l) (by omega)
      have hG := gaS_s (x := x) (y := y) (t := t) (o := o) (d := (d + 1)) (S := nz S) (l := l) (i := i) (j := j)
      have hGN := gaN_s (hr := S.1 20) (px := S.1 21) (py := S.1 22) (mo := S.1 27 0) (x := x) (y := y) (t := t) (d := (d + 1)) (l := l) (i := i) (j := j)
      rw [hGN] at hN
      rw [hG] at hk
      clear hG hGN
      rw [nz_at (S := S) (a := 20) (by decide) (by decide) (by decide), nz_at (S := S) (a := 21) (by decide) (by decide) (by decide), nz_at (S := S) (a := 22) (by decide) (by decide) (by decide), nz_at (S := S) (a := 27) (by decide) (by decide) (by decide)] at hk
      refine r_iload h dX7_goAcross_39 rfl ?_
      refine r_if_le_f 343 h dX7_goAcross_41 (by decide) (nI_nle (by omega) (by omega)) ?_
      refine r_iinc (-1) h dX7_goAcross_44 (by decide) rfl ?_
      show Wx _ _ _ [_, _, _, _, _, .int (nI (n + 1) + (-1)), _, _, _, _, _, _] _
      rw [pk_m1]
      refine r_aload_n 0 h dX7_goAcross_47 rfl rfl ?_
      refine g23_9 h lf_X7_36 dX7_goAcross_48 ?_
      show Wx _ _ 51 _ _
      refine r_iload h dX7_goAcross_51 rfl ?_
      refine alN_31 h (by omega) dX7_goAcross_53 ?_
      rw [e1]
      refine r_istore h dX7_goAcross_54 (Nat.le_of_ble_eq_true rfl) ?_
      show Wx _ _ _ [_, _, _, _, _, _, _, _, _, _, _, _] _
      refine r_aload_n 0 h dX7_goAcross_56 rfl rfl ?_
      refine g23_10 h lf_X7_39 dX7_goAcross_57 ?_
      refine r_iload h dX7_goAcross_60 rfl ?_
      show Wx _ _ 62 _ _
      refine alN_32 h (by omega) dX7_goAcross_62 ?_
      rw [e2]
      refine r_istore h dX7_goAcross_63 (Nat.le_of_ble_eq_true rfl) ?_
      show Wx _ _ _ [_, _, _, _, _, _, _, _, _, _, _, _] _
      refine r_aload_n 0 h dX7_goAcross_65 rfl rfl ?_
      refine g23_11 h lf_X7_42 dX7_goAcross_66 ?_
      refine r_iload h dX7_goAcross_69 rfl ?_
      refine alN_33 h (by omega) dX7_goAcross_71 ?_
      show Wx _ _ 72 _ _
      rw [e3]
      refine r_istore h dX7_goAcross_72 (Nat.le_of_ble_eq_true rfl) ?_
      show Wx _ _ _ [_, _, _, _, _, _, _, _, _, _, _, _] _
      refine r_ldc2 h lc_X7_134 dX7_goAcross_74 ?_
      refine r_bipush 64 h dX7_goAcross_77 (by decide) ?_
      refine r_iload h dX7_goAcross_79 rfl ?_
      refine r_ishr h dX7_goAcross_81 ?_
      refine r_i2l h dX7_goAcross_82 ?_
      show Wx _ _ 83 _ _
      refine r_lmul h dX7_goAcross_83 ?_
      refine r_iload h dX7_goAcross_84 rfl ?_
      refine r_i2l h dX7_goAcross_86 ?_
      refine r_lmul h dX7_goAcross_87 ?_
      refine r_lstore h dX7_goAcross_88 (Nat.le_of_ble_eq_true rfl) ?_
      show Wx _ _ _ [_, _, _, _, _, _, _, _, _, _, _, _] _
      refine r_aload_n 0 h dX7_goAcross_90 rfl rfl ?_
      show Wx _ _ 91 _ _
      refine r_iload h dX7_goAcross_91 rfl ?_
      refine r_iload h dX7_goAcross_93 rfl ?_
      refine r_iload h dX7_goAcross_95 rfl ?_
      refine cV3 h (mX7_pointsIn _ _ _ (nI l) (nI i) (nI j)) kX7_pointsIn lm_X7_117 (by decide) 23 (pl_23 _ _) rfl (Nat.le_of_ble_eq_true rfl) dX7_goAcross_97 ?_
      refine r_if_le 340 h dX7_goAcross_100 (by decide) (fun c100 => ?_) (fun c100 => ?_)
      · rw [if_pos c100] at hk
        refine r_goto 39 h dX7_goAcross_340 (by decide) ?_
        exact Wx.weak (lv' := [.ref (aD (xw X) 23), .int x, .int y, .int (nI o), .int t, .int (nI n), .null, .null, .null, .null, .null, .null]) (And.intro rfl (And.intro rfl (And.intro rfl (And.intro rfl (And.intro rfl (And.intro rfl trivial)))))) (hk S rfl (fun k _ => ⟨rfl, rfl, rfl⟩))
      · refine r_ldc2 h lc_X7_134 dX7_goAcross_103 ?_
        refine r_iload_n 1 h dX7_goAcross_106 rfl rfl ?_
        refine r_i2l h dX7_goAcross_107 ?_
        refine r_lmul h dX7_goAcross_108 ?_
        refine r_iload h dX7_goAcross_109 rfl ?_
        show Wx _ _ 111 _ _
        refine r_iload h dX7_goAcross_111 rfl ?_
        refine cS2 h (mX7_middle _ _ _ (nI l) (nI i)) kX7_middle lm_X7_127 (by decide) (Nat.le_of_ble_eq_true rfl) dX7_goAcross_113 ?_
        refine r_i2l h dX7_goAcross_116 ?_
        refine r_lsub h dX7_goAcross_117 ?_
        refine cS1 h (mX7_size _ _ _ _) kX7_size lm_X7_146 (by decide) (Nat.le_of_ble_eq_true rfl) dX7_goAcross_118 ?_
        refine r_lload h dX7_goAcross_121 rfl ?_
        show Wx _ _ 123 _ _
        refine r_lc_ge 151 h dX7_goAcross_123 dX7_goAcross_124 (by decide) (fun c123 => ?_) (fun c123 => ?_)
        · have hf : ¬ mfaI x y t (nI l) (nI i) (nI j) = 0 := by
            unfold mfaI
            first | (rw [if_pos (show apL t (nI l) ≤ szL (farL x (nI l) (nI i)) from c123)]; decide) | (rw [if_neg (show ¬ apL t (nI l) ≤ szL (farL x (nI l) (nI i)) from c123), if_neg (show ¬ szL (farL y (nI l) (nI j)) < apL t (nI l) from c147)]; decide)
          rw [if_neg c100, if_neg hf] at hN
          rw [if_neg c100, if_neg hf] at hk
          refine r_aload_n 0 h dX7_goAcross_151 rfl rfl ?_
          refine r_dup h dX7_goAcross_152 rfl ?_
          refine g23_16 h lf_X7_153 dX7_goAcross_153 ?_
          refine r_aload_n 0 h dX7_goAcross_156 rfl rfl ?_
          refine r_iload h dX7_goAcross_157 rfl ?_
          show Wx _ _ 159 _ _
          refine r_iload h dX7_goAcross_159 rfl ?_
          refine r_iload h dX7_goAcross_161 rfl ?_
          refine r_iload_n 1 h dX7_goAcross_163 rfl rfl ?_
          refine r_iload_n 2 h dX7_goAcross_164 rfl rfl ?_
          refine r_iload_n 3 h dX7_goAcross_165 rfl rfl ?_
          refine cV6 h (mX7_term _ _ _ (nI l) (nI i) (nI j) x y o ho) kX7_term lm_X7_160 (by decide) 23 (pl_23 _ _) rfl (Nat.le_of_ble_eq_true rfl) dX7_goAcross_166 ?_
          show Wx _ _ 169 _ _
          refine r_ladd h dX7_goAcross_169 ?_
          refine p23_16 h lf_X7_153 dX7_goAcross_170 ?_
          refine r_aload_n 0 h dX7_goAcross_173 rfl rfl ?_
          refine r_dup h dX7_goAcross_174 rfl ?_
          refine g23_17 h lf_X7_157 dX7_goAcross_175 ?_
          refine r_aload_n 0 h dX7_goAcross_178 rfl rfl ?_
          show Wx _ _ 179 _ _
          refine r_iload h dX7_goAcross_179 rfl ?_
          refine r_iload h dX7_goAcross_181 rfl ?_
          refine r_iload h dX7_goAcross_183 rfl ?_
          refine r_iload_n 1 h dX7_goAcross_185 rfl rfl ?_
          refine r_iload_n 2 h dX7_goAcross_186 rfl rfl ?_
          refine r_iload_n 3 h dX7_goAcross_187 rfl rfl ?_
          show Wx _ _ 188 _ _
          refine cV6 h (mX7_endOf _ _ _ (nI l) (nI i) (nI j) x y o ho) kX7_endOf lm_X7_164 (by decide) 23 (pl_23 _ _) rfl (Nat.le_of_ble_eq_true rfl) dX7_goAcross_188 ?_
          refine r_ladd h dX7_goAcross_191 ?_
          refine p23_17 h lf_X7_157 dX7_goAcross_192 ?_
          refine r_aload_n 0 h dX7_goAcross_195 rfl rfl ?_
          refine r_iload h dX7_goAcross_196 rfl ?_
          refine r_iload h dX7_goAcross_198 rfl ?_
          show Wx _ _ 200 _ _
          refine r_iload h dX7_goAcross_200 rfl ?_
          refine cV3v h (mX7_goes _ _ _ _ _ _ (by show vp_in (S.1 35 0) 80; rw [ew]; exact vin (by omega))) kX7_goes lm_X7_167 (by decide) 23 (pl_23 _ _) rfl (Nat.le_of_ble_eq_true rfl) dX7_goAcross_202 ?_
          refine r_goto 340 h dX7_goAcross_205 (by decide) ?_
          refine r_goto 39 h dX7_goAcross_340 (by decide) ?_
          exact Wx.weak (lv' := [.ref (aD (xw X) 23), .int x, .int y, .int (nI o), .int t, .int (nI n), .null, .null, .null, .null, .null, .null]) (And.intro rfl (And.intro rfl (And.intro rfl (And.intro rfl (And.intro rfl (And.intro rfl trivial)))))) (hk (evB S (nI l) (nI i) (nI j) x y o) nz_evB (fun k _ => ⟨by rw [evB_ne (by decide) (by decide) (by decide) (by decide)], by rw [evB_ne (by decide) (by decide) (by decide) (by decide)], by rw [evB_ne (by decide) (by decide) (by decide) (by decide)]⟩))
        · refine r_ldc2 h lc_X7_134 dX7_goAcross_127 ?_
          refine r_iload_n 2 h dX7_goAcross_130 rfl rfl ?_
          refine r_i2l h dX7_goAcross_131 ?_
          refine r_lmul h dX7_goAcross_132 ?_
          refine r_iload h dX7_goAcross_133 rfl ?_
          show Wx _ _ 135 _ _
          refine r_iload h dX7_goAcross_135 rfl ?_
          refine cS2 h (mX7_middle _ _ _ (nI l) (nI j)) kX7_middle lm_X7_127 (by decide) (Nat.le_of_ble_eq_true rfl) dX7_goAcross_137 ?_
          refine r_i2l h dX7_goAcross_140 ?_
          refine r_lsub h dX7_goAcross_141 ?_
          refine cS1 h (mX7_size _ _ _ _) kX7_size lm_X7_146 (by decide) (Nat.le_of_ble_eq_true rfl) dX7_goAcross_142 ?_
          refine r_lload h dX7_goAcross_145 rfl ?_
          show Wx _ _ 147 _ _
          refine r_lc_lt 208 h dX7_goAcross_147 dX7_goAcross_148 (by decide) (fun c147 => ?_) (fun c147 => ?_)
          · have hf : mfaI x y t (nI l) (nI i) (nI j) = 0 := by
              unfold mfaI
              rw [if_neg (show ¬ apL t (nI l) ≤ szL (farL x (nI l) (nI i)) from c123), if_pos (show szL (farL y (nI l) (nI j)) < apL t (nI l) from c147)]
            rw [if_neg c100, if_pos hf] at hN
            rw [if_neg c100, if_pos hf] at hk
            refine r_aload_n 0 h dX7_goAcross_208 rfl rfl ?_
            refine r_iload h dX7_goAcross_209 rfl ?_
            refine r_iload h dX7_goAcross_211 rfl ?_
            refine r_iload h dX7_goAcross_213 rfl ?_
            refine cV3 h (mX7_isSplit _ _ _ (nI l) (nI i) (nI j)) kX7_isSplit lm_X7_123 (by decide) 23 (pl_23 _ _) rfl (Nat.le_of_ble_eq_true rfl) dX7_goAcross_215 ?_
            show Wx _ _ 218 _ _
            refine r_if_eq 284 h dX7_goAcross_218 (by decide) (fun c218 => ?_) (fun c218 => ?_)
            · rw [if_pos c218] at hN
              rw [if_pos c218] at hk
              have hnp : ∀ p, p ≤ 40 → npN (S.1 20) (S.1 21) (S.1 22) (nI l) (nI i) (nI j) p ≤ npN (S.1 20) (S.1 21) (S.1 22) (nI l) (nI i) (nI j) 40 := by
                intro p hp
                have step : ∀ m, npN (S.1 20) (S.1 21) (S.1 22) (nI l) (nI i) (nI j) p ≤ npN (S.1 20) (S.1 21) (S.1 22) (nI l) (nI i) (nI j) (p + m) := by
                  intro m
                  induction m with
                  | zero => exact Nat.le_refl _
                  | succ m ihm => exact Nat.le_trans ihm (Nat.le_add_right _ _)
                have := step (40 - p)
                rwa [show p + (40 - p) = 40 by omega] at this
              have lp : ∀ m p : Nat, p + m = 40 → Wx X (ppS S (nI l) (nI i) (nI j) x y p) 287 [.ref (aD (xw X) 23), .int x, .int y, .int (nI o), .int t, .int (nI n), .int (nI l), .int (nI i), .int (nI j), .null, .null, .int (nI p)] [] := by
                intro m
                induction m with
                | zero =>
                  intro p hp
                  have hp : p = 40 := by omega
                  subst hp
                  refine r_iload h dX7_goAcross_287 rfl ?_
                  refine r_bipush 40 h dX7_goAcross_289 (by decide) ?_
                  refine r_icmp_ge_t 340 h dX7_goAcross_291 (by decide) (bigT (a := 40) (by omega) (by omega)) ?_
                  refine r_goto 39 h dX7_goAcross_340 (by decide) ?_
                  exact Wx.weak (lv' := [.ref (aD (xw X) 23), .int x, .int y, .int (nI o), .int t, .int (nI n), .null, .null, .null, .null, .null, .null]) (And.intro rfl (And.intro rfl (And.intro rfl (And.intro rfl (And.intro rfl (And.intro rfl trivial)))))) (hk _ (nz_pp 40) (fun k _ => ⟨by rw [ppS_ne (by decide) (by decide) (by decide) (by decide)], by rw [ppS_ne (by decide) (by decide) (by decide) (by decide)], by rw [ppS_ne (by decide) (by decide) (by decide) (by decide)]⟩))
                | succ m ihm =>
                  intro p hp
                  have hq := ihm (p + 1) (by omega)
                  rw [ppS_s] at hq
                  have hwp := pp_w (l := nI l) (i := nI i) (j := nI j) (x := x) (y := y) ew p
                  have hnpp := hnp (p + 1) (by omega)
                  rw [npN_s p] at hnpp
                  refine r_iload h dX7_goAcross_287 rfl ?_
                  refine r_bipush 40 h dX7_goAcross_289 (by decide) ?_
                  refine r_icmp_ge_f 340 h dX7_goAcross_291 (by decide) (bigF (a := 40) (by omega) (by omega)) ?_
                  refine r_aload_n 0 h dX7_goAcross_294 rfl rfl ?_
                  refine r_iload h dX7_goAcross_295 rfl ?_
                  show Wx _ _ 297 _ _
                  refine r_iload h dX7_goAcross_297 rfl ?_
                  refine r_iload h dX7_goAcross_299 rfl ?_
                  refine r_iload h dX7_goAcross_301 rfl ?_
                  refine cV4 h (mX7_isIn _ _ _ p (nI l) (nI i) (nI j) (by omega)) kX7_isIn lm_X7_113 (by decide) 23 (pl_23 _ _) rfl (Nat.le_of_ble_eq_true rfl) dX7_goAcross_303 ?_
                  refine r_if_eq 334 h dX7_goAcross_306 (by decide) (fun c306 => ?_) (fun c306 => ?_)
                  · refine r_iincN h dX7_goAcross_334 rfl ?_
                    show Wx _ _ _ [_, _, _, _, _, _, _, _, _, _, _, _] _
                    refine r_goto 287 h dX7_goAcross_337 (by decide) ?_
                    first | (rw [if_pos c306] at hq; exact hq) | (rw [if_neg c306] at hq; exact hq)
                  · have c7 := c306
                    rw [ppS_ne (k := 20) (by decide) (by decide) (by decide) (by decide), ppS_ne (k := 21) (by decide) (by decide) (by decide) (by decide), ppS_ne (k := 22) (by decide) (by decide) (by decide) (by decide)] at c7
                    rw [if_neg c7] at hnpp
                    refine r_aload_n 0 h dX7_goAcross_309 rfl rfl ?_
                    refine r_dup h dX7_goAcross_310 rfl ?_
                    refine g23_16 h lf_X7_153 dX7_goAcross_311 ?_
                    refine r_aload_n 0 h dX7_goAcross_314 rfl rfl ?_
                    refine r_iload h dX7_goAcross_315 rfl ?_
                    show Wx _ _ 317 _ _
                    refine r_iload_n 1 h dX7_goAcross_317 rfl rfl ?_
                    refine r_iload_n 2 h dX7_goAcross_318 rfl rfl ?_
                    refine cV3 h (mX7_pull _ _ _ p x y (by omega)) kX7_pull lm_X7_103 (by decide) 23 (pl_23 _ _) rfl (Nat.le_of_ble_eq_true rfl) dX7_goAcross_319 ?_
                    refine r_ladd h dX7_goAcross_322 ?_
                    refine p23_16 h lf_X7_153 dX7_goAcross_323 ?_
                    refine r_aload_n 0 h dX7_goAcross_326 rfl rfl ?_
                    show Wx _ _ 327 _ _
                    refine r_iconst (-1) h dX7_goAcross_327 (by decide) ?_
                    refine r_iload h dX7_goAcross_328 rfl ?_
                    refine r_iconst (-1) h dX7_goAcross_330 (by decide) ?_
                    refine cV3v h (mX7_goes _ _ _ (-1) (nI p) (-1) (by show vp_in ((ppS S (nI l) (nI i) (nI j) x y p).1 35 0) 80; rw [hwp]; exact vin (by omega))) kX7_goes lm_X7_167 (by decide) 23 (pl_23 _ _) rfl (Nat.le_of_ble_eq_true rfl) dX7_goAcross_331 ?_
                    refine r_iincN h dX7_goAcross_334 rfl ?_
                    show Wx _ _ _ [_, _, _, _, _, _, _, _, _, _, _, _] _
                    refine r_goto 287 h dX7_goAcross_337 (by decide) ?_
                    first | (rw [if_pos c306] at hq; exact hq) | (rw [if_neg c306] at hq; exact hq)
              refine r_iconst 0 h dX7_goAcross_284 (by decide) ?_
              refine r_istore h dX7_goAcross_285 (Nat.le_of_ble_eq_true rfl) ?_
              show Wx _ _ _ [_, _, _, _, _, _, _, _, _, _, _, _] _
              exact Wx.weak (lv' := [.ref (aD (xw X) 23), .int x, .int y, .int (nI o), .int t, .int (nI n), .int (nI l), .int (nI i), .int (nI j), .null, .null, .int (nI 0)]) (And.intro rfl (And.intro rfl (And.intro rfl (And.intro rfl (And.intro rfl (And.intro rfl (And.intro rfl (And.intro rfl (And.intro rfl (And.intro rfl trivial)))))))))) (lp 40 0 rfl)
            · rw [if_neg c218] at hN
              rw [if_neg c218] at hk
              refine r_iconst 3 h dX7_goAcross_221 (by decide) ?_
              refine r_istore h dX7_goAcross_222 (Nat.le_of_ble_eq_true rfl) ?_
              show Wx _ _ _ [_, _, _, _, _, _, _, _, _, _, _, _] _
              refine r_iload h dX7_goAcross_224 rfl ?_
              refine r_if_lt_f 281 h dX7_goAcross_226 (by decide) (by decide) ?_
              refine r_aload_n 0 h dX7_goAcross_229 rfl rfl ?_
              refine g23_9 h lf_X7_36 dX7_goAcross_230 ?_
              refine r_iload h dX7_goAcross_233 rfl ?_
              show Wx _ _ 235 _ _
              refine r_iload h dX7_goAcross_235 rfl ?_
              refine r_iconst 1 h dX7_goAcross_237 (by decide) ?_
              refine r_iadd h dX7_goAcross_238 ?_
              rw [nI_1]
              refine asN_31 h (by omega) dX7_goAcross_239 ?_
              refine r_aload_n 0 h dX7_goAcross_240 rfl rfl ?_
              refine g23_10 h lf_X7_39 dX7_goAcross_241 ?_
              show Wx _ _ 244 _ _
              refine r_iload h dX7_goAcross_244 rfl ?_
              refine r_iconst 2 h dX7_goAcross_246 (by decide) ?_
              refine r_iload h dX7_goAcross_247 rfl ?_
              refine r_imul h dX7_goAcross_249 ?_
              refine r_iload h dX7_goAcross_250 rfl ?_
              refine r_iconst 2 h dX7_goAcross_252 (by decide) ?_
              show Wx _ _ 253 _ _
              refine r_irem h dX7_goAcross_253 (by decide) ?_
              refine r_iadd h dX7_goAcross_254 ?_
              rw [nI_2, show ((3 : Int32) - 3 / 2 * 2) = nI 1 from by decide, nI_add]
              refine asN_32 h (by omega) dX7_goAcross_255 ?_
              refine r_aload_n 0 h dX7_goAcross_256 rfl rfl ?_
              refine g23_11 h lf_X7_42 dX7_goAcross_257 ?_
              refine r_iload h dX7_goAcross_260 rfl ?_
              show Wx _ _ 262 _ _
              refine r_iconst 2 h dX7_goAcross_262 (by decide) ?_
              refine r_iload h dX7_goAcross_263 rfl ?_
              refine r_imul h dX7_goAcross_265 ?_
              refine r_iload h dX7_goAcross_266 rfl ?_
              refine r_iconst 2 h dX7_goAcross_268 (by decide) ?_
              refine r_idiv h dX7_goAcross_269 (by decide) ?_
              show Wx _ _ 270 _ _
              refine r_iadd h dX7_goAcross_270 ?_
              rw [nI_2, show ((3 : Int32) / 2) = nI 1 from by decide, nI_add]
              refine asN_33 h (by omega) dX7_goAcross_271 ?_
              refine r_iincN h dX7_goAcross_272 rfl ?_
              show Wx _ _ _ [_, _, _, _, _, _, _, _, _, _, _, _] _
              refine r_iinc (-1) h dX7_goAcross_275 (by decide) rfl ?_
              show Wx _ _ _ [_, _, _, _, _, _, _, _, _, _, _, .int (3 + (-1))] _
              rw [show (3 : Int32) + (-1) = 2 from by decide]
              refine r_goto 224 h dX7_goAcross_278 (by decide) ?_
              show Wx _ (psh (S) (n) (nI (l + 1)) (nI (2 * i + 1)) (nI (2 * j + 1))) 224 _ _
              refine r_iload h dX7_goAcross_224 rfl ?_
              refine r_if_lt_f 281 h dX7_goAcross_226 (by decide) (by decide) ?_
              refine r_aload_n 0 h dX7_goAcross_229 rfl rfl ?_
              refine g23_9 h lf_X7_36 dX7_goAcross_230 ?_
              refine r_iload h dX7_goAcross_233 rfl ?_
              show Wx _ _ 235 _ _
              refine r_iload h dX7_goAcross_235 rfl ?_
              refine r_iconst 1 h dX7_goAcross_237 (by decide) ?_
              refine r_iadd h dX7_goAcross_238 ?_
              rw [nI_1]
              refine asN_31 h (by omega) dX7_goAcross_239 ?_
              refine r_aload_n 0 h dX7_goAcross_240 rfl rfl ?_
              refine g23_10 h lf_X7_39 dX7_goAcross_241 ?_
              show Wx _ _ 244 _ _
              refine r_iload h dX7_goAcross_244 rfl ?_
              refine r_iconst 2 h dX7_goAcross_246 (by decide) ?_
              refine r_iload h dX7_goAcross_247 rfl ?_
              refine r_imul h dX7_goAcross_249 ?_
              refine r_iload h dX7_goAcross_250 rfl ?_
              refine r_iconst 2 h dX7_goAcross_252 (by decide) ?_
              show Wx _ _ 253 _ _
              refine r_irem h dX7_goAcross_253 (by decide) ?_
              refine r_iadd h dX7_goAcross_254 ?_
              rw [nI_2, show ((2 : Int32) - 2 / 2 * 2) = nI 0 from by decide, nI_add]
              refine asN_32 h (by omega) dX7_goAcross_255 ?_
              refine r_aload_n 0 h dX7_goAcross_256 rfl rfl ?_
              refine g23_11 h lf_X7_42 dX7_goAcross_257 ?_
              refine r_iload h dX7_goAcross_260 rfl ?_
              show Wx _ _ 262 _ _
              refine r_iconst 2 h dX7_goAcross_262 (by decide) ?_
              refine r_iload h dX7_goAcross_263 rfl ?_
              refine r_imul h dX7_goAcross_265 ?_
              refine r_iload h dX7_goAcross_266 rfl ?_
              refine r_iconst 2 h dX7_goAcross_268 (by decide) ?_
              refine r_idiv h dX7_goAcross_269 (by decide) ?_
              show Wx _ _ 270 _ _
              refine r_iadd h dX7_goAcross_270 ?_
              rw [nI_2, show ((2 : Int32) / 2) = nI 1 from by decide, nI_add]
              refine asN_33 h (by omega) dX7_goAcross_271 ?_
              refine r_iincN h dX7_goAcross_272 rfl ?_
              show Wx _ _ _ [_, _, _, _, _, _, _, _, _, _, _, _] _
              refine r_iinc (-1) h dX7_goAcross_275 (by decide) rfl ?_
              show Wx _ _ _ [_, _, _, _, _, _, _, _, _, _, _, .int (2 + (-1))] _
              rw [show (2 : Int32) + (-1) = 1 from by decide]
              refine r_goto 224 h dX7_goAcross_278 (by decide) ?_
              show Wx _ (psh (psh (S) (n) (nI (l + 1)) (nI (2 * i + 1)) (nI (2 * j + 1))) (n + 1) (nI (l + 1)) (nI (2 * i + 0)) (nI (2 * j + 1))) 224 _ _
              refine r_iload h dX7_goAcross_224 rfl ?_
              refine r_if_lt_f 281 h dX7_goAcross_226 (by decide) (by decide) ?_
              refine r_aload_n 0 h dX7_goAcross_229 rfl rfl ?_
              refine g23_9 h lf_X7_36 dX7_goAcross_230 ?_
              refine r_iload h dX7_goAcross_233 rfl ?_
              show Wx _ _ 235 _ _
              refine r_iload h dX7_goAcross_235 rfl ?_
              refine r_iconst 1 h dX7_goAcross_237 (by decide) ?_
              refine r_iadd h dX7_goAcross_238 ?_
              rw [nI_1]
              refine asN_31 h (by omega) dX7_goAcross_239 ?_
              refine r_aload_n 0 h dX7_goAcross_240 rfl rfl ?_
              refine g23_10 h lf_X7_39 dX7_goAcross_241 ?_
              show Wx _ _ 244 _ _
              refine r_iload h dX7_goAcross_244 rfl ?_
              refine r_iconst 2 h dX7_goAcross_246 (by decide) ?_
              refine r_iload h dX7_goAcross_247 rfl ?_
              refine r_imul h dX7_goAcross_249 ?_
              refine r_iload h dX7_goAcross_250 rfl ?_
              refine r_iconst 2 h dX7_goAcross_252 (by decide) ?_
              show Wx _ _ 253 _ _
              refine r_irem h dX7_goAcross_253 (by decide) ?_
              refine r_iadd h dX7_goAcross_254 ?_
              rw [nI_2, show ((1 : Int32) - 1 / 2 * 2) = nI 1 from by decide, nI_add]
              refine asN_32 h (by omega) dX7_goAcross_255 ?_
              refine r_aload_n 0 h dX7_goAcross_256 rfl rfl ?_
              refine g23_11 h lf_X7_42 dX7_goAcross_257 ?_
              refine r_iload h dX7_goAcross_260 rfl ?_
              show Wx _ _ 262 _ _
              refine r_iconst 2 h dX7_goAcross_262 (by decide) ?_
              refine r_iload h dX7_goAcross_263 rfl ?_
              refine r_imul h dX7_goAcross_265 ?_
              refine r_iload h dX7_goAcross_266 rfl ?_
              refine r_iconst 2 h dX7_goAcross_268 (by decide) ?_
              refine r_idiv h dX7_goAcross_269 (by decide) ?_
              show Wx _ _ 270 _ _
              refine r_iadd h dX7_goAcross_270 ?_
              rw [nI_2, show ((1 : Int32) / 2) = nI 0 from by decide, nI_add]
              refine asN_33 h (by omega) dX7_goAcross_271 ?_
              refine r_iincN h dX7_goAcross_272 rfl ?_
              show Wx _ _ _ [_, _, _, _, _, _, _, _, _, _, _, _] _
              refine r_iinc (-1) h dX7_goAcross_275 (by decide) rfl ?_
              show Wx _ _ _ [_, _, _, _, _, _, _, _, _, _, _, .int (1 + (-1))] _
              rw [show (1 : Int32) + (-1) = 0 from by decide]
              refine r_goto 224 h dX7_goAcross_278 (by decide) ?_
              show Wx _ (psh (psh (psh (S) (n) (nI (l + 1)) (nI (2 * i + 1)) (nI (2 * j + 1))) (n + 1) (nI (l + 1)) (nI (2 * i + 0)) (nI (2 * j + 1))) (n + 2) (nI (l + 1)) (nI (2 * i + 1)) (nI (2 * j + 0))) 224 _ _
              refine r_iload h dX7_goAcross_224 rfl ?_
              refine r_if_lt_f 281 h dX7_goAcross_226 (by decide) (by decide) ?_
              refine r_aload_n 0 h dX7_goAcross_229 rfl rfl ?_
              refine g23_9 h lf_X7_36 dX7_goAcross_230 ?_
              refine r_iload h dX7_goAcross_233 rfl ?_
              show Wx _ _ 235 _ _
              refine r_iload h dX7_goAcross_235 rfl ?_
              refine r_iconst 1 h dX7_goAcross_237 (by decide) ?_
              refine r_iadd h dX7_goAcross_238 ?_
              rw [nI_1]
              refine asN_31 h (by omega) dX7_goAcross_239 ?_
              refine r_aload_n 0 h dX7_goAcross_240 rfl rfl ?_
              refine g23_10 h lf_X7_39 dX7_goAcross_241 ?_
              show Wx _ _ 244 _ _
              refine r_iload h dX7_goAcross_244 rfl ?_
              refine r_iconst 2 h dX7_goAcross_246 (by decide) ?_
              refine r_iload h dX7_goAcross_247 rfl ?_
              refine r_imul h dX7_goAcross_249 ?_
              refine r_iload h dX7_goAcross_250 rfl ?_
              refine r_iconst 2 h dX7_goAcross_252 (by decide) ?_
              show Wx _ _ 253 _ _
              refine r_irem h dX7_goAcross_253 (by decide) ?_
              refine r_iadd h dX7_goAcross_254 ?_
              rw [nI_2, show ((0 : Int32) - 0 / 2 * 2) = nI 0 from by decide, nI_add]
              refine asN_32 h (by omega) dX7_goAcross_255 ?_
              refine r_aload_n 0 h dX7_goAcross_256 rfl rfl ?_
              refine g23_11 h lf_X7_42 dX7_goAcross_257 ?_
              refine r_iload h dX7_goAcross_260 rfl ?_
              show Wx _ _ 262 _ _
              refine r_iconst 2 h dX7_goAcross_262 (by decide) ?_
              refine r_iload h dX7_goAcross_263 rfl ?_
              refine r_imul h dX7_goAcross_265 ?_
              refine r_iload h dX7_goAcross_266 rfl ?_
              refine r_iconst 2 h dX7_goAcross_268 (by decide) ?_
              refine r_idiv h dX7_goAcross_269 (by decide) ?_
              show Wx _ _ 270 _ _
              refine r_iadd h dX7_goAcross_270 ?_
              rw [nI_2, show ((0 : Int32) / 2) = nI 0 from by decide, nI_add]
              refine asN_33 h (by omega) dX7_goAcross_271 ?_
              refine r_iincN h dX7_goAcross_272 rfl ?_
              show Wx _ _ _ [_, _, _, _, _, _, _, _, _, _, _, _] _
              refine r_iinc (-1) h dX7_goAcross_275 (by decide) rfl ?_
              show Wx _ _ _ [_, _, _, _, _, _, _, _, _, _, _, .int (0 + (-1))] _
              rw [show (0 : Int32) + (-1) = -1 from by decide]
              refine r_goto 224 h dX7_goAcross_278 (by decide) ?_
              show Wx _ (psh (psh (psh (psh (S) (n) (nI (l + 1)) (nI (2 * i + 1)) (nI (2 * j + 1))) (n + 1) (nI (l + 1)) (nI (2 * i + 0)) (nI (2 * j + 1))) (n + 2) (nI (l + 1)) (nI (2 * i + 1)) (nI (2 * j + 0))) (n + 3) (nI (l + 1)) (nI (2 * i + 0)) (nI (2 * j + 0))) 224 _ _
              refine r_iload h dX7_goAcross_224 rfl ?_
              refine r_if_lt_t 281 h dX7_goAcross_226 (by decide) (by decide) ?_
              refine r_goto 340 h dX7_goAcross_281 (by decide) ?_
              refine r_goto 39 h dX7_goAcross_340 (by decide) ?_
              refine Wx.weak (lv' := [.ref (aD (xw X) 23), .int x, .int y, .int (nI o), .int t, .int (nI (n + 4)), .null, .null, .null, .null, .null, .null]) (And.intro rfl (And.intro rfl (And.intro rfl (And.intro rfl (And.intro rfl (And.intro rfl trivial)))))) ?_
              generalize hS0 : psh S n (nI (l + 1)) (nI (2 * i + 1)) (nI (2 * j + 1)) = S0
              generalize hS1 : psh S0 (n + 1) (nI (l + 1)) (nI (2 * i + 0)) (nI (2 * j + 1)) = S1
              generalize hS2 : psh S1 (n + 2) (nI (l + 1)) (nI (2 * i + 1)) (nI (2 * j + 0)) = S2
              generalize hS3 : psh S2 (n + 3) (nI (l + 1)) (nI (2 * i + 0)) (nI (2 * j + 0)) = S3
              have z0 : nz S0 = nz S := by rw [← hS0]; exact nz_psh
              have z1 : nz S1 = nz S := by rw [← hS1, nz_psh]; exact z0
              have z2 : nz S2 = nz S := by rw [← hS2, nz_psh]; exact z1
              have z3 : nz S3 = nz S := by rw [← hS3, nz_psh]; exact z2
              have k0 : stk S0 S n := fun k hk2 => by rw [← hS0]; exact psh_ne (by omega)
              have k1 : stk S1 S0 (n + 1) := fun k hk2 => by rw [← hS1]; exact psh_ne (by omega)
              have k2 : stk S2 S1 (n + 2) := fun k hk2 => by rw [← hS2]; exact psh_ne (by omega)
              have k3 : stk S3 S2 (n + 3) := fun k hk2 => by rw [← hS3]; exact psh_ne (by omega)
              have a0 := psh_at (S := S) (n := n) (a := nI (l + 1)) (b := nI (2 * i + 1)) (c := nI (2 * j + 1)); rw [hS0] at a0
              have a1 := psh_at (S := S0) (n := n + 1) (a := nI (l + 1)) (b := nI (2 * i + 0)) (c := nI (2 * j + 1)); rw [hS1] at a1
              have a2 := psh_at (S := S1) (n := n + 2) (a := nI (l + 1)) (b := nI (2 * i + 1)) (c := nI (2 * j + 0)); rw [hS2] at a2
              have a3 := psh_at (S := S2) (n := n + 3) (a := nI (l + 1)) (b := nI (2 * i + 0)) (c := nI (2 * j + 0)); rw [hS3] at a3
              -- the data are the same all along
              have dat : ∀ (T U : St), nz T = nz U → ∀ k, k ≠ 29 → k ≠ 30 → k ≠ 31 → T.1 k = U.1 k := by
                intro T U e k q1 q2 q3
                rw [← nz_at (S := T) q1 q2 q3, ← nz_at (S := U) q1 q2 q3, e]
              have d3 := dat S3 S z3
              refine ih S3 (n + 3) (l + 1) (2 * i) (2 * j) w (by omega) (dbl hi) (dbl hj) (by omega) a3.1 a3.2.1 a3.2.2 (by rw [d3 35 (by decide) (by decide) (by decide)]; exact ew) (by rw [d3 20 (by decide) (by decide) (by decide), d3 21 (by decide) (by decide) (by decide), d3 22 (by decide) (by decide) (by decide), d3 27 (by decide) (by decide) (by decide)]; omega) (fun T1 hT1 s1 => ?_)
              rw [z3] at hT1
              generalize hG1 : gaS x y t o (d + 1) (nz S) (l + 1) (2 * i) (2 * j) = G1 at hT1 hk
              have g1d : ∀ k, k ≠ 32 → k ≠ 33 → k ≠ 34 → k ≠ 35 → G1.1 k = (nz S).1 k := fun k q1 q2 q3 q4 => by rw [← hG1]; exact gaS_ne q1 q2 q3 q4 _ _ _ _ _
              have g1w : G1.1 35 0 = nI (w + gaN (S.1 20) (S.1 21) (S.1 22) (S.1 27 0) x y t (d + 1) (l + 1) (2 * i) (2 * j)) := by rw [← hG1]; exact ga_w (d + 1) (nz S) (l + 1) (2 * i) (2 * j) w ew
              have t1d : ∀ k, k ≠ 29 → k ≠ 30 → k ≠ 31 → k ≠ 32 → k ≠ 33 → k ≠ 34 → k ≠ 35 → T1.1 k = S.1 k := fun k q1 q2 q3 q4 q5 q6 q7 => by rw [← nz_at (S := T1) q1 q2 q3, hT1, g1d k q4 q5 q6 q7]; exact nz_at q1 q2 q3
              have t1w : T1.1 35 0 = nI (w + gaN (S.1 20) (S.1 21) (S.1 22) (S.1 27 0) x y t (d + 1) (l + 1) (2 * i) (2 * j)) := by rw [← nz_at (S := T1) (a := 35) (by decide) (by decide) (by decide), hT1]; exact g1w
              have b1 : T1.1 29 (n + 2) = nI (l + 1) ∧ T1.1 30 (n + 2) = nI (2 * i + 1) ∧ T1.1 31 (n + 2) = nI (2 * j) := by
                obtain ⟨p1, p2, p3⟩ := s1 (n + 2) (by omega)
                obtain ⟨r1, r2, r3⟩ := k3 (n + 2) (by omega)
                exact ⟨p1.trans (r1.trans a2.1), p2.trans (r2.trans a2.2.1), p3.trans (r3.trans a2.2.2)⟩
              refine ih T1 (n + 2) (l + 1) (2 * i + 1) (2 * j) _ (by omega) (dbl1 hi) (dbl hj) (by omega) b1.1 b1.2.1 b1.2.2 t1w (by rw [t1d 20 (by decide) (by decide) (by decide) (by decide) (by decide) (by decide) (by decide), t1d 21 (by decide) (by decide) (by decide) (by decide) (by decide) (by decide) (by decide), t1d 22 (by decide) (by decide) (by decide) (by decide) (by decide) (by decide) (by decide), t1d 27 (by decide) (by decide) (by decide) (by decide) (by decide) (by decide) (by decide)]; omega) (fun T2 hT2 s2 => ?_)
              rw [hT1] at hT2
              generalize hG2 : gaS x y t o (d + 1) G1 (l + 1) (2 * i + 1) (2 * j) = G2 at hT2 hk
              have g2d : ∀ k, k ≠ 32 → k ≠ 33 → k ≠ 34 → k ≠ 35 → G2.1 k = (nz S).1 k := fun k q1 q2 q3 q4 => by rw [← hG2, gaS_ne q1 q2 q3 q4]; exact g1d k q1 q2 q3 q4
              have t2d : ∀ k, k ≠ 29 → k ≠ 30 → k ≠ 31 → k ≠ 32 → k ≠ 33 → k ≠ 34 → k ≠ 35 → T2.1 k = S.1 k := fun k q1 q2 q3 q4 q5 q6 q7 => by rw [← nz_at (S := T2) q1 q2 q3, hT2, g2d k q4 q5 q6 q7]; exact nz_at q1 q2 q3
              have G1dat : ∀ a b c, gaN (G1.1 20) (G1.1 21) (G1.1 22) (G1.1 27 0) x y t (d + 1) a b c = gaN (S.1 20) (S.1 21) (S.1 22) (S.1 27 0) x y t (d + 1) a b c := fun a b c => by rw [g1d 20 (by decide) (by decide) (by decide) (by decide), g1d 21 (by decide) (by decide) (by decide) (by decide), g1d 22 (by decide) (by decide) (by decide) (by decide), g1d 27 (by decide) (by decide) (by decide) (by decide)]; rfl
              have G2dat : ∀ a b c, gaN (G2.1 20) (G2.1 21) (G2.1 22) (G2.1 27 0) x y t (d + 1) a b c = gaN (S.1 20) (S.1 21) (S.1 22) (S.1 27 0) x y t (d + 1) a b c := fun a b c => by rw [g2d 20 (by decide) (by decide) (by decide) (by decide), g2d 21 (by decide) (by decide) (by decide) (by decide), g2d 22 (by decide) (by decide) (by decide) (by decide), g2d 27 (by decide) (by decide) (by decide) (by decide)]; rfl
              have g2w := ga_w (x := x) (y := y) (t := t) (o := o) (d + 1) G1 (l + 1) (2 * i + 1) (2 * j) _ g1w
              rw [hG2, G1dat] at g2w
              have t2w := g2w
              rw [← hT2, nz_at (by decide) (by decide) (by decide)] at t2w
              have b2 : T2.1 29 (n + 1) = nI (l + 1) ∧ T2.1 30 (n + 1) = nI (2 * i) ∧ T2.1 31 (n + 1) = nI (2 * j + 1) := by
                obtain ⟨p1, p2, p3⟩ := (stk_tr s2 (stk_tr s1 (stk_tr k3 k2 (by omega)) (by omega)) (by omega)) (n + 1) (by omega)
                exact ⟨p1.trans a1.1, p2.trans a1.2.1, p3.trans a1.2.2⟩
              refine ih T2 (n + 1) (l + 1) (2 * i) (2 * j + 1) _ (by omega) (dbl hi) (dbl1 hj) (by omega) b2.1 b2.2.1 b2.2.2 t2w (by rw [t2d 20 (by decide) (by decide) (by decide) (by decide) (by decide) (by decide) (by decide), t2d 21 (by decide) (by decide) (by decide) (by decide) (by decide) (by decide) (by decide), t2d 22 (by decide) (by decide) (by decide) (by decide) (by decide) (by decide) (by decide), t2d 27 (by decide) (by decide) (by decide) (by decide) (by decide) (by decide) (by decide)]; omega) (fun T3 hT3 s3 => ?_)
              rw [hT2] at hT3
              generalize hG3 : gaS x y t o (d + 1) G2 (l + 1) (2 * i) (2 * j + 1) = G3 at hT3 hk
              have g3d : ∀ k, k ≠ 32 → k ≠ 33 → k ≠ 34 → k ≠ 35 → G3.1 k = (nz S).1 k := fun k q1 q2 q3 q4 => by rw [← hG3, gaS_ne q1 q2 q3 q4]; exact g2d k q1 q2 q3 q4
              have t3d : ∀ k, k ≠ 29 → k ≠ 30 → k ≠ 31 → k ≠ 32 → k ≠ 33 → k ≠ 34 → k ≠ 35 → T3.1 k = S.1 k := fun k q1 q2 q3 q4 q5 q6 q7 => by rw [← nz_at (S := T3) q1 q2 q3, hT3, g3d k q4 q5 q6 q7]; exact nz_at q1 q2 q3
              have g3w := ga_w (x := x) (y := y) (t := t) (o := o) (d + 1) G2 (l + 1) (2 * i) (2 * j + 1) _ g2w
              rw [hG3, G2dat] at g3w
              have t3w := g3w
              rw [← hT3, nz_at (by decide) (by decide) (by decide)] at t3w
              have b3 : T3.1 29 n = nI (l + 1) ∧ T3.1 30 n = nI (2 * i + 1) ∧ T3.1 31 n = nI (2 * j + 1) := by
                obtain ⟨p1, p2, p3⟩ := (stk_tr s3 (stk_tr s2 (stk_tr s1 (stk_tr k3 (stk_tr k2 k1 (by omega)) (by omega)) (by omega)) (by omega)) (by omega)) n (by omega)
                exact ⟨p1.trans a0.1, p2.trans a0.2.1, p3.trans a0.2.2⟩
              refine ih T3 n (l + 1) (2 * i + 1) (2 * j + 1) _ (by omega) (dbl1 hi) (dbl1 hj) (by omega) b3.1 b3.2.1 b3.2.2 t3w (by rw [t3d 20 (by decide) (by decide) (by decide) (by decide) (by decide) (by decide) (by decide), t3d 21 (by decide) (by decide) (by decide) (by decide) (by decide) (by decide) (by decide), t3d 22 (by decide) (by decide) (by decide) (by decide) (by decide) (by decide) (by decide), t3d 27 (by decide) (by decide) (by decide) (by decide) (by decide) (by decide) (by decide)]; omega) (fun T4 hT4 s4 => ?_)
              rw [hT3] at hT4
              exact hk T4 hT4 (stk_tr s4 (stk_tr s3 (stk_tr s2 (stk_tr s1 (stk_tr k3 (stk_tr k2 (stk_tr k1 k0 (by omega)) (by omega)) (by omega)) (by omega)) (by omega)) (by omega)) (Nat.le_refl n))
          · have hf : ¬ mfaI x y t (nI l) (nI i) (nI j) = 0 := by
              unfold mfaI
              first | (rw [if_pos (show apL t (nI l) ≤ szL (farL x (nI l) (nI i)) from c123)]; decide) | (rw [if_neg (show ¬ apL t (nI l) ≤ szL (farL x (nI l) (nI i)) from c123), if_neg (show ¬ szL (farL y (nI l) (nI j)) < apL t (nI l) from c147)]; decide)
            rw [if_neg c100, if_neg hf] at hN
            rw [if_neg c100, if_neg hf] at hk
            refine r_aload_n 0 h dX7_goAcross_151 rfl rfl ?_
            refine r_dup h dX7_goAcross_152 rfl ?_
            refine g23_16 h lf_X7_153 dX7_goAcross_153 ?_
            refine r_aload_n 0 h dX7_goAcross_156 rfl rfl ?_
            refine r_iload h dX7_goAcross_157 rfl ?_
            show Wx _ _ 159 _ _
            refine r_iload h dX7_goAcross_159 rfl ?_
            refine r_iload h dX7_goAcross_161 rfl ?_
            refine r_iload_n 1 h dX7_goAcross_163 rfl rfl ?_
            refine r_iload_n 2 h dX7_goAcross_164 rfl rfl ?_
            refine r_iload_n 3 h dX7_goAcross_165 rfl rfl ?_
            refine cV6 h (mX7_term _ _ _ (nI l) (nI i) (nI j) x y o ho) kX7_term lm_X7_160 (by decide) 23 (pl_23 _ _) rfl (Nat.le_of_ble_eq_true rfl) dX7_goAcross_166 ?_
            show Wx _ _ 169 _ _
            refine r_ladd h dX7_goAcross_169 ?_
            refine p23_16 h lf_X7_153 dX7_goAcross_170 ?_
            refine r_aload_n 0 h dX7_goAcross_173 rfl rfl ?_
            refine r_dup h dX7_goAcross_174 rfl ?_
            refine g23_17 h lf_X7_157 dX7_goAcross_175 ?_
            refine r_aload_n 0 h dX7_goAcross_178 rfl rfl ?_
            show Wx _ _ 179 _ _
            refine r_iload h dX7_goAcross_179 rfl ?_
            refine r_iload h dX7_goAcross_181 rfl ?_
            refine r_iload h dX7_goAcross_183 rfl ?_
            refine r_iload_n 1 h dX7_goAcross_185 rfl rfl ?_
            refine r_iload_n 2 h dX7_goAcross_186 rfl rfl ?_
            refine r_iload_n 3 h dX7_goAcross_187 rfl rfl ?_
            show Wx _ _ 188 _ _
            refine cV6 h (mX7_endOf _ _ _ (nI l) (nI i) (nI j) x y o ho) kX7_endOf lm_X7_164 (by decide) 23 (pl_23 _ _) rfl (Nat.le_of_ble_eq_true rfl) dX7_goAcross_188 ?_
            refine r_ladd h dX7_goAcross_191 ?_
            refine p23_17 h lf_X7_157 dX7_goAcross_192 ?_
            refine r_aload_n 0 h dX7_goAcross_195 rfl rfl ?_
            refine r_iload h dX7_goAcross_196 rfl ?_
            refine r_iload h dX7_goAcross_198 rfl ?_
            show Wx _ _ 200 _ _
            refine r_iload h dX7_goAcross_200 rfl ?_
            refine cV3v h (mX7_goes _ _ _ _ _ _ (by show vp_in (S.1 35 0) 80; rw [ew]; exact vin (by omega))) kX7_goes lm_X7_167 (by decide) 23 (pl_23 _ _) rfl (Nat.le_of_ble_eq_true rfl) dX7_goAcross_202 ?_
            refine r_goto 340 h dX7_goAcross_205 (by decide) ?_
            refine r_goto 39 h dX7_goAcross_340 (by decide) ?_
            exact Wx.weak (lv' := [.ref (aD (xw X) 23), .int x, .int y, .int (nI o), .int t, .int (nI n), .null, .null, .null, .null, .null, .null]) (And.intro rfl (And.intro rfl (And.intro rfl (And.intro rfl (And.intro rfl (And.intro rfl trivial)))))) (hk (evB S (nI l) (nI i) (nI j) x y o) nz_evB (fun k _ => ⟨by rw [evB_ne (by decide) (by decide) (by decide) (by decide)], by rw [evB_ne (by decide) (by decide) (by decide) (by decide)], by rw [evB_ne (by decide) (by decide) (by decide) (by decide)]⟩))
  show Wx X S 0 [.ref (aD (xw X) 23), .int x, .int y, .int (nI o), .int t, .null, .null, .null, .null, .null, .null, .null] []
  refine r_aload_n 0 h dX7_goAcross_0 rfl rfl ?_
  refine r_lconst 0 h dX7_goAcross_1 (by decide) ?_
  refine p23_16 h lf_X7_153 dX7_goAcross_2 ?_
  refine r_aload_n 0 h dX7_goAcross_5 rfl rfl ?_
  refine r_lconst 0 h dX7_goAcross_6 (by decide) ?_
  show Wx _ _ 7 _ _
  refine p23_17 h lf_X7_157 dX7_goAcross_7 ?_
  refine r_aload_n 0 h dX7_goAcross_10 rfl rfl ?_
  refine r_iconst 0 h dX7_goAcross_11 (by decide) ?_
  refine p23_15 h lf_X7_150 dX7_goAcross_12 ?_
  refine r_iconst 1 h dX7_goAcross_15 (by decide) ?_
  refine r_istore h dX7_goAcross_16 (Nat.le_of_ble_eq_true rfl) ?_
  show Wx _ _ _ [_, _, _, _, _, _, _, _, _, _, _, _] _
  show Wx _ _ 18 _ _
  refine r_aload_n 0 h dX7_goAcross_18 rfl rfl ?_
  refine g23_9 h lf_X7_36 dX7_goAcross_19 ?_
  refine r_iconst 0 h dX7_goAcross_22 (by decide) ?_
  refine r_iconst 0 h dX7_goAcross_23 (by decide) ?_
  refine as_31 h (vin (i := 0) (by decide)) dX7_goAcross_24 ?_
  refine r_aload_n 0 h dX7_goAcross_25 rfl rfl ?_
  show Wx _ _ 26 _ _
  refine g23_10 h lf_X7_39 dX7_goAcross_26 ?_
  refine r_iconst 0 h dX7_goAcross_29 (by decide) ?_
  refine r_iconst 0 h dX7_goAcross_30 (by decide) ?_
  refine as_32 h (vin (i := 0) (by decide)) dX7_goAcross_31 ?_
  refine r_aload_n 0 h dX7_goAcross_32 rfl rfl ?_
  refine g23_11 h lf_X7_42 dX7_goAcross_33 ?_
  show Wx _ _ 36 _ _
  refine r_iconst 0 h dX7_goAcross_36 (by decide) ?_
  refine r_iconst 0 h dX7_goAcross_37 (by decide) ?_
  refine as_33 h (vin (i := 0) (by decide)) dX7_goAcross_38 ?_
  show Wx _ (psh (iniS S) 0 (nI 0) (nI 0) (nI 0)) _ _ _
  have hz : nz (psh (iniS S) 0 (nI 0) (nI 0) (nI 0)) = nz (iniS S) := nz_psh
  have ha := psh_at (S := iniS S) (n := 0) (a := nI 0) (b := nI 0) (c := nI 0)
  refine key 5 (psh (iniS S) 0 (nI 0) (nI 0) (nI 0)) 0 0 0 0 0 (by omega) (by decide) (by decide) (by omega) ha.1 ha.2.1 ha.2.2 rfl (by rw [Nat.zero_add]; exact hw) (fun T hT _ => ?_)
  rw [hz] at hT
  refine r_iload h dX7_goAcross_39 rfl ?_
  refine r_if_le_t 343 h dX7_goAcross_41 (by decide) (by decide) ?_
  exact r_vret h hr dX7_goAcross_343 ⟨rfl, hT⟩
