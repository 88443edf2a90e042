/-! THE CLAIM OUT OF ONE WALK OF THE LAW'S BODY. Your part is whole_start (and what it stands on); all else here is the same for every law, but numbers. -/
def R_law : String := "FarSumsLaw"
def lw_P (b : Addr) (xs : List Int32) (args : Array Value) (s : State) : Prop := args = #[.ref b] ∧ s.IntsAt b xs ∧ xs.length ≤ 3072 ∧ (Jvm.Cond.and given_1 narrow_1).before args s = true
def lw_Q (_ : Array Value) (s : State) (o : Outcome) (t : State) : Prop := o = .returned (some (.int 1)) ∧ Framed s o t [] 600000 7302250
def lw_Z (below : List Frame) (a : Array Value) (s : State) : State → Prop := fun t => ∃ o, t.status = .running ∧ Ended t below o ∧ lw_Q a s o t
/-- the law's own end, with 1 on the stack, nothing written that was there before, its room as the claim has it -/
theorem lw_ret {p : Program} {l : Launch} {e : Env} {s : State} {m : MethodId} {below : List Frame} {meth : Method} {c : Code} {b : Nat} (hx : p.tables.exec = Jvm.exec) (hb : c.code = code) (hr : meth.sig.returnType = ret) (hlocks : meth.locks = false) {pc : Nat} {H : Heap} {ls : Array Slot} (hdg : decode code pc = .ok (.ireturn, 1)) : W p l e room_1 s m #[Value.ref b] below meth c H [] 600000 7302250 (lw_Z below #[Value.ref b] s) (F0 m pc ls [.int 1]) := by
  intro T hT X
  obtain ⟨fs, hret, hrun, hended, hW, hframe⟩ := X.leave (v := some (.int 1)) (hlocks := hlocks) (fun h => by rw [hr] at h; cases h)
  have hmeth' : T.vm.method? m = some meth := X.method'
  refine ⟨T.setFrames fs, ?_, .returned (some (.int 1)), hrun, hended, rfl, ⟨_, rfl⟩, hW, hframe⟩
  jvm_step X.here [X.here.top, hx, hb, hdg, hmeth', hr, ret, narrow_b1]
  (try refine ⟨rfl, ?_⟩); (try refine ⟨rfl, ?_⟩)
  first | (intro acts; rw [hret _ acts rfl rfl rfl]) | rw [hret _ _ rfl rfl rfl]
  exact Steps.refl _
/-- what holds at the law's entry: the machine, the code, the tables' words (any of lw_tbl by 'hts w (by decide +kernel)'), the script of L ints xs at the cell b, what the Statement gives of the start (any of its parts by flat_of_before) -/
def lw_At (p : Program) (s : State) (m : MethodId) (meth : Method) (c : Code) (b L : Nat) (xs : Nat → Int32) : Prop :=
  p.tables.exec = Jvm.exec ∧ c.code = code ∧ meth.sig.returnType = ret ∧ c.maxLocals = 4 ∧ s.vm.findClass R_law = some m.cls ∧ (∀ w ∈ lw_tbl, w.before #[Value.ref b] s = true) ∧ va_X b L xs s s.heap ∧ b < s.heap.size ∧ meth.locks = false ∧ (Jvm.Cond.and given_1 narrow_1).before #[Value.ref b] s = true
/-! the law's beginning -/
theorem va_D_ad {A : Nat → Prop} {ws wt : va_W} (h : ws.map (·.1) = wt.map (·.1)) (hD : va_D A ws) : va_D A wt := by
  have key : ∀ (i : Nat) (p : Nat × va_E), wt[i]? = some p → ∃ q : Nat × va_E, ws[i]? = some q ∧ q.1 = p.1 := by
    intro i p hp
    have e : (wt.map (·.1))[i]? = some p.1 := by rw [List.getElem?_map, hp]; rfl
    rw [← h, List.getElem?_map] at e
    cases hq : ws[i]? with
    | none => rw [hq] at e; cases e
    | some q => rw [hq] at e; exact ⟨q, rfl, Option.some.inj e⟩
  refine ⟨fun i j p q hp hq e => ?_, fun k q hq => ?_⟩
  · obtain ⟨p2, hp2, ep⟩ := key i p hp
    obtain ⟨q2, hq2, eq⟩ := key j q hq
    exact hD.1 i j p2 q2 hp2 hq2 (by rw [ep, eq, e])
  · obtain ⟨q2, hq2, eq⟩ := key k q hq
    rw [← eq]; exact hD.2 k q2 hq2
theorem y_astore_n {X : Fr} {cc : ByteArray} {own : String} {d kc ks : Nat} {ws : va_W} {pc : Nat} {lv st : List Value} {q : Fin 4} (i : Nat) {x : Nat} (h : OkC X cc own d) (dg : decode cc pc = .ok (.astore_n q, 1)) (hi : (q : Nat) = i) (hn : i < lv.length) (k : Wy X ws kc ks (pc + 1) (zp1 lv i (.ref x)) st) : Wy X ws kc ks pc lv (.ref x :: st) := fun H locs ls hP hD hS hl => lv_astore_n h.1 h.2.1 dg hi (hL_has hl) (Nat.lt_of_lt_of_le hn hl.1.2) rfl (fun ls' hl' => k H locs ls' hP hD hS (hL_set1 hl hl'))
theorem y_istore_n {X : Fr} {cc : ByteArray} {own : String} {d kc ks : Nat} {ws : va_W} {pc : Nat} {lv st : List Value} {q : Fin 4} (i : Nat) {x : Int32} (h : OkC X cc own d) (dg : decode cc pc = .ok (.istore_n q, 1)) (hi : (q : Nat) = i) (hn : i < lv.length) (k : Wy X ws kc ks (pc + 1) (zp1 lv i (.int x)) st) : Wy X ws kc ks pc lv (.int x :: st) := fun H locs ls hP hD hS hl => lv_istore_n h.1 h.2.1 dg hi (hL_has hl) (Nat.lt_of_lt_of_le hn hl.1.2) rfl (fun ls' hl' => k H locs ls' hP hD hS (hL_set1 hl hl'))
theorem y_dup0 {X : Fr} {cc : ByteArray} {own : String} {d kc ks : Nat} {ws : va_W} {pc : Nat} {lv st : List Value} {a : Value} (h : OkC X cc own d) (dg : decode cc pc = .ok (.dup, 1)) (ha : a.category = 1) (k : Wy X ws kc ks (pc + 1) lv (a :: a :: st)) : Wy X ws kc ks pc lv (a :: st) := fun H locs ls hP hD hS hl => lv_dup h.1 h.2.1 dg ha (k H locs ls hP hD hS hl)
theorem y_iconst0 {X : Fr} {cc : ByteArray} {own : String} {d kc ks : Nat} {ws : va_W} {pc : Nat} {lv st : List Value} {n : Int} (v : Int32) (h : OkC X cc own d) (dg : decode cc pc = .ok (.iconst n, 1)) (hv : Int32.ofInt n = v) (k : Wy X ws kc ks (pc + 1) lv (.int v :: st)) : Wy X ws kc ks pc lv st := fun H locs ls hP hD hS hl => lv_iconst h.1 h.2.1 dg hv (k H locs ls hP hD hS hl)
theorem nw_of {args : Array Value} {s : State} (hts : ∀ w ∈ lw_tbl, w.before args s = true) : ∀ c ∈ nw, va_Nw c s := by
  intro c hc
  have h0 := hts c (List.mem_filter.mp hc).1
  have h1 := (List.mem_filter.mp hc).2
  cases c <;> first | exact va_Nw.of rfl h0 | (simp [isNest] at h1; done)
theorem arr_of {args : Array Value} {s : State} {ty : FieldType} (hp : ty = .int ∨ ty = .long ∨ ty = .boolean) (h : (Cond.arrayClass ty).before args s = true) : ∃ cA : ClassId, ArrOfT s cA ty ∧ va_RA s cA ty := by
  obtain ⟨cA, kA, comp, hfind, hk, hkind⟩ := Cond.arrayClass_spec h
  rcases hp with rfl | rfl | rfl
  · exact ⟨cA, fun n z => ⟨fun k h => (by cases h), kA, hk, comp, hkind⟩, hfind⟩
  · exact ⟨cA, fun n z => ⟨fun k h => (by cases h), kA, hk, comp, hkind⟩, hfind⟩
  · exact ⟨cA, fun n z => ⟨fun k h => (by cases h), kA, hk, comp, hkind⟩, hfind⟩
theorem kn_of {args : Array Value} {s : State} (hts : ∀ w ∈ tb, w.before args s = true) : ∃ (D : va_G) (cI cJ cZ : ClassId), ∀ (ad : Nat → Nat) (A : Nat → Prop) (t1 t2 : Nat), va_K D vwCl (fty (D, ad, (cI, cJ, cZ), A, (t1, t2))) s := by
  obtain ⟨c0, i0, k0⟩ := u_known (C := RX0) (T := TX0) (N := 5) hts inT0 (hts _ lt_X0)
  obtain ⟨c1, i1, k1⟩ := u_known (C := RX1) (T := TX1) (N := 6) hts inT1 (hts _ lt_X1)
  obtain ⟨c2, i2, k2⟩ := u_known (C := RX2) (T := TX2) (N := 7) hts inT2 (hts _ lt_X2)
  obtain ⟨c3, i3, k3⟩ := u_known (C := RX3) (T := TX3) (N := 1) hts inT3 (hts _ lt_X3)
  obtain ⟨c4, i4, k4⟩ := u_known (C := RX4) (T := TX4) (N := 2) hts inT4 (hts _ lt_X4)
  obtain ⟨c5, i5, k5⟩ := u_known (C := RX5) (T := TX5) (N := 9) hts inT5 (hts _ lt_X5)
  obtain ⟨c6, i6, k6⟩ := u_known (C := RX6) (T := TX6) (N := 6) hts inT6 (hts _ lt_X6)
  obtain ⟨c7, i7, k7⟩ := u_known (C := RX7) (T := TX7) (N := 20) hts inT7 (hts _ lt_X7)
  obtain ⟨cI, a1, a2⟩ := arr_of (ty := .int) (by decide) (hts _ ac_I)
  obtain ⟨cJ, b1, b2⟩ := arr_of (ty := .long) (by decide) (hts _ ac_J)
  obtain ⟨cZ, d1, d2⟩ := arr_of (ty := .boolean) (by decide) (hts _ ac_Z)
  refine ⟨(fun k => ([c0, c1, c2, c3, c4, c5, c6, c7] : List ClassId).getD k c0, fun k => ([i0, i1, i2, i3, i4, i5, i6, i7] : List (Nat → Nat)).getD k i0), cI, cJ, cZ, fun ad A t1 t2 => ⟨?_, ?_⟩⟩
  · intro c q hq
    match c, hq with
    | 0, hq => cases hq; exact k0
    | 1, hq => cases hq; exact k1
    | 2, hq => cases hq; exact k2
    | 3, hq => cases hq; exact k3
    | 4, hq => cases hq; exact k4
    | 5, hq => cases hq; exact k5
    | 6, hq => cases hq; exact k6
    | 7, hq => cases hq; exact k7
    | n + 8, hq => cases hq
  · intro k q hq
    match k, hq with
    | 0, hq => cases hq; exact ⟨a1, a2⟩
    | 1, hq => cases hq; exact ⟨b1, b2⟩
    | 2, hq => cases hq; exact ⟨d1, d2⟩
    | n + 3, hq => cases hq
theorem st_of {b : Nat} {s : State} (hts : ∀ w ∈ lw_tbl, w.before #[Value.ref b] s = true) (hg : (Jvm.Cond.and given_1 narrow_1).before #[Value.ref b] s = true) : ∃ t1 t2 : Nat, (va_Z "FarSums" "FIRST_OF_LEVEL" "[I" (.ref t1) (fun q => s.heap.size ≤ q) s s.heap ∧ va_T .int t1 6 (fun j => .int (tabF j)) (fun q => s.heap.size ≤ q) s s.heap) ∧ (va_Z "FarSums" "CHOOSE" "[I" (.ref t2) (fun q => s.heap.size ≤ q) s s.heap ∧ va_T .int t2 25 (fun j => .int (tabC j)) (fun q => s.heap.size ≤ q) s s.heap) := by
  have hs := flat_of_before _ hg
  have hA : ∀ a : Nat, a < s.heap.size → ¬ (fun q => s.heap.size ≤ q) a := fun a h z => absurd (show s.heap.size ≤ a from z) (by omega)
  have hini : (Cond.initialized "FarSums").before #[Value.ref b] s = true := hts _ ((List.mem_filter.mp li_X6).1)
  have hl1 : (Cond.laysStatic "FarSums" "FIRST_OF_LEVEL" "[I").before #[Value.ref b] s = true := hts _ (List.mem_append_right _ (List.mem_of_getElem? (i := 246) (by decide +kernel)))
  have hl2 : (Cond.laysStatic "FarSums" "CHOOSE" "[I").before #[Value.ref b] s = true := hts _ (List.mem_append_right _ (List.mem_of_getElem? (i := 403) (by decide +kernel)))
  obtain ⟨t1, e1, T1⟩ := va_Tof (tm := .static "FarSums" "FIRST_OF_LEVEL" "[I") (ty := .int) (N := 6) (f := fun j => .int (tabF j)) (by decide) (hs _ (by decide +kernel)) (va_eqt (hs _ (by decide +kernel))) (fun j hj => by
    have hj : j = 0 ∨ j = 1 ∨ j = 2 ∨ j = 3 ∨ j = 4 ∨ j = 5 := by omega
    rcases hj with rfl | rfl | rfl | rfl | rfl | rfl <;> exact va_eqt (hs _ (by decide +kernel))) hA
  obtain ⟨t2, e2, T2⟩ := va_Tof (tm := .static "FarSums" "CHOOSE" "[I") (ty := .int) (N := 25) (f := fun j => .int (tabC j)) (by decide) (hs _ (by decide +kernel)) (va_eqt (hs _ (by decide +kernel))) (fun j hj => by
    have hj : j = 0 ∨ j = 1 ∨ j = 2 ∨ j = 3 ∨ j = 4 ∨ j = 5 ∨ j = 6 ∨ j = 7 ∨ j = 8 ∨ j = 9 ∨ j = 10 ∨ j = 11 ∨ j = 12 ∨ j = 13 ∨ j = 14 ∨ j = 15 ∨ j = 16 ∨ j = 17 ∨ j = 18 ∨ j = 19 ∨ j = 20 ∨ j = 21 ∨ j = 22 ∨ j = 23 ∨ j = 24 := by omega
    rcases hj with rfl | rfl | rfl | rfl | rfl | rfl | rfl | rfl | rfl | rfl | rfl | rfl | rfl | rfl | rfl | rfl | rfl | rfl | rfl | rfl | rfl | rfl | rfl | rfl | rfl <;> exact va_eqt (hs _ (by decide +kernel))) hA
  exact ⟨t1, t2, ⟨va_Zof hl1 hini e1 hA, T1⟩, va_Zof hl2 hini e2 hA, T2⟩
set_option maxRecDepth 100000 in
set_option maxHeartbeats 4000000 in
theorem ws_eq (w : Fx) (a0 q1 q2 q3 q4 q5 q6 q7 q8 q9 q10 q11 q12 q13 q14 q15 q16 q17 q18 q19 q20 q21 q22 b0 r1 r2 r3 r4 r5 r6 r7 r8 r9 r10 r11 r12 r13 r14 r15 : Nat) (h0 : aD w 0 = a0) (h1 : aD w 1 = q1) (h2 : aD w 2 = q2) (h3 : aD w 3 = q3) (h4 : aD w 4 = q4) (h5 : aD w 5 = q5) (h6 : aD w 6 = q6) (h7 : aD w 7 = q7) (h8 : aD w 8 = q8) (h9 : aD w 9 = q9) (h10 : aD w 10 = q10) (h11 : aD w 11 = q11) (h12 : aD w 12 = q12) (h13 : aD w 13 = q13) (h14 : aD w 14 = q14) (h15 : aD w 15 = q15) (h16 : aD w 16 = q16) (h17 : aD w 17 = q17) (h18 : aD w 18 = q18) (h19 : aD w 19 = q19) (h20 : aD w 20 = q20) (h21 : aD w 21 = q21) (h22 : aD w 22 = q22) (h23 : aD w 23 = b0) (h24 : aD w 24 = r1) (h25 : aD w 25 = r2) (h26 : aD w 26 = r3) (h27 : aD w 27 = r4) (h28 : aD w 28 = r5) (h29 : aD w 29 = r6) (h30 : aD w 30 = r7) (h31 : aD w 31 = r8) (h32 : aD w 32 = r9) (h33 : aD w 33 = r10) (h34 : aD w 34 = r11) (h35 : aD w 35 = r12) (h36 : aD w 36 = r13) (h37 : aD w 37 = r14) (h38 : aD w 38 = r15) : wS w S00 = [(a0, .inr (6, [.ref q1, .ref q8, .ref q11, .ref q13, .ref q16, .ref q20])), (q1, .inr (2, [.ref q2, .ref q3, .ref q4, .ref q5, .ref q6, .ref q7, .int 0])), (q2, .inl (cyZ w, 40, .inl (fun _ => 0))), (q3, .inl (cyI w, 40, .inl (fun _ => 0))), (q4, .inl (cyI w, 40, .inl (fun _ => 0))), (q5, .inl (cyI w, 40, .inl (fun _ => 0))), (q6, .inl (cyI w, 40, .inl (fun _ => 0))), (q7, .inl (cyI w, 40, .inl (fun _ => 0))), (q8, .inr (0, [.ref q1, .ref q9, .int 2, .ref q10, .int 0])), (q9, .inl (cyI w, 1365, .inl (fun _ => 0))), (q10, .inl (cyJ w, 25, .inr (.inl (fun _ => 0)))), (q11, .inr (3, [.ref q12])), (q12, .inl (cyJ w, 25, .inr (.inl (vp_updL (fun _ => 0) 0 1)))), (q13, .inr (4, [.ref q11, .ref q14])), (q14, .inr (3, [.ref q15])), (q15, .inl (cyJ w, 25, .inr (.inl (fun _ => 0)))), (q16, .inr (5, [.ref q1, .ref q8, .ref q17, .ref q18, .ref q19, .int 0, .int 0, .int 0, .int 1])), (q17, .inl (cyI w, 40, .inl (fun _ => 0))), (q18, .inl (cyI w, 40, .inl (fun _ => 0))), (q19, .inl (cyI w, 40, .inl (fun _ => 0))), (q20, .inr (1, [.ref q1, .ref q8, .ref q13, .ref q21, .ref q22, .int 0])), (q21, .inl (cyI w, 40, .inl (fun _ => 0))), (q22, .inl (cyI w, 40, .inl (fun _ => 0)))] ++ [(b0, .inr (7, [.ref r1, .ref r2, .ref r3, .ref r4, .ref r5, .ref r6, .ref r7, .int 2, .int 0, .ref r8, .ref r9, .ref r10, .ref r11, .ref r12, .ref r13, .int 0, .long 0, .long 0, .ref r14, .ref r15])), (r1, .inl (cyZ w, 40, .inl (fun _ => 0))), (r2, .inl (cyI w, 40, .inl (fun _ => 0))), (r3, .inl (cyI w, 40, .inl (fun _ => 0))), (r4, .inl (cyI w, 40, .inl (fun _ => 0))), (r5, .inl (cyI w, 40, .inl (fun _ => 0))), (r6, .inl (cyI w, 40, .inl (fun _ => 0))), (r7, .inl (cyI w, 25, .inl (upd (fun _ => 0) 0 1))), (r8, .inl (cyI w, 40, .inl (fun _ => 0))), (r9, .inl (cyI w, 40, .inl (fun _ => 0))), (r10, .inl (cyI w, 40, .inl (fun _ => 0))), (r11, .inl (cyI w, 80, .inl (fun _ => 0))), (r12, .inl (cyI w, 80, .inl (fun _ => 0))), (r13, .inl (cyI w, 80, .inl (fun _ => 0))), (r14, .inl (cyI w, 40, .inl (fun _ => 0))), (r15, .inl (cyI w, 40, .inl (fun _ => 0)))] := by
  subst h0 h1 h2 h3 h4 h5 h6 h7 h8 h9 h10 h11 h12 h13 h14 h15 h16 h17 h18 h19 h20 h21 h22 h23 h24 h25 h26 h27 h28 h29 h30 h31 h32 h33 h34 h35 h36 h37 h38
  rfl
theorem ws_ad (w : Fx) (S T : St) : (wS w S).map (·.1) = (wS w T).map (·.1) := rfl
set_option maxRecDepth 100000 in
set_option maxHeartbeats 4000000 in
theorem pro_end {p : Program} {l : Launch} {e : Env} {s : State} {m : MethodId} {below : List Frame} {meth : Method} {c : Code} {b L : Nat} {xs0 : Nat → Int32} (hL3 : L ≤ 3072) (C0 : lw_At p s m meth c b L xs0) (D : va_G) (cI cJ cZ : ClassId) (t1 t2 : Nat) (ad : Nat → Nat) (hK : ∀ (ad : Nat → Nat) (A : Nat → Prop) (t1 t2 : Nat), va_K D vwCl (fty (D, ad, (cI, cJ, cZ), A, (t1, t2))) s) (hZ : (va_Z "FarSums" "FIRST_OF_LEVEL" "[I" (.ref t1) (fun q => s.heap.size ≤ q) s s.heap ∧ va_T .int t1 6 (fun j => .int (tabF j)) (fun q => s.heap.size ≤ q) s s.heap) ∧ (va_Z "FarSums" "CHOOSE" "[I" (.ref t2) (fun q => s.heap.size ≤ q) s s.heap ∧ va_T .int t2 25 (fun j => .int (tabC j)) (fun q => s.heap.size ≤ q) s s.heap)) {H : Heap} {locs : List Loc} {ls : Array Slot} (hP : va_P D vwCl (wS (D, ad, (cI, cJ, cZ), (fun q => s.heap.size ≤ q), (t1, t2)) S00) H) (hD : va_D (fun q => s.heap.size ≤ q) (wS (D, ad, (cI, cJ, cZ), (fun q => s.heap.size ≤ q), (t1, t2)) S00)) (hS : va_S (fun q => s.heap.size ≤ q) s.heap H locs) (hl : hL ls 4 [.ref b, .ref (ad 0), .ref (ad 23), .int 0]) : W p l e room_1 s m #[Value.ref b] below meth c H locs 39 2642 (lw_Z below #[Value.ref b] s) (F0 m 18 ls []) := by
  obtain ⟨hx, hb, hr, hml, hown, hts, hXX, hbl, hlk, hg⟩ := C0
  have htb : ∀ w ∈ tb, w.before #[Value.ref b] s = true := fun w hw => hts w (List.mem_filter.mp hw).1
  have hX2 : Ok (p, l, e, room_1, s, m, #[Value.ref b], below, meth, c, (39, 2642), lw_Z below #[Value.ref b] s, (D, ad, (cI, cJ, cZ), (fun q => s.heap.size ≤ q), (t1, t2)), 4) cL_law RL 2000 := ⟨hx, hb, hml, hown, htb, hlk, ⟨hK ad _ t1 t2, nw_of hts, hZ.1, hZ.2, fun S => va_D_ad (ws_ad _ S00 S) hD⟩, ⟨(by decide : (2000 : Nat) ≤ 2048), (by decide : 40 * 2000 ≤ 84000)⟩, (by decide : (39 : Nat) ≤ 600000), (by decide : (2642 : Nat) ≤ 7302250)⟩
  have hret : ∀ (S : St) (lv : List Value), Wx (p, l, e, room_1, s, m, #[Value.ref b], below, meth, c, (39, 2642), lw_Z below #[Value.ref b] s, (D, ad, (cI, cJ, cZ), (fun q => s.heap.size ≤ q), (t1, t2)), 4) S 912 lv [.int 1] := by
    intro S lv H locs ls hP hS hl
    refine va_forget (fun q hq => hS.2.2 q hq) ?_
    exact W.widen (by decide : (39 : Nat) ≤ 600000) (by decide : (2642 : Nat) ≤ 7302250) (lw_ret hx hb hr hlk dL_law_912)
  exact law_loop hX2 hXX hbl (fun z => absurd (show s.heap.size ≤ b from z) (by omega)) hL3 hret L 0 S00 Inv_0 (by omega) (by omega) H locs ls hP hS hl
set_option maxRecDepth 100000 in
set_option maxHeartbeats 4000000 in
theorem whole_start {p : Program} {e : Env} {s : State} {m : MethodId} {below : List Frame} {meth : Method} {c : Code} (l : Launch) {b L : Nat} {xs : Nat → Int32} (hL : L ≤ 3072) (C0 : lw_At p s m meth c b L xs) : W p l e room_1 s m #[Value.ref b] below meth c s.heap [] 0 0 (lw_Z below #[Value.ref b] s) (entryFrame m ([Value.ref b] : List Value).toArray 4) := by
  have C1 := C0
  obtain ⟨hx, hb, hr, hml, hown, hts, hXX, hbl, hlk, hg⟩ := C1
  have htb : ∀ w ∈ tb, w.before #[Value.ref b] s = true := fun w hw => hts w (List.mem_filter.mp hw).1
  obtain ⟨D, cI, cJ, cZ, hK⟩ := kn_of htb
  obtain ⟨t1, t2, hZ⟩ := st_of hts hg
  rw [lg_entry_eq]
  obtain ⟨X, eX⟩ : ∃ X : Fr, X = (p, l, e, room_1, s, m, #[Value.ref b], below, meth, c, (39, 2642), lw_Z below #[Value.ref b] s, (D, (fun _ => 0), (cI, cJ, cZ), (fun q => s.heap.size ≤ q), (t1, t2)), 4) := ⟨_, rfl⟩
  have eR : xR X = room_1 := by rw [eX]; rfl
  have h : OkC X cL_law RL 2000 := by
    rw [eX]
    exact ⟨hx, hb, hml, hown, htb, hlk, ⟨hK _ _ _ _, nw_of hts⟩, ⟨(by decide : (2000 : Nat) ≤ 2048), (by decide : 40 * 2000 ≤ 84000)⟩, fun q z => z⟩
  have go : Wy X (([] : va_W) ++ []) 0 0 0 [.ref b, .null, .null, .null] [] := by
    refine y_new (ci := 6) (fs := [.null, .null, .null, .null, .null, .null]) h inT6 tyX6 tyX6_ok lk_L_7 lt_X6 li_X6 rfl (by decide) (by rw [eR]; decide) (by rw [eR]; decide) dL_law_0 (fun a0 => ?_)
    show Wy X (([] : va_W) ++ [(a0, .inr (6, [.null, .null, .null, .null, .null, .null]))]) 1 6 3 _ [.ref a0]
    refine y_dup0 h dL_law_3 rfl ?_
    refine y_callI (rest := [.ref a0]) (n := 0) h (mX6_init _ _ a0) kX6_init rfl lm_L_9 (by decide) rfl rfl (Nat.le_of_ble_eq_true rfl) (by rw [eR]; decide) (by rw [eR]; decide) dL_law_4 (fun v ws hp => ?_)
    obtain ⟨rfl, q1, q2, q3, q4, q5, q6, q7, q8, q9, q10, q11, q12, q13, q14, q15, q16, q17, q18, q19, q20, q21, q22, rfl⟩ := hp
    show Wy X (([] : va_W) ++ [(a0, .inr (6, [.ref q1, .ref q8, .ref q11, .ref q13, .ref q16, .ref q20])), (q1, .inr (2, [.ref q2, .ref q3, .ref q4, .ref q5, .ref q6, .ref q7, .int 0])), (q2, .inl (cyZ (xw X), 40, .inl (fun _ => 0))), (q3, .inl (cyI (xw X), 40, .inl (fun _ => 0))), (q4, .inl (cyI (xw X), 40, .inl (fun _ => 0))), (q5, .inl (cyI (xw X), 40, .inl (fun _ => 0))), (q6, .inl (cyI (xw X), 40, .inl (fun _ => 0))), (q7, .inl (cyI (xw X), 40, .inl (fun _ => 0))), (q8, .inr (0, [.ref q1, .ref q9, .int 2, .ref q10, .int 0])), (q9, .inl (cyI (xw X), 1365, .inl (fun _ => 0))), (q10, .inl (cyJ (xw X), 25, .inr (.inl (fun _ => 0)))), (q11, .inr (3, [.ref q12])), (q12, .inl (cyJ (xw X), 25, .inr (.inl (vp_updL (fun _ => 0) 0 1)))), (q13, .inr (4, [.ref q11, .ref q14])), (q14, .inr (3, [.ref q15])), (q15, .inl (cyJ (xw X), 25, .inr (.inl (fun _ => 0)))), (q16, .inr (5, [.ref q1, .ref q8, .ref q17, .ref q18, .ref q19, .int 0, .int 0, .int 0, .int 1])), (q17, .inl (cyI (xw X), 40, .inl (fun _ => 0))), (q18, .inl (cyI (xw X), 40, .inl (fun _ => 0))), (q19, .inl (cyI (xw X), 40, .inl (fun _ => 0))), (q20, .inr (1, [.ref q1, .ref q8, .ref q13, .ref q21, .ref q22, .int 0])), (q21, .inl (cyI (xw X), 40, .inl (fun _ => 0))), (q22, .inl (cyI (xw X), 40, .inl (fun _ => 0)))]) 23 1917 7 _ [.ref a0]
    refine y_astore_n 1 h dL_law_7 rfl (Nat.le_of_ble_eq_true rfl) ?_
    show Wy X (([] : va_W) ++ [(a0, .inr (6, [.ref q1, .ref q8, .ref q11, .ref q13, .ref q16, .ref q20])), (q1, .inr (2, [.ref q2, .ref q3, .ref q4, .ref q5, .ref q6, .ref q7, .int 0])), (q2, .inl (cyZ (xw X), 40, .inl (fun _ => 0))), (q3, .inl (cyI (xw X), 40, .inl (fun _ => 0))), (q4, .inl (cyI (xw X), 40, .inl (fun _ => 0))), (q5, .inl (cyI (xw X), 40, .inl (fun _ => 0))), (q6, .inl (cyI (xw X), 40, .inl (fun _ => 0))), (q7, .inl (cyI (xw X), 40, .inl (fun _ => 0))), (q8, .inr (0, [.ref q1, .ref q9, .int 2, .ref q10, .int 0])), (q9, .inl (cyI (xw X), 1365, .inl (fun _ => 0))), (q10, .inl (cyJ (xw X), 25, .inr (.inl (fun _ => 0)))), (q11, .inr (3, [.ref q12])), (q12, .inl (cyJ (xw X), 25, .inr (.inl (vp_updL (fun _ => 0) 0 1)))), (q13, .inr (4, [.ref q11, .ref q14])), (q14, .inr (3, [.ref q15])), (q15, .inl (cyJ (xw X), 25, .inr (.inl (fun _ => 0)))), (q16, .inr (5, [.ref q1, .ref q8, .ref q17, .ref q18, .ref q19, .int 0, .int 0, .int 0, .int 1])), (q17, .inl (cyI (xw X), 40, .inl (fun _ => 0))), (q18, .inl (cyI (xw X), 40, .inl (fun _ => 0))), (q19, .inl (cyI (xw X), 40, .inl (fun _ => 0))), (q20, .inr (1, [.ref q1, .ref q8, .ref q13, .ref q21, .ref q22, .int 0])), (q21, .inl (cyI (xw X), 40, .inl (fun _ => 0))), (q22, .inl (cyI (xw X), 40, .inl (fun _ => 0)))]) 23 1917 8 [.ref b, .ref a0, .null, .null] []
    refine y_new (ci := 7) (fs := [.null, .null, .null, .null, .null, .null, .null, .int 0, .int 0, .null, .null, .null, .null, .null, .null, .int 0, .long 0, .long 0, .null, .null]) h inT7 tyX7 tyX7_ok lk_L_10 lt_X7 li_X7 rfl (by decide) (by rw [eR]; decide) (by rw [eR]; decide) dL_law_8 (fun b0 => ?_)
    show Wy X ([(a0, .inr (6, [.ref q1, .ref q8, .ref q11, .ref q13, .ref q16, .ref q20])), (q1, .inr (2, [.ref q2, .ref q3, .ref q4, .ref q5, .ref q6, .ref q7, .int 0])), (q2, .inl (cyZ (xw X), 40, .inl (fun _ => 0))), (q3, .inl (cyI (xw X), 40, .inl (fun _ => 0))), (q4, .inl (cyI (xw X), 40, .inl (fun _ => 0))), (q5, .inl (cyI (xw X), 40, .inl (fun _ => 0))), (q6, .inl (cyI (xw X), 40, .inl (fun _ => 0))), (q7, .inl (cyI (xw X), 40, .inl (fun _ => 0))), (q8, .inr (0, [.ref q1, .ref q9, .int 2, .ref q10, .int 0])), (q9, .inl (cyI (xw X), 1365, .inl (fun _ => 0))), (q10, .inl (cyJ (xw X), 25, .inr (.inl (fun _ => 0)))), (q11, .inr (3, [.ref q12])), (q12, .inl (cyJ (xw X), 25, .inr (.inl (vp_updL (fun _ => 0) 0 1)))), (q13, .inr (4, [.ref q11, .ref q14])), (q14, .inr (3, [.ref q15])), (q15, .inl (cyJ (xw X), 25, .inr (.inl (fun _ => 0)))), (q16, .inr (5, [.ref q1, .ref q8, .ref q17, .ref q18, .ref q19, .int 0, .int 0, .int 0, .int 1])), (q17, .inl (cyI (xw X), 40, .inl (fun _ => 0))), (q18, .inl (cyI (xw X), 40, .inl (fun _ => 0))), (q19, .inl (cyI (xw X), 40, .inl (fun _ => 0))), (q20, .inr (1, [.ref q1, .ref q8, .ref q13, .ref q21, .ref q22, .int 0])), (q21, .inl (cyI (xw X), 40, .inl (fun _ => 0))), (q22, .inl (cyI (xw X), 40, .inl (fun _ => 0)))] ++ [(b0, .inr (7, [.null, .null, .null, .null, .null, .null, .null, .int 0, .int 0, .null, .null, .null, .null, .null, .null, .int 0, .long 0, .long 0, .null, .null]))]) 24 1937 11 _ [.ref b0]
    refine y_dup0 h dL_law_11 rfl ?_
    refine y_callI (rest := [.ref b0]) (n := 0) h (mX7_init _ _ [(a0, .inr (6, [.ref q1, .ref q8, .ref q11, .ref q13, .ref q16, .ref q20])), (q1, .inr (2, [.ref q2, .ref q3, .ref q4, .ref q5, .ref q6, .ref q7, .int 0])), (q2, .inl (cyZ (xw X), 40, .inl (fun _ => 0))), (q3, .inl (cyI (xw X), 40, .inl (fun _ => 0))), (q4, .inl (cyI (xw X), 40, .inl (fun _ => 0))), (q5, .inl (cyI (xw X), 40, .inl (fun _ => 0))), (q6, .inl (cyI (xw X), 40, .inl (fun _ => 0))), (q7, .inl (cyI (xw X), 40, .inl (fun _ => 0))), (q8, .inr (0, [.ref q1, .ref q9, .int 2, .ref q10, .int 0])), (q9, .inl (cyI (xw X), 1365, .inl (fun _ => 0))), (q10, .inl (cyJ (xw X), 25, .inr (.inl (fun _ => 0)))), (q11, .inr (3, [.ref q12])), (q12, .inl (cyJ (xw X), 25, .inr (.inl (vp_updL (fun _ => 0) 0 1)))), (q13, .inr (4, [.ref q11, .ref q14])), (q14, .inr (3, [.ref q15])), (q15, .inl (cyJ (xw X), 25, .inr (.inl (fun _ => 0)))), (q16, .inr (5, [.ref q1, .ref q8, .ref q17, .ref q18, .ref q19, .int 0, .int 0, .int 0, .int 1])), (q17, .inl (cyI (xw X), 40, .inl (fun _ => 0))), (q18, .inl (cyI (xw X), 40, .inl (fun _ => 0))), (q19, .inl (cyI (xw X), 40, .inl (fun _ => 0))), (q20, .inr (1, [.ref q1, .ref q8, .ref q13, .ref q21, .ref q22, .int 0])), (q21, .inl (cyI (xw X), 40, .inl (fun _ => 0))), (q22, .inl (cyI (xw X), 40, .inl (fun _ => 0)))] b0) kX7_init rfl lm_L_12 (by decide) rfl rfl (Nat.le_of_ble_eq_true rfl) (by rw [eR]; decide) (by rw [eR]; decide) dL_law_12 (fun v ws hp => ?_)
    obtain ⟨rfl, r1, r2, r3, r4, r5, r6, r7, r8, r9, r10, r11, r12, r13, r14, r15, rfl⟩ := hp
    show Wy X ([(a0, .inr (6, [.ref q1, .ref q8, .ref q11, .ref q13, .ref q16, .ref q20])), (q1, .inr (2, [.ref q2, .ref q3, .ref q4, .ref q5, .ref q6, .ref q7, .int 0])), (q2, .inl (cyZ (xw X), 40, .inl (fun _ => 0))), (q3, .inl (cyI (xw X), 40, .inl (fun _ => 0))), (q4, .inl (cyI (xw X), 40, .inl (fun _ => 0))), (q5, .inl (cyI (xw X), 40, .inl (fun _ => 0))), (q6, .inl (cyI (xw X), 40, .inl (fun _ => 0))), (q7, .inl (cyI (xw X), 40, .inl (fun _ => 0))), (q8, .inr (0, [.ref q1, .ref q9, .int 2, .ref q10, .int 0])), (q9, .inl (cyI (xw X), 1365, .inl (fun _ => 0))), (q10, .inl (cyJ (xw X), 25, .inr (.inl (fun _ => 0)))), (q11, .inr (3, [.ref q12])), (q12, .inl (cyJ (xw X), 25, .inr (.inl (vp_updL (fun _ => 0) 0 1)))), (q13, .inr (4, [.ref q11, .ref q14])), (q14, .inr (3, [.ref q15])), (q15, .inl (cyJ (xw X), 25, .inr (.inl (fun _ => 0)))), (q16, .inr (5, [.ref q1, .ref q8, .ref q17, .ref q18, .ref q19, .int 0, .int 0, .int 0, .int 1])), (q17, .inl (cyI (xw X), 40, .inl (fun _ => 0))), (q18, .inl (cyI (xw X), 40, .inl (fun _ => 0))), (q19, .inl (cyI (xw X), 40, .inl (fun _ => 0))), (q20, .inr (1, [.ref q1, .ref q8, .ref q13, .ref q21, .ref q22, .int 0])), (q21, .inl (cyI (xw X), 40, .inl (fun _ => 0))), (q22, .inl (cyI (xw X), 40, .inl (fun _ => 0)))] ++ [(b0, .inr (7, [.ref r1, .ref r2, .ref r3, .ref r4, .ref r5, .ref r6, .ref r7, .int 2, .int 0, .ref r8, .ref r9, .ref r10, .ref r11, .ref r12, .ref r13, .int 0, .long 0, .long 0, .ref r14, .ref r15])), (r1, .inl (cyZ (xw X), 40, .inl (fun _ => 0))), (r2, .inl (cyI (xw X), 40, .inl (fun _ => 0))), (r3, .inl (cyI (xw X), 40, .inl (fun _ => 0))), (r4, .inl (cyI (xw X), 40, .inl (fun _ => 0))), (r5, .inl (cyI (xw X), 40, .inl (fun _ => 0))), (r6, .inl (cyI (xw X), 40, .inl (fun _ => 0))), (r7, .inl (cyI (xw X), 25, .inl (upd (fun _ => 0) 0 1))), (r8, .inl (cyI (xw X), 40, .inl (fun _ => 0))), (r9, .inl (cyI (xw X), 40, .inl (fun _ => 0))), (r10, .inl (cyI (xw X), 40, .inl (fun _ => 0))), (r11, .inl (cyI (xw X), 80, .inl (fun _ => 0))), (r12, .inl (cyI (xw X), 80, .inl (fun _ => 0))), (r13, .inl (cyI (xw X), 80, .inl (fun _ => 0))), (r14, .inl (cyI (xw X), 40, .inl (fun _ => 0))), (r15, .inl (cyI (xw X), 40, .inl (fun _ => 0)))]) 39 2642 15 _ [.ref b0]
    refine y_astore_n 2 h dL_law_15 rfl (Nat.le_of_ble_eq_true rfl) ?_
    show Wy X _ 39 2642 16 [.ref b, .ref a0, .ref b0, .null] []
    refine y_iconst0 0 h dL_law_16 (by decide) ?_
    refine y_istore_n 3 h dL_law_17 rfl (Nat.le_of_ble_eq_true rfl) ?_
    show Wy X _ 39 2642 18 [.ref b, .ref a0, .ref b0, .int 0] []
    intro H locs ls hP hD hS hl
    have eW := ws_eq (D, (fun k => ([a0, q1, q2, q3, q4, q5, q6, q7, q8, q9, q10, q11, q12, q13, q14, q15, q16, q17, q18, q19, q20, q21, q22, b0, r1, r2, r3, r4, r5, r6, r7, r8, r9, r10, r11, r12, r13, r14, r15] : List Nat).getD k 0), (cI, cJ, cZ), (fun q => s.heap.size ≤ q), (t1, t2)) a0 q1 q2 q3 q4 q5 q6 q7 q8 q9 q10 q11 q12 q13 q14 q15 q16 q17 q18 q19 q20 q21 q22 b0 r1 r2 r3 r4 r5 r6 r7 r8 r9 r10 r11 r12 r13 r14 r15 rfl rfl rfl rfl rfl rfl rfl rfl rfl rfl rfl rfl rfl rfl rfl rfl rfl rfl rfl rfl rfl rfl rfl rfl rfl rfl rfl rfl rfl rfl rfl rfl rfl rfl rfl rfl rfl rfl rfl
    subst eX
    exact pro_end hL C0 D cI cJ cZ t1 t2 (fun k => ([a0, q1, q2, q3, q4, q5, q6, q7, q8, q9, q10, q11, q12, q13, q14, q15, q16, q17, q18, q19, q20, q21, q22, b0, r1, r2, r3, r4, r5, r6, r7, r8, r9, r10, r11, r12, r13, r14, r15] : List Nat).getD k 0) hK hZ (by rw [eW]; exact hP) (by rw [eW]; exact hD) hS hl
  subst eX
  have e0 : va_P D vwCl (([] : va_W) ++ []) s.heap := fun k q hq => by cases hq
  have e1 : va_D (fun q => s.heap.size ≤ q) (([] : va_W) ++ []) := ⟨fun i j p q hp _ _ => (by cases hp), fun k q hq => (by cases hq)⟩
  have e2 := hL_entry (n := 4) [Value.ref b] (Nat.le_of_ble_eq_true rfl)
  exact go s.heap [] _ e0 e1 va_S.rf e2
set_option maxHeartbeats 4000000 in
theorem lw_walk (l : Launch) (b : Addr) (xs : List Int32) : MetFree l x (headSpec (Jvm.Cond.code x code maxLocals ret :: tables_1) room_1) (lw_P b xs) (fun _ _ _ _ _ => True) lw_Q := by
  refine MetFree.of_bodyS (code := code) (maxLocals := maxLocals) (ret := ret) (by decide) ?_ ?_
  · intro args s m h hn
    obtain ⟨meth, c, h1, h2, h3, h4, h5, h6, -, -⟩ := Cond.code_spec hn (atoms_spec (ws := Jvm.Cond.code x code maxLocals ret :: tables_1) h _ List.mem_cons_self)
    exact ⟨meth, c, h1, h2, h3, h4, h5, h6⟩
  · intro p e s m args below meth c s₁ B hml0 hP _
    obtain ⟨rfl, hx, hbd, hgv⟩ := hP
    obtain ⟨scr, harrAt, hlist, hof, hsmall⟩ := hx
    obtain ⟨hcb, hkn, -, -⟩ := State.arrayAt?_spec harrAt
    have hown : s.vm.findClass R_law = some m.cls := findClass_of_methodNamed B.named
    have hts0 : ∀ c ∈ (Jvm.Cond.code x code maxLocals ret :: tables_1), c.before #[Value.ref b] s = true := atoms_spec (ws := Jvm.Cond.code x code maxLocals ret :: tables_1) B.pre
    have hts : ∀ w ∈ lw_tbl, w.before #[Value.ref b] s = true := k2_hts_sels lw_privs (fun w hw => hts0 w (List.mem_cons_of_mem _ hw)) lw_privs_ok
    have hml : c.maxLocals = 4 := B.maxLocals_eq (hts0 _ List.mem_cons_self)
    have X₀ : Stand p l e room_1 s m #[Value.ref b] below meth c s₁ [] 0 0 := Stand.of_body B
    have hh0 : s₁.heap = s.heap := by rw [B.state]; rfl
    have hsz : scr.slots.size = xs.length := by rw [← Array.length_toList, hlist, List.length_map]
    have hval : ∀ j : Nat, j < xs.length → scr.slots[j]? = some (.int (xs.getD j 0)) := fun j hj => by
      rw [← Array.getElem?_toList, hlist]
      simp [hj]
    have hbl : b < s.heap.size := (Array.getElem?_eq_some_iff.mp hcb).1
    have hX : va_X b xs.length (fun j => xs.getD j 0) s s.heap := ⟨scr, hcb, hof, hkn, hsz, hval⟩
    have K : W p l e room_1 s m #[Value.ref b] below meth c s₁.heap [] 0 0 (lw_Z below #[Value.ref b] s) (entryFrame m ([Value.ref b] : List Value).toArray 4) := by
      rw [hh0]
      exact whole_start l hbd ⟨B.exec, B.bytes, B.returns, hml, hown, hts, hX, hbl, B.notSynchronized, hgv⟩
    obtain ⟨t, a1, o, b1, b2, b3⟩ := K s₁ rfl X₀
    exact ⟨t, o, a1, b1, b2, b3⟩
theorem lw_pre_spec {args : Array Value} {s : State} (h : (Jvm.Cond.and given_1 narrow_1).before args s = true) (hr : rest_1_c.before args s = true) : ∃ (b : Addr) (xs : List Int32), lw_P b xs args s := by
  have hs := flat_of_before _ h
  have hq := flat_of_before _ hr
  have hc : (Cond.count 1).before args s = true := hs _ (by decide +kernel)
  have harr : (Cond.arrayOf (.arg 0) .int).before args s = true := hs _ (by decide +kernel)
  have hle : (Cond.le (.length (.arg 0)) (.int 3072)).before args s = true := hs _ (by decide +kernel)
  have hlen : (Cond.isInt (.length (.arg 0))).before args s = true := hq _ (by decide +kernel)
  have hall : (Cond.all (.arg 0) (.isInt (.elem (.arg 0) (.index 0)))).before args s = true := hq _ (by decide +kernel)
  obtain ⟨b, xs, hb, hx⟩ := State.ints_of_pre rfl harr hlen hall
  have hsm : xs.length < 2 ^ 31 := hx.choose_spec.2.2.2
  have hev : (Term.length (.arg 0)).eval args s none [] s = some (.int xs.length.toInt32) := hx.length_eval hb
  have hv := Cond.le_ints hev (show (Term.int 3072).eval args s none [] s = some (.int 3072) from rfl)
  have hd : xs.length.toInt32 ≤ 3072 := by
    simpa [Cond.before, Cond.holds, hv] using hle
  have hN : xs.length ≤ 3072 := (Int32.ofNat_le_ofNat hsm (by decide)).mp (show Int32.ofNat xs.length ≤ Int32.ofNat 3072 from hd)
  exact ⟨b, xs, Cond.one_arg hc (show args[0]? = some (.ref b) from hb), hx, hN, h⟩
theorem lw_comes (l : Launch) : Comes l x (Jvm.Cond.code x code maxLocals ret :: tables_1) room_1 (fun tb e args s => Calls_1 tb e args s ∧ rest_1 tb e args s ∧ Pre_1 tb e args s)
    (fun _ _ args s o t => lw_Q args s o t) := by
  intro p e ha hc hk s m args below hf hfit hheap happ hpre
  obtain ⟨b, xs, hP⟩ := lw_pre_spec hpre.2.2 hpre.2.1
  obtain ⟨k, o, h1, h2, h3, hQ⟩ := lw_walk l b xs p e ha hc hk s m args below hf ((Spec.applies_iff_loose hf).mp happ).1 hP trivial
  exact ⟨k, o, h1, h2, h3, hQ⟩
theorem lw_frame {s t : State} {o : Outcome} {args : Array Value} (h : Framed s o t [] 600000 7302250) :
    Framed s o t (fieldLocs frame_1_writes args s ++ arrayLocs frame_1_arrays args s ++ staticLocs frame_1_statics s) 600000 7302250 := h
theorem lw_limb (L : Cond) (hL : ∀ (args : Array Value) (s t : State), L.after args s (.returned (some (.int 1))) t = true) :
    ArmFor flags0 classFile x code maxLocals ret World_1 tables_1 room_1 Calls_1 rest_1 Pre_1
      (fun tb e a s o t => postC L tb e a s o t ∧ Framed s o t (fieldLocs frame_1_writes a s ++ arrayLocs frame_1_arrays a s ++ staticLocs frame_1_statics s) 600000 7302250) := by
  intro l _ _ _ p e ha hc hk s m args below hf hfit hheap happ hpre
  obtain ⟨k, o, h1, h2, h3, rfl, hF⟩ := lw_comes l p e ha hc hk s m args below hf hfit hheap happ hpre
  exact ⟨k, _, h1, h2, h3, hL args s _, lw_frame hF⟩
theorem i_vc : Claimed_1_1 ∧ Claimed_1_2 := ⟨lw_limb limb_1_1 (fun args s t => by simp [limb_1_1, Cond.after, Cond.holds, Cond.value]), lw_limb limb_1_2 (fun args s t => Cond.after_iff.mpr (by
  first | (rw [show limb_1_2 = Cond.eq .result (.int 1) from rfl, Cond.eq_ints (x := 1) (y := 1) rfl rfl]; simp; done) | (simp [limb_1_2, Cond.value, Term.eval]; done)))⟩
