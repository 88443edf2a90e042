theorem oi_1 : Cond.instanceMethod objectInit ∈ tb := tb_at 16 (by decide +kernel) rfl
theorem oi_2 : Cond.code objectInit ⟨#[0xb1]⟩ 1 none ∈ tb := tb_at 17 (by decide +kernel) rfl
theorem ac_Z : Cond.arrayClass .boolean ∈ tb := tb_at 60 (by decide +kernel) rfl
theorem ac_I : Cond.arrayClass .int ∈ tb := tb_at 61 (by decide +kernel) rfl
theorem ac_J : Cond.arrayClass .long ∈ tb := tb_at 88 (by decide +kernel) rfl
theorem lo_X6 : Cond.methodLink RX6 1 objectInit ∈ tb := tb_at 15 (by decide +kernel) rfl
theorem lo_X2 : Cond.methodLink RX2 3 objectInit ∈ tb := tb_at 23 (by decide +kernel) rfl
theorem lo_X0 : Cond.methodLink RX0 3 objectInit ∈ tb := tb_at 67 (by decide +kernel) rfl
theorem lo_X3 : Cond.methodLink RX3 3 objectInit ∈ tb := tb_at 94 (by decide +kernel) rfl
theorem lo_X4 : Cond.methodLink RX4 3 objectInit ∈ tb := tb_at 111 (by decide +kernel) rfl
theorem lo_X5 : Cond.methodLink RX5 3 objectInit ∈ tb := tb_at 128 (by decide +kernel) rfl
theorem lo_X1 : Cond.methodLink RX1 3 objectInit ∈ tb := tb_at 166 (by decide +kernel) rfl
theorem lo_X7 : Cond.methodLink RX7 1 objectInit ∈ tb := tb_at 575 (by decide +kernel) rfl
theorem lk_L_7 : Cond.classLink RL 7 RX6 ∈ tb := tb_at 10 (by decide +kernel) rfl
theorem lk_X6_7 : Cond.classLink RX6 7 RX2 ∈ tb := tb_at 18 (by decide +kernel) rfl
theorem lk_X6_16 : Cond.classLink RX6 16 RX0 ∈ tb := tb_at 62 (by decide +kernel) rfl
theorem lk_X6_25 : Cond.classLink RX6 25 RX3 ∈ tb := tb_at 89 (by decide +kernel) rfl
theorem lk_X6_36 : Cond.classLink RX6 36 RX4 ∈ tb := tb_at 106 (by decide +kernel) rfl
theorem lk_X4_9 : Cond.classLink RX4 9 RX3 ∈ tb := tb_at 112 (by decide +kernel) rfl
theorem lk_X6_45 : Cond.classLink RX6 45 RX5 ∈ tb := tb_at 123 (by decide +kernel) rfl
theorem lk_X6_54 : Cond.classLink RX6 54 RX1 ∈ tb := tb_at 161 (by decide +kernel) rfl
theorem lk_L_10 : Cond.classLink RL 10 RX7 ∈ tb := tb_at 570 (by decide +kernel) rfl
theorem lt_X6 : Cond.instantiable RX6 6 ∈ tb := tb_at 11 (by decide +kernel) rfl
theorem lt_X2 : Cond.instantiable RX2 7 ∈ tb := tb_at 19 (by decide +kernel) rfl
theorem lt_X0 : Cond.instantiable RX0 5 ∈ tb := tb_at 63 (by decide +kernel) rfl
theorem lt_X3 : Cond.instantiable RX3 1 ∈ tb := tb_at 90 (by decide +kernel) rfl
theorem lt_X4 : Cond.instantiable RX4 2 ∈ tb := tb_at 107 (by decide +kernel) rfl
theorem lt_X5 : Cond.instantiable RX5 9 ∈ tb := tb_at 124 (by decide +kernel) rfl
theorem lt_X1 : Cond.instantiable RX1 6 ∈ tb := tb_at 162 (by decide +kernel) rfl
theorem lt_X7 : Cond.instantiable RX7 20 ∈ tb := tb_at 571 (by decide +kernel) rfl
theorem kX0_init : Cal0 yX0_init cX0_init 2 none 1 ∧ Cond.instanceMethod yX0_init ∈ tb := ⟨⟨tb_at 66 (by decide +kernel) rfl, li_X0, ⟨by decide +kernel, by decide +kernel, by decide +kernel⟩, by decide⟩, tb_at 65 (by decide +kernel) rfl⟩
theorem kX1_init : Cal0 yX1_init cX1_init 4 none 3 ∧ Cond.instanceMethod yX1_init ∈ tb := ⟨⟨tb_at 165 (by decide +kernel) rfl, li_X1, ⟨by decide +kernel, by decide +kernel, by decide +kernel⟩, by decide⟩, tb_at 164 (by decide +kernel) rfl⟩
theorem kX2_init : Cal0 yX2_init cX2_init 1 none 0 ∧ Cond.instanceMethod yX2_init ∈ tb := ⟨⟨tb_at 22 (by decide +kernel) rfl, li_X2, ⟨by decide +kernel, by decide +kernel, by decide +kernel⟩, by decide⟩, tb_at 21 (by decide +kernel) rfl⟩
theorem kX3_init : Cal0 yX3_init cX3_init 1 none 0 ∧ Cond.instanceMethod yX3_init ∈ tb := ⟨⟨tb_at 93 (by decide +kernel) rfl, li_X3, ⟨by decide +kernel, by decide +kernel, by decide +kernel⟩, by decide⟩, tb_at 92 (by decide +kernel) rfl⟩
theorem kX4_init : Cal0 yX4_init cX4_init 2 none 1 ∧ Cond.instanceMethod yX4_init ∈ tb := ⟨⟨tb_at 110 (by decide +kernel) rfl, li_X4, ⟨by decide +kernel, by decide +kernel, by decide +kernel⟩, by decide⟩, tb_at 109 (by decide +kernel) rfl⟩
theorem kX5_init : Cal0 yX5_init cX5_init 3 none 2 ∧ Cond.instanceMethod yX5_init ∈ tb := ⟨⟨tb_at 127 (by decide +kernel) rfl, li_X5, ⟨by decide +kernel, by decide +kernel, by decide +kernel⟩, by decide⟩, tb_at 126 (by decide +kernel) rfl⟩
theorem kX6_init : Cal0 yX6_init cX6_init 1 none 0 ∧ Cond.instanceMethod yX6_init ∈ tb := ⟨⟨tb_at 14 (by decide +kernel) rfl, li_X6, ⟨by decide +kernel, by decide +kernel, by decide +kernel⟩, by decide⟩, tb_at 13 (by decide +kernel) rfl⟩
theorem kX7_init : Cal0 yX7_init cX7_init 1 none 0 ∧ Cond.instanceMethod yX7_init ∈ tb := ⟨⟨tb_at 574 (by decide +kernel) rfl, li_X7, ⟨by decide +kernel, by decide +kernel, by decide +kernel⟩, by decide⟩, tb_at 573 (by decide +kernel) rfl⟩
/-- the judgement over a world that grows -/
def Wy (X : Fr) (ws : va_W) (kc ks pc : Nat) (lv st : List Value) : Prop := ∀ (H : Heap) (locs : List Loc) (ls : Array Slot), va_P (xw X).1 vwCl ws H → va_D (fA (xw X)) ws → va_S (fA (xw X)) (xs X).heap H locs → hL ls (xn X) lv → W (xp X) (xl X) (xe X) (xR X) (xs X) (xm X) (xa X) (xb X) (xme X) (xc X) H locs kc ks (xQ X) (F0 (xm X) pc ls st)
def OkC (X : Fr) (cc : ByteArray) (own : String) (d : Nat) : Prop := (xp X).tables.exec = Jvm.exec ∧ (xc X).code = cc ∧ (xc X).maxLocals = xn X ∧ (xs X).vm.findClass own = some (xm X).cls ∧ (∀ w ∈ tb, w.before (xa X) (xs X) = true) ∧ (xme X).locks = false ∧ (va_K (xw X).1 vwCl (fty (xw X)) (xs X) ∧ ∀ c ∈ nw, va_Nw c (xs X)) ∧ (d ≤ (xR X).frames ∧ 40 * d ≤ (xR X).locals) ∧ ∀ q, (xs X).heap.size ≤ q → fA (xw X) q
def QC (w : Fx) (post : Option Value → va_W → Prop) : Array Value → State → Outcome → State → Prop := fun _ st oc t => (∃ (v : Option Value) (ws : va_W), oc = .returned v ∧ post v ws ∧ va_P w.1 vwCl ws t.heap ∧ va_D (fA w) ws) ∧ va_F (fA w) st t
def RtC (X : Fr) (rt : Option FieldType) (post : Option Value → va_W → Prop) (kc ks : Nat) : Prop := (xme X).sig.returnType = rt ∧ xQ X = MQ (xb X) (QC (xw X) post) (xa X) (xs X) kc ks (fA (xw X)) ∧ (xR X).cells = kc ∧ (xR X).slots = ks
abbrev rmC (d kc ks : Nat) : Room := { frames := d, cells := kc, slots := ks, locals := 40 * d }
def PcC (w : Fx) (av : List Value) (ws : va_W) : Array Value → State → Prop := va_Pc av (fun U => va_P w.1 vwCl ws U.heap ∧ va_D (fA w) ws ∧ (va_K w.1 vwCl (fty w) U ∧ ∀ c ∈ nw, va_Nw c U) ∧ ∀ q, U.heap.size ≤ q → fA w q)
def Cc (l : Launch) (y : MethodName) (cc : ByteArray) (mL : Nat) (rt : Option FieldType) (d kc ks : Nat) (w : Fx) (av : List Value) (ws : va_W) (post : Option Value → va_W → Prop) : Prop := Met l y (.code y cc mL rt :: tb) (rmC d kc ks) (PcC w av ws) (QC w post) kc ks (fA w)
theorem Cc.of {l : Launch} {y : MethodName} {cc : ByteArray} {mL : Nat} {rt : Option FieldType} {d kc ks : Nat} {w : Fx} {av : List Value} {ws : va_W} {post : Option Value → va_W → Prop} (hy : plainName y.cls = true) (hlen : (lg_sl av).length ≤ mL)
    (body : ∀ X : Fr, OkC X cc y.cls d → RtC X rt post kc ks → (xme X).name = y.name → xl X = l → xw X = w → Wy X ws 0 0 0 (padL mL av) []) : Cc l y cc mL rt d kc ks w av ws post := by
  refine Met.ofW (cc := cc) (maxL := mL) (ret := rt) hy rfl ?_
  intro p e s m args below meth c s₁ B hml hv
  obtain ⟨rfl, hP, hD, hB, hA⟩ := hv
  have hts := atoms_spec (ws := .code y cc mL rt :: tb) B.pre
  rw [lg_entry_eq]
  exact body (p, l, e, rmC d kc ks, s, m, av.toArray, below, meth, c, (0, 0), MQ below (QC w post) av.toArray s kc ks (fA w), w, mL) ⟨B.exec, B.bytes, hml, findClass_of_methodNamed B.named, fun q hq => hts q (List.mem_cons_of_mem _ hq), B.notSynchronized, hB, ⟨Nat.le_refl _, Nat.le_refl _⟩, hA⟩ ⟨B.returns, rfl, rfl, rfl⟩ (name_of_methodNamed B.named B.method).1 rfl rfl s.heap [] _ hP hD va_S.rf (hL_entry av hlen)
theorem pa_at {pre L : va_W} {k : Nat} {e : Nat × va_E} (h : L[k]? = some e) : (pre ++ L)[pre.length + k]? = some e := by
  rw [List.getElem?_append_right (by omega), show pre.length + k - pre.length = k by omega]; exact h
theorem pa_set (pre L : va_W) (k : Nat) (e : Nat × va_E) : (pre ++ L).set (pre.length + k) e = pre ++ L.set k e := by
  rw [List.set_append_right _ _ (by omega), show pre.length + k - pre.length = k by omega]
section
variable {X : Fr} {cc : ByteArray} {own : String} {d kc ks : Nat} {pre L : va_W} {pc : Nat} {lv st : List Value}
theorem y_aload_n {q : Fin 4} (i : Nat) {x : Nat} (h : OkC X cc own d) (dg : decode cc pc = .ok (.aload_n q, 1)) (hi : (q : Nat) = i) (hx : lv[i]? = some (.ref x)) (k : Wy X (pre ++ L) kc ks (pc + 1) lv (.ref x :: st)) : Wy X (pre ++ L) kc ks pc lv st := fun H locs ls hP hD hS hl => lv_aload_n h.1 h.2.1 dg hi (hL_at hl hx (fun z => by cases z)) (k H locs ls hP hD hS hl)
theorem y_iload_n {q : Fin 4} (i : Nat) {x : Int32} (h : OkC X cc own d) (dg : decode cc pc = .ok (.iload_n q, 1)) (hi : (q : Nat) = i) (hx : lv[i]? = some (.int x)) (k : Wy X (pre ++ L) kc ks (pc + 1) lv (.int x :: st)) : Wy X (pre ++ L) kc ks pc lv st := fun H locs ls hP hD hS hl => lv_iload_n h.1 h.2.1 dg hi (hL_at hl hx (fun z => by cases z)) (k H locs ls hP hD hS hl)
theorem y_lload_n {q : Fin 4} (i : Nat) {x : Int64} (h : OkC X cc own d) (dg : decode cc pc = .ok (.lload_n q, 1)) (hi : (q : Nat) = i) (hx : lv[i]? = some (.long x)) (k : Wy X (pre ++ L) kc ks (pc + 1) lv (.long x :: st)) : Wy X (pre ++ L) kc ks pc lv st := fun H locs ls hP hD hS hl => lv_lload_n h.1 h.2.1 dg hi (hL_at hl hx (fun z => by cases z)) (k H locs ls hP hD hS hl)
theorem y_iconst {n : Int} (v : Int32) (h : OkC X cc own d) (dg : decode cc pc = .ok (.iconst n, 1)) (hv : Int32.ofInt n = v) (k : Wy X (pre ++ L) kc ks (pc + 1) lv (.int v :: st)) : Wy X (pre ++ L) kc ks pc lv st := fun H locs ls hP hD hS hl => lv_iconst h.1 h.2.1 dg hv (k H locs ls hP hD hS hl)
theorem y_bipush {n : Int} (v : Int32) (h : OkC X cc own d) (dg : decode cc pc = .ok (.bipush n, 2)) (hv : (Int8.ofInt n).toInt32 = v) (k : Wy X (pre ++ L) kc ks (pc + 2) lv (.int v :: st)) : Wy X (pre ++ L) kc ks pc lv st := fun H locs ls hP hD hS hl => lv_bipush h.1 h.2.1 dg hv (k H locs ls hP hD hS hl)
theorem y_sipush {n : Int} (v : Int32) (h : OkC X cc own d) (dg : decode cc pc = .ok (.sipush n, 3)) (hv : (Int16.ofInt n).toInt32 = v) (k : Wy X (pre ++ L) kc ks (pc + 3) lv (.int v :: st)) : Wy X (pre ++ L) kc ks pc lv st := fun H locs ls hP hD hS hl => lv_sipush h.1 h.2.1 dg hv (k H locs ls hP hD hS hl)
theorem y_lconst {n : Fin 2} (v : Int64) (h : OkC X cc own d) (dg : decode cc pc = .ok (.lconst n, 1)) (hv : Int64.ofNat (n : Nat) = v) (k : Wy X (pre ++ L) kc ks (pc + 1) lv (.long v :: st)) : Wy X (pre ++ L) kc ks pc lv st := fun H locs ls hP hD hS hl => lv_lconst h.1 h.2.1 dg hv (k H locs ls hP hD hS hl)
theorem y_dup {a : Value} (h : OkC X cc own d) (dg : decode cc pc = .ok (.dup, 1)) (ha : a.category = 1) (k : Wy X (pre ++ L) kc ks (pc + 1) lv (a :: a :: st)) : Wy X (pre ++ L) kc ks pc lv (a :: st) := fun H locs ls hP hD hS hl => lv_dup h.1 h.2.1 dg ha (k H locs ls hP hD hS hl)
theorem y_imul {x y : Int32} (h : OkC X cc own d) (dg : decode cc pc = .ok (.imul, 1)) (k : Wy X (pre ++ L) kc ks (pc + 1) lv (.int (x * y) :: st)) : Wy X (pre ++ L) kc ks pc lv (.int y :: .int x :: st) := fun H locs ls hP hD hS hl => lv_imul h.1 h.2.1 dg (k H locs ls hP hD hS hl)
theorem y_iadd {x y : Int32} (h : OkC X cc own d) (dg : decode cc pc = .ok (.iadd, 1)) (k : Wy X (pre ++ L) kc ks (pc + 1) lv (.int (x + y) :: st)) : Wy X (pre ++ L) kc ks pc lv (.int y :: .int x :: st) := fun H locs ls hP hD hS hl => lv_iadd h.1 h.2.1 dg (k H locs ls hP hD hS hl)
theorem y_obj {idx a : Nat} (h : OkC X cc own d) (hl0 : Cond.methodLink own idx objectInit ∈ tb) (hd : 1 ≤ d) (hroom : (st.map fun v => v.category).sum ≤ 8) (dg : decode cc pc = .ok (.invokespecial idx, 3)) (k : Wy X (pre ++ L) kc ks (pc + 3) lv st) : Wy X (pre ++ L) kc ks pc lv (.ref a :: st) := by
  intro H locs ls hP hD hS hl
  have hts := h.2.2.2.2.1
  have hfr := h.2.2.2.2.2.2.2.1
  exact W.objInit h.1 h.2.1 h.2.2.2.1 (hts _ hl0) (hts _ oi_1) (hts _ oi_2) rfl (hl.1.1.trans h.2.2.1.symm) rfl dg (by omega) (by show 2 * 0 + _ + 12 ≤ _; omega) (k H locs ls hP hD hS hl)
theorem y_get {ref C : String} {T : u_T} {N ci index a : Nat} {fs : List Value} {v : Value} (h : OkC X cc own d) (q0 : Nat) (he : L[q0]? = some (a, .inr (ci, fs))) (hc : vwCl[ci]? = some (C, T, N)) (hin : ∀ w ∈ u_ws C T N, w ∈ tb) (i : Nat) (hi : i < N) (hlink : Cond.fieldLink own index ref (T i).2.1 (T i).2.2.1 ∈ tb) (hr : (T i).1 = ref) (hv : fs[i]? = some v) (dg : decode cc pc = .ok (.getfield index, 3)) (k : Wy X (pre ++ L) kc ks (pc + 3) lv (v :: st)) : Wy X (pre ++ L) kc ks pc lv (.ref a :: st) := fun H locs ls hP hD hS hl => va_get h.1 h.2.1 h.2.2.2.2.1 hin h.2.2.2.1 h.2.2.2.2.2.2.1.1 hP (pre.length + q0) (pa_at he) hc i hi (h.2.2.2.2.1 _ hlink) (fun _ z => hr ▸ z) hv dg (k H locs ls hP hD hS hl)
theorem y_put {ref C : String} {T : u_T} {N ci index a : Nat} {fs : List Value} {v : Value} {ty : FieldType} (h : OkC X cc own d) (q0 : Nat) (he : L[q0]? = some (a, .inr (ci, fs))) (hc : vwCl[ci]? = some (C, T, N)) (hin : ∀ w ∈ u_ws C T N, w ∈ tb) (ty0 : Nat → FieldType) (hty : ∀ k, k < N → parseFieldDescriptor (T k).2.2.1 = some (ty0 k)) (hnm : ∀ a, a < N → ∀ b, b < N → a ≠ b → (T a).2.1 ≠ (T b).2.1) (i : Nat) (hi : i < N) (hlink : Cond.fieldLink own index ref (T i).2.1 (T i).2.2.1 ∈ tb) (hr : (T i).1 = ref) (hfin : (T i).2.2.2 = false) (hd : parseFieldDescriptor (T i).2.2.1 = some ty) (hn : narrow ty v = v) (hfit : fits ty v = true) (hl0 : i < fs.length) (dg : decode cc pc = .ok (.putfield index, 3)) (k : Wy X (pre ++ L.set q0 (a, .inr (ci, fs.set i v))) kc ks (pc + 3) lv st) : Wy X (pre ++ L) kc ks pc lv (v :: .ref a :: st) := by
  intro H locs ls hP hD hS hl
  refine va_put h.1 h.2.1 h.2.2.2.2.1 hin ty0 hty hnm h.2.2.2.1 h.2.2.2.2.2.2.1.1 hP hD hS (pre.length + q0) (pa_at he) hc i hi (h.2.2.2.2.1 _ hlink) (fun _ z => hr ▸ z) hfin hd hn hfit hl0 dg (fun H1 locs1 hP1 hD1 hS1 => ?_)
  rw [pa_set] at hP1 hD1
  exact k H1 locs1 ls hP1 hD1 hS1 hl
theorem y_putF {C : String} {T : u_T} {N ci index a : Nat} {fs : List Value} {v : Value} {ty : FieldType} (h : OkC X cc own d) (hin2 : (xme X).name = "<init>") (q0 : Nat) (he : L[q0]? = some (a, .inr (ci, fs))) (hc : vwCl[ci]? = some (C, T, N)) (hin : ∀ w ∈ u_ws C T N, w ∈ tb) (ty0 : Nat → FieldType) (hty : ∀ k, k < N → parseFieldDescriptor (T k).2.2.1 = some (ty0 k)) (hnm : ∀ a, a < N → ∀ b, b < N → a ≠ b → (T a).2.1 ≠ (T b).2.1) (i : Nat) (hi : i < N) (hlink : Cond.fieldLink own index own (T i).2.1 (T i).2.2.1 ∈ tb) (hr : (T i).1 = own) (hfin : (T i).2.2.2 = true) (hd : parseFieldDescriptor (T i).2.2.1 = some ty) (hn : narrow ty v = v) (hfit : fits ty v = true) (hl0 : i < fs.length) (dg : decode cc pc = .ok (.putfield index, 3)) (k : Wy X (pre ++ L.set q0 (a, .inr (ci, fs.set i v))) kc ks (pc + 3) lv st) : Wy X (pre ++ L) kc ks pc lv (v :: .ref a :: st) := by
  intro H locs ls hP hD hS hl
  refine va_putF h.1 h.2.1 h.2.2.2.2.1 hin ty0 hty hnm h.2.2.2.1 h.2.2.2.2.2.2.1.1 hP hD hS (pre.length + q0) (pa_at he) hc i hi (h.2.2.2.2.1 _ hlink) (fun _ z => hr ▸ z) hfin hin2 hr hd hn hfit hl0 dg (fun H1 locs1 hP1 hD1 hS1 => ?_)
  rw [pa_set] at hP1 hD1
  exact k H1 locs1 ls hP1 hD1 hS1 hl
theorem y_new {C : String} {T : u_T} {N ci index : Nat} {fs : List Value} (h : OkC X cc own d) (hin : ∀ w ∈ u_ws C T N, w ∈ tb) (ty : Nat → FieldType) (hty : ∀ k, k < N → parseFieldDescriptor (T k).2.2.1 = some (ty k)) (hcl : Cond.classLink own index C ∈ tb) (hinst : Cond.instantiable C N ∈ tb) (hini : Cond.initialized C ∈ tb) (hc : vwCl[ci]? = some (C, T, N)) (hfs : ∀ j, j < N → defaultValue (ty j) = vp_V fs j) (hk : kc + 1 ≤ (xR X).cells) (hs : ks + N ≤ (xR X).slots) (dg : decode cc pc = .ok (.new index, 3)) (k : ∀ q : Nat, Wy X (pre ++ (L ++ [(q, .inr (ci, fs))])) (kc + 1) (ks + N) (pc + 3) lv (.ref q :: st)) : Wy X (pre ++ L) kc ks pc lv st := by
  intro H locs ls hP hD hS hl
  have hts := h.2.2.2.2.1
  refine va_new h.1 h.2.1 hts hin ty hty h.2.2.2.1 (hts _ hcl) (hts _ hinst) (hts _ hini) h.2.2.2.2.2.2.1.1 hP hD hS h.2.2.2.2.2.2.2.2 hc hfs hk hs dg (fun q H1 hP1 hD1 hS1 => ?_)
  rw [List.append_assoc] at hP1 hD1
  exact k q H1 locs ls hP1 hD1 hS1 hl
end
theorem cls_same {s : State} {a b : ClassId} {ty : FieldType} (hp : ty = .int ∨ ty = .long ∨ ty = .boolean) (h1 : va_RA s a ty) (h2 : va_RA s b ty) : a = b := by
  rcases hp with rfl | rfl | rfl
  · exact Option.some.inj ((show s.vm.findClass _ = some a from h1).symm.trans h2)
  · exact Option.some.inj ((show s.vm.findClass _ = some a from h1).symm.trans h2)
  · exact Option.some.inj ((show s.vm.findClass _ = some a from h1).symm.trans h2)
section
variable {X : Fr} {cc : ByteArray} {own : String} {d kc ks : Nat} {pre L : va_W} {pc : Nat} {lv st : List Value}
theorem y_newI {n : Int32} (N : Nat) (h : OkC X cc own d) (hn : ¬ n < 0) (hN : n.toNatClampNeg = N) (hbytes : N * componentBytes .int ≤ 536870912) (hk : kc + 1 ≤ (xR X).cells) (hs : ks + N ≤ (xR X).slots) (dg : decode cc pc = .ok (.newarray .int, 2)) (k : ∀ q : Nat, Wy X (pre ++ (L ++ [(q, .inl (cyI (xw X), N, .inl (fun _ => 0)))])) (kc + 1) (ks + N) (pc + 2) lv (.ref q :: st)) : Wy X (pre ++ L) kc ks pc lv (.int n :: st) := by
  intro H locs ls hP hD hS hl
  have hts := h.2.2.2.2.1
  refine va_newa (atype := .int) (ty := .int) (a0 := (N, .inl (fun _ => 0))) h.1 h.2.1 (hts _ ac_I) rfl h.2.2.2.2.2.2.1.1 hP hD hS h.2.2.2.2.2.2.2.2 (fun cA => rfl) hn hN hbytes hk hs dg (fun q cA H1 hK1 hP1 hD1 hS1 => ?_)
  have e : cA = cyI (xw X) := cls_same (ty := .int) (by decide) (hK1.2 3 _ rfl).2 (hK1.2 0 _ rfl).2
  subst e
  rw [List.append_assoc] at hP1 hD1
  exact k q H1 locs ls hP1 hD1 hS1 hl
theorem y_newJ {n : Int32} (N : Nat) (h : OkC X cc own d) (hn : ¬ n < 0) (hN : n.toNatClampNeg = N) (hbytes : N * componentBytes .long ≤ 536870912) (hk : kc + 1 ≤ (xR X).cells) (hs : ks + N ≤ (xR X).slots) (dg : decode cc pc = .ok (.newarray .long, 2)) (k : ∀ q : Nat, Wy X (pre ++ (L ++ [(q, .inl (cyJ (xw X), N, .inr (.inl (fun _ => 0))))])) (kc + 1) (ks + N) (pc + 2) lv (.ref q :: st)) : Wy X (pre ++ L) kc ks pc lv (.int n :: st) := by
  intro H locs ls hP hD hS hl
  have hts := h.2.2.2.2.1
  refine va_newa (atype := .long) (ty := .long) (a0 := (N, .inr (.inl (fun _ => 0)))) h.1 h.2.1 (hts _ ac_J) rfl h.2.2.2.2.2.2.1.1 hP hD hS h.2.2.2.2.2.2.2.2 (fun cA => rfl) hn hN hbytes hk hs dg (fun q cA H1 hK1 hP1 hD1 hS1 => ?_)
  have e : cA = cyJ (xw X) := cls_same (ty := .long) (by decide) (hK1.2 3 _ rfl).2 (hK1.2 1 _ rfl).2
  subst e
  rw [List.append_assoc] at hP1 hD1
  exact k q H1 locs ls hP1 hD1 hS1 hl
theorem y_newZ {n : Int32} (N : Nat) (h : OkC X cc own d) (hn : ¬ n < 0) (hN : n.toNatClampNeg = N) (hbytes : N * componentBytes .boolean ≤ 536870912) (hk : kc + 1 ≤ (xR X).cells) (hs : ks + N ≤ (xR X).slots) (dg : decode cc pc = .ok (.newarray .boolean, 2)) (k : ∀ q : Nat, Wy X (pre ++ (L ++ [(q, .inl (cyZ (xw X), N, .inl (fun _ => 0)))])) (kc + 1) (ks + N) (pc + 2) lv (.ref q :: st)) : Wy X (pre ++ L) kc ks pc lv (.int n :: st) := by
  intro H locs ls hP hD hS hl
  have hts := h.2.2.2.2.1
  refine va_newa (atype := .boolean) (ty := .boolean) (a0 := (N, .inl (fun _ => 0))) h.1 h.2.1 (hts _ ac_Z) rfl h.2.2.2.2.2.2.1.1 hP hD hS h.2.2.2.2.2.2.2.2 (fun cA => rfl) hn hN hbytes hk hs dg (fun q cA H1 hK1 hP1 hD1 hS1 => ?_)
  have e : cA = cyZ (xw X) := cls_same (ty := .boolean) (by decide) (hK1.2 3 _ rfl).2 (hK1.2 2 _ rfl).2
  subst e
  rw [List.append_assoc] at hP1 hD1
  exact k q H1 locs ls hP1 hD1 hS1 hl
theorem y_iast {a n q0 : Nat} {f : Nat → Int32} {i x : Int32} (h : OkC X cc own d) (he : L[q0]? = some (a, .inl (cyI (xw X), n, .inl f))) (hin : vp_in i n) (dg : decode cc pc = .ok (.iastore, 1)) (k : Wy X (pre ++ L.set q0 (a, .inl (cyI (xw X), n, .inl (upd f i.toNatClampNeg x)))) kc ks (pc + 1) lv st) : Wy X (pre ++ L) kc ks pc lv (.int x :: .int i :: .ref a :: st) := by
  intro H locs ls hP hD hS hl
  refine va_iast h.1 h.2.1 h.2.2.2.2.2.2.1.1 hP hD hS (pre.length + q0) 0 (pa_at he) rfl hin dg (fun H1 locs1 hP1 hD1 hS1 => ?_)
  rw [pa_set] at hP1 hD1
  exact k H1 locs1 ls hP1 hD1 hS1 hl
theorem y_last {a n q0 : Nat} {f : Nat → Int64} {i : Int32} {x : Int64} (h : OkC X cc own d) (he : L[q0]? = some (a, .inl (cyJ (xw X), n, .inr (.inl f)))) (hin : vp_in i n) (dg : decode cc pc = .ok (.lastore, 1)) (k : Wy X (pre ++ L.set q0 (a, .inl (cyJ (xw X), n, .inr (.inl (vp_updL f i.toNatClampNeg x))))) kc ks (pc + 1) lv st) : Wy X (pre ++ L) kc ks pc lv (.long x :: .int i :: .ref a :: st) := by
  intro H locs ls hP hD hS hl
  refine va_last h.1 h.2.1 h.2.2.2.2.2.2.1.1 hP hD hS (pre.length + q0) 1 (pa_at he) rfl hin dg (fun H1 locs1 hP1 hD1 hS1 => ?_)
  rw [pa_set] at hP1 hD1
  exact k H1 locs1 ls hP1 hD1 hS1 hl
theorem y_vret {kc' ks' : Nat} {ws : va_W} {post : Option Value → va_W → Prop} (h : OkC X cc own d) (hr : RtC X none post kc' ks') (dg : decode cc pc = .ok (.return_, 1)) (hk : kc ≤ kc') (hs : ks ≤ ks') (hp : post none ws) : Wy X ws kc ks pc lv [] := by
  intro H locs ls hP hD hS hl
  rw [hr.2.1]
  refine W.widen hk hs ?_
  exact W.vret (Qc := QC (xw X) post) (free := fA (xw X)) h.1 h.2.1 hr.1 (fun t ht hW => ⟨⟨none, ws, rfl, hp, by rw [ht]; exact hP, hD⟩, hS.F ht⟩) hS.2.2 dg h.2.2.2.2.2.1
theorem y_iret {kc' ks' : Nat} {ws : va_W} {v : Int32} {post : Option Value → va_W → Prop} (h : OkC X cc own d) (hr : RtC X (some .int) post kc' ks') (dg : decode cc pc = .ok (.ireturn, 1)) (hk : kc ≤ kc') (hs : ks ≤ ks') (hp : post (some (.int v)) ws) : Wy X ws kc ks pc lv [.int v] := by
  intro H locs ls hP hD hS hl
  rw [hr.2.1]
  refine W.widen hk hs ?_
  exact W.iret (Qc := QC (xw X) post) (free := fA (xw X)) h.1 h.2.1 hr.1 (fun t ht hW => ⟨⟨some (.int v), ws, rfl, hp, by rw [ht]; exact hP, hD⟩, hS.F ht⟩) hS.2.2 dg h.2.2.2.2.2.1
theorem pcC_blind {w : Fx} {av : List Value} {ws : va_W} : FrameBlind (PcC w av ws) := fun a U g mk q => ⟨q.1, q.2.1, q.2.2.1, ⟨va_K.moved (u := U) (U := U.calling g mk a) (Vm.Alike.refl U.vm) q.2.2.2.1.1, nw_same (s := U) (U := U.calling g mk a) rfl q.2.2.2.1.2⟩, q.2.2.2.2⟩
theorem pcC_pre {ws : va_W} {av : List Value} {H : Heap} {locs : List Loc} (h : OkC X cc own d) (hP : va_P (xw X).1 vwCl ws H) (hD : va_D (fA (xw X)) ws) (hS : va_S (fA (xw X)) (xs X).heap H locs) : ∀ U : State, U.heap = H → (xs X).WarmedH U.vm → PcC (xw X) av ws av.toArray U := fun U hU hW => ⟨rfl, by rw [hU]; exact hP, hD, ⟨va_K.moved hW.alike h.2.2.2.2.2.2.1.1, nw_warm hW h.2.2.2.2.2.2.1.2⟩, fun q hq => h.2.2.2.2.2.2.2.2 q (Nat.le_trans hS.1 (by rw [← hU]; exact hq))⟩
theorem y_after {a : Array Value} {g0 rest : List Value} {post : Option Value → va_W → Prop} {H : Heap} {locs : List Loc} {ls : Array Slot} {mc ms : Nat} (hS : va_S (fA (xw X)) (xs X).heap H locs) (hl : hL ls (xn X) lv)
    (hr : va_Run (xp X) (xl X) (xe X) (xR X) (xs X) (xm X) (xa X) (xb X) (xme X) (xc X) H locs kc ks mc ms (F0 (xm X) pc ls g0) rest (QC (xw X) post a) (fA (xw X)))
    (k : ∀ (v : Option Value) (ws : va_W), post v ws → Wy X ws (kc + mc) (ks + ms) (pc + 3) lv (v.toList ++ rest)) : W (xp X) (xl X) (xe X) (xR X) (xs X) (xm X) (xa X) (xb X) (xme X) (xc X) H locs kc ks (xQ X) (F0 (xm X) pc ls g0) := by
  intro T hT Xs
  obtain ⟨v, st₀, t, T', L', h0, X', hL', e1, e2, ⟨⟨v', ws, hv, hpp, hP', hD'⟩, hz, hk⟩, stp⟩ := hr T hT Xs
  cases hv
  rw [h0] at hz hk
  have hS' : va_S (fA (xw X)) (xs X).heap T'.heap (locs ++ L') := ⟨Nat.le_trans hS.1 (by rw [e1]; exact hz), fun q h1 h2 => by rw [e1, hk q (Nat.lt_of_lt_of_le h1 hS.1) h2]; exact hS.2.1 q h1 h2, fun q hq => by
    rcases List.mem_append.mp hq with z | z
    · exact hS.2.2 q z
    · exact hL' q z⟩
  obtain ⟨t2, a1, b1⟩ := k v ws hpp T'.heap (locs ++ L') ls (by rw [e1]; exact hP') hD' hS' hl T' rfl X'
  exact ⟨t2, stp t2 a1, b1⟩
theorem y_callI {y : MethodName} {cc' : ByteArray} {mL d' n b idx mc ms : Nat} {As rest : List Value} {ws : va_W} {post : Option Value → va_W → Prop} (h : OkC X cc own d) (hM : Cc (xl X) y cc' mL none d' mc ms (xw X) (.ref b :: As) ws post) (hc : Cal0 y cc' mL none n ∧ Cond.instanceMethod y ∈ tb) (hy1 : y.name = "<init>") (hlink : Cond.methodLink own idx y ∈ tb) (hd : d' + 1 ≤ d) (hn : As.length = n) (hst : st = As.reverse ++ .ref b :: rest) (hroom : (rest.map fun v => v.category).sum ≤ 8) (hk : kc + mc ≤ (xR X).cells) (hs : ks + ms ≤ (xR X).slots) (dg : decode cc pc = .ok (.invokespecial idx, 3)) (k : ∀ (v : Option Value) (ws' : va_W), post v ws' → Wy X ws' (kc + mc) (ks + ms) (pc + 3) lv (v.toList ++ rest)) : Wy X ws kc ks pc lv st := by
  subst hst
  intro H locs ls hP hD hS hl
  obtain ⟨⟨c1, c2, c3, c4⟩, c5⟩ := hc
  have hts := h.2.2.2.2.1
  have hfr := h.2.2.2.2.2.2.2.1
  have hcw := cwI (R := xR X) (s := xs X) (args := xa X) (Ts := tb) (ws := Cond.code y cc' mL none :: tb) (ws' := tb) (y := y) (bytes := cc') (maxL := mL) (index := idx) (mc := mc) (ms := ms) (own := own) (rm := rmC d' mc ms) n hts (good_of (fun w hw => by
    rcases List.mem_cons.mp hw with rfl | z
    · exact c1
    · exact z)) rfl rfl rfl (hts _ c2) (hts _ hlink) (hts _ c5) hy1 c3 ⟨by show d' + 1 ≤ (xR X).frames; omega, by show 8 + (mL + 11) + 40 * d' ≤ (xR X).locals; omega⟩
  have hr := va_runI (cc := cc) (nL := xn X) (Ts := tb) (own := own) (As := As) (rest := rest) (b := b) (g := F0 (xm X) pc ls (As.reverse ++ .ref b :: rest)) (H := H) (locs := locs) (below := xb X) (e := xe X) (meth := xme X) (cells := kc) (slots := ks) ⟨h.1, h.2.1, h.2.2.1, h.2.2.2.1, hts⟩ hM hcw ⟨pcC_blind, pcC_pre h hP hD hS⟩ rfl hn hl.1.1 rfl (lv_room hroom) dg ⟨hk, hs⟩
  exact y_after hS hl hr k
theorem y_callIN {y : MethodName} {cc' : ByteArray} {mL d' n b idx mc ms : Nat} {As rest : List Value} {ws : va_W} {post : Option Value → va_W → Prop} (h : OkC X cc own d) (hM : Cc (xl X) y cc' mL none d' mc ms (xw X) (.ref b :: As) ws post) (hc : Cal0 y cc' mL none n ∧ Cond.instanceMethod y ∈ tb) (hy1 : y.name = "<init>") (hlink : Cond.methodLinkNest own idx y "FarSums" ∈ nw) (hd : d' + 1 ≤ d) (hn : As.length = n) (hst : st = As.reverse ++ .ref b :: rest) (hroom : (rest.map fun v => v.category).sum ≤ 8) (hk : kc + mc ≤ (xR X).cells) (hs : ks + ms ≤ (xR X).slots) (dg : decode cc pc = .ok (.invokespecial idx, 3)) (k : ∀ (v : Option Value) (ws' : va_W), post v ws' → Wy X ws' (kc + mc) (ks + ms) (pc + 3) lv (v.toList ++ rest)) : Wy X ws kc ks pc lv st := by
  subst hst
  intro H locs ls hP hD hS hl
  obtain ⟨⟨c1, c2, c3, c4⟩, c5⟩ := hc
  have hts := h.2.2.2.2.1
  have hfr := h.2.2.2.2.2.2.2.1
  have hcw := va_cnB (R := xR X) (s := xs X) (args := xa X) (own := own) (host := "FarSums") (index := idx) (maxL := mL) (mc := mc) (ms := ms) (y := y) (bytes := cc') (ret := none) (Ts := tb) (ws := Cond.code y cc' mL none :: tb) (ws' := tb) (rm := rmC d' mc ms) n hts (good_of (fun w hw => by
    rcases List.mem_cons.mp hw with rfl | z
    · exact c1
    · exact z)) rfl rfl rfl (h.2.2.2.2.2.2.1.2 _ hlink) (hts _ c2) c3 ⟨by show d' + 1 ≤ (xR X).frames; omega, by show 8 + (mL + 11) + 40 * d' ≤ (xR X).locals; omega⟩
  have hr := va_runIN (cc := cc) (nL := xn X) (Ts := tb) (own := own) (As := As) (rest := rest) (b := b) (g := F0 (xm X) pc ls (As.reverse ++ .ref b :: rest)) (H := H) (locs := locs) (below := xb X) (e := xe X) (meth := xme X) (cells := kc) (slots := ks) ⟨h.1, h.2.1, h.2.2.1, h.2.2.2.1, hts⟩ hM ⟨hcw, hy1, hts _ c5⟩ ⟨pcC_blind, pcC_pre h hP hD hS⟩ rfl hn hl.1.1 rfl (lv_room hroom) dg ⟨hk, hs⟩
  exact y_after hS hl hr k
theorem y_callSN {y : MethodName} {cc' : ByteArray} {mL d' n idx mc ms : Nat} {rt : Option FieldType} {As rest : List Value} {ws : va_W} {post : Option Value → va_W → Prop} (h : OkC X cc own d) (hM : Cc (xl X) y cc' mL rt d' mc ms (xw X) As ws post) (hc : CalS y cc' mL rt n) (hlink : Cond.methodLinkNest own idx y "FarSums" ∈ nw) (hd : d' + 1 ≤ d) (hn : As.length = n) (hst : st = As.reverse ++ rest) (hroom : (rest.map fun v => v.category).sum ≤ 8) (hk : kc + mc ≤ (xR X).cells) (hs : ks + ms ≤ (xR X).slots) (dg : decode cc pc = .ok (.invokestatic idx, 3)) (k : ∀ (v : Option Value) (ws' : va_W), post v ws' → Wy X ws' (kc + mc) (ks + ms) (pc + 3) lv (v.toList ++ rest)) : Wy X ws kc ks pc lv st := by
  subst hst
  intro H locs ls hP hD hS hl
  obtain ⟨⟨c1, c2, c3, c4⟩, c5⟩ := hc
  have hts := h.2.2.2.2.1
  have hfr := h.2.2.2.2.2.2.2.1
  have hcw := va_cnB (R := xR X) (s := xs X) (args := xa X) (own := own) (host := "FarSums") (index := idx) (maxL := mL) (mc := mc) (ms := ms) (y := y) (bytes := cc') (ret := rt) (Ts := tb) (ws := Cond.code y cc' mL rt :: tb) (ws' := tb) (rm := rmC d' mc ms) n hts (good_of (fun w hw => by
    rcases List.mem_cons.mp hw with rfl | z
    · exact c1
    · exact z)) rfl rfl rfl (h.2.2.2.2.2.2.1.2 _ hlink) (hts _ c2) c3 ⟨by show d' + 1 ≤ (xR X).frames; omega, by show 8 + (mL + 11) + 40 * d' ≤ (xR X).locals; omega⟩
  have hr := va_runSN (cc := cc) (nL := xn X) (Ts := tb) (own := own) (As := As) (rest := rest) (g := F0 (xm X) pc ls (As.reverse ++ rest)) (H := H) (locs := locs) (below := xb X) (e := xe X) (meth := xme X) (cells := kc) (slots := ks) ⟨h.1, h.2.1, h.2.2.1, h.2.2.2.1, hts⟩ hM ⟨hcw, hts _ c5, trivial⟩ ⟨pcC_blind, pcC_pre h hP hD hS⟩ rfl hn hl.1.1 rfl (lv_room hroom) dg ⟨hk, hs⟩
  exact y_after hS hl hr k
theorem y_callV {y : MethodName} {cc' : ByteArray} {mL d' n b idx mc ms ci N : Nat} {rt : Option FieldType} {As rest : List Value} {ws : va_W} {fs : List Value} {T : u_T} {post : Option Value → va_W → Prop} (h : OkC X cc own d) (hM : Cc (xl X) y cc' mL rt d' mc ms (xw X) (.ref b :: As) ws post) (hc : CalV y cc' mL rt n) (hlink : Cond.methodLink own idx y ∈ tb) (hd : d' + 1 ≤ d) (q0 : Nat) (hpl : ws[q0]? = some (b, .inr (ci, fs))) (hcl : vwCl[ci]? = some (y.cls, T, N)) (hn : As.length = n) (hst : st = As.reverse ++ .ref b :: rest) (hroom : (rest.map fun v => v.category).sum ≤ 8) (hk : kc + mc ≤ (xR X).cells) (hs : ks + ms ≤ (xR X).slots) (dg : decode cc pc = .ok (.invokevirtual idx, 3)) (k : ∀ (v : Option Value) (ws' : va_W), post v ws' → Wy X ws' (kc + mc) (ks + ms) (pc + 3) lv (v.toList ++ rest)) : Wy X ws kc ks pc lv st := by
  subst hst
  intro H locs ls hP hD hS hl
  obtain ⟨⟨c1, c2, c3, c4⟩, c5, c6⟩ := hc
  have hts := h.2.2.2.2.1
  have hfr := h.2.2.2.2.2.2.2.1
  have hcw : CallW (xR X) (xs X) (xa X) own y.cls idx y cc' mL rt (Cond.code y cc' mL rt :: tb) (rmC d' mc ms) mc ms n := cwV n hts (good_of (fun w hw => by
    rcases List.mem_append.mp hw with z | z
    · simp only [List.mem_cons, List.not_mem_nil, or_false] at z
      rcases z with rfl | rfl | rfl | rfl <;> assumption
    · rcases List.mem_cons.mp z with rfl | z
      · exact c1
      · exact z)) rfl rfl rfl ⟨rfl, c3⟩ ⟨by show d' + 1 ≤ (xR X).frames; omega, by show 8 + (mL + 11) + 40 * d' ≤ (xR X).locals; omega⟩
  have hr := va_runV (cc := cc) (nL := xn X) (Ts := tb) (own := own) (As := As) (rest := rest) (b := b) (g := F0 (xm X) pc ls (As.reverse ++ .ref b :: rest)) (H := H) (locs := locs) (below := xb X) (e := xe X) (meth := xme X) (cells := kc) (slots := ks) ⟨h.1, h.2.1, h.2.2.1, h.2.2.2.1, hts⟩ hM hcw ⟨pcC_blind, va_recv h.2.2.2.2.2.2.1.1 hP hcl hpl, pcC_pre h hP hD hS⟩ rfl hn hl.1.1 rfl (lv_room hroom) dg ⟨hk, hs⟩
  exact y_after hS hl hr k
end
