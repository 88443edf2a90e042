/-- the abstract state: rows of ints and of longs by their numbers (a lone field is place 0 of its row) -/
abbrev St : Type := (Nat → Nat → Int32) × (Nat → Nat → Int64)
def sI (S : St) (k i : Nat) (v : Int32) : St := (fun a => if a = k then upd (S.1 k) i v else S.1 a, S.2)
def sJ (S : St) (k i : Nat) (v : Int64) : St := (S.1, fun a => if a = k then vp_updL (S.2 k) i v else S.2 a)
/-- what is fixed of the world: class table, addresses, array classes, which cells may change, the two static tables -/
abbrev Fx : Type := va_G × (Nat → Nat) × (ClassId × ClassId × ClassId) × (Nat → Prop) × (Nat × Nat)
def aD (w : Fx) (k : Nat) : Nat := w.2.1 k
def cyI (w : Fx) : ClassId := w.2.2.1.1
def cyJ (w : Fx) : ClassId := w.2.2.1.2.1
def cyZ (w : Fx) : ClassId := w.2.2.1.2.2
def fA (w : Fx) : Nat → Prop := w.2.2.2.1
def fT1 (w : Fx) : Nat := w.2.2.2.2.1
def fT2 (w : Fx) : Nat := w.2.2.2.2.2
def fty (w : Fx) : List (ClassId × FieldType) := [(cyI w, .int), (cyJ w, .long), (cyZ w, .boolean)]
def wS (w : Fx) (S : St) : va_W := [
  (aD w 0, .inr (6, [.ref (aD w 1), .ref (aD w 8), .ref (aD w 11), .ref (aD w 13), .ref (aD w 16), .ref (aD w 20)])),
  (aD w 1, .inr (2, [.ref (aD w 2), .ref (aD w 3), .ref (aD w 4), .ref (aD w 5), .ref (aD w 6), .ref (aD w 7), .int (S.1 6 0)])),
  (aD w 2, .inl (cyZ w, 40, .inl (S.1 0))),
  (aD w 3, .inl (cyI w, 40, .inl (S.1 1))),
  (aD w 4, .inl (cyI w, 40, .inl (S.1 2))),
  (aD w 5, .inl (cyI w, 40, .inl (S.1 3))),
  (aD w 6, .inl (cyI w, 40, .inl (S.1 4))),
  (aD w 7, .inl (cyI w, 40, .inl (S.1 5))),
  (aD w 8, .inr (0, [.ref (aD w 1), .ref (aD w 9), .int (S.1 8 0), .ref (aD w 10), .int (S.1 9 0)])),
  (aD w 9, .inl (cyI w, 1365, .inl (S.1 7))),
  (aD w 10, .inl (cyJ w, 25, .inr (.inl (S.2 0)))),
  (aD w 11, .inr (3, [.ref (aD w 12)])),
  (aD w 12, .inl (cyJ w, 25, .inr (.inl (S.2 1)))),
  (aD w 13, .inr (4, [.ref (aD w 11), .ref (aD w 14)])),
  (aD w 14, .inr (3, [.ref (aD w 15)])),
  (aD w 15, .inl (cyJ w, 25, .inr (.inl (S.2 2)))),
  (aD w 16, .inr (5, [.ref (aD w 1), .ref (aD w 8), .ref (aD w 17), .ref (aD w 18), .ref (aD w 19), .int (S.1 13 0), .int (S.1 14 0), .int (S.1 15 0), .int (S.1 16 0)])),
  (aD w 17, .inl (cyI w, 40, .inl (S.1 10))),
  (aD w 18, .inl (cyI w, 40, .inl (S.1 11))),
  (aD w 19, .inl (cyI w, 40, .inl (S.1 12))),
  (aD w 20, .inr (1, [.ref (aD w 1), .ref (aD w 8), .ref (aD w 13), .ref (aD w 21), .ref (aD w 22), .int (S.1 19 0)])),
  (aD w 21, .inl (cyI w, 40, .inl (S.1 17))),
  (aD w 22, .inl (cyI w, 40, .inl (S.1 18))),
  (aD w 23, .inr (7, [.ref (aD w 24), .ref (aD w 25), .ref (aD w 26), .ref (aD w 27), .ref (aD w 28), .ref (aD w 29), .ref (aD w 30), .int (S.1 27 0), .int (S.1 28 0), .ref (aD w 31), .ref (aD w 32), .ref (aD w 33), .ref (aD w 34), .ref (aD w 35), .ref (aD w 36), .int (S.1 35 0), .long (S.2 3 0), .long (S.2 4 0), .ref (aD w 37), .ref (aD w 38)])),
  (aD w 24, .inl (cyZ w, 40, .inl (S.1 20))),
  (aD w 25, .inl (cyI w, 40, .inl (S.1 21))),
  (aD w 26, .inl (cyI w, 40, .inl (S.1 22))),
  (aD w 27, .inl (cyI w, 40, .inl (S.1 23))),
  (aD w 28, .inl (cyI w, 40, .inl (S.1 24))),
  (aD w 29, .inl (cyI w, 40, .inl (S.1 25))),
  (aD w 30, .inl (cyI w, 25, .inl (S.1 26))),
  (aD w 31, .inl (cyI w, 40, .inl (S.1 29))),
  (aD w 32, .inl (cyI w, 40, .inl (S.1 30))),
  (aD w 33, .inl (cyI w, 40, .inl (S.1 31))),
  (aD w 34, .inl (cyI w, 80, .inl (S.1 32))),
  (aD w 35, .inl (cyI w, 80, .inl (S.1 33))),
  (aD w 36, .inl (cyI w, 80, .inl (S.1 34))),
  (aD w 37, .inl (cyI w, 40, .inl (S.1 36))),
  (aD w 38, .inl (cyI w, 40, .inl (S.1 37)))]
theorem pl_0 (w : Fx) (S : St) : (wS w S)[0]? = some (aD w 0, .inr (6, [.ref (aD w 1), .ref (aD w 8), .ref (aD w 11), .ref (aD w 13), .ref (aD w 16), .ref (aD w 20)])) := rfl
theorem pl_1 (w : Fx) (S : St) : (wS w S)[1]? = some (aD w 1, .inr (2, [.ref (aD w 2), .ref (aD w 3), .ref (aD w 4), .ref (aD w 5), .ref (aD w 6), .ref (aD w 7), .int (S.1 6 0)])) := rfl
theorem pl_2 (w : Fx) (S : St) : (wS w S)[2]? = some (aD w 2, .inl (cyZ w, 40, .inl (S.1 0))) := rfl
theorem pl_3 (w : Fx) (S : St) : (wS w S)[3]? = some (aD w 3, .inl (cyI w, 40, .inl (S.1 1))) := rfl
theorem pl_4 (w : Fx) (S : St) : (wS w S)[4]? = some (aD w 4, .inl (cyI w, 40, .inl (S.1 2))) := rfl
theorem pl_5 (w : Fx) (S : St) : (wS w S)[5]? = some (aD w 5, .inl (cyI w, 40, .inl (S.1 3))) := rfl
theorem pl_6 (w : Fx) (S : St) : (wS w S)[6]? = some (aD w 6, .inl (cyI w, 40, .inl (S.1 4))) := rfl
theorem pl_7 (w : Fx) (S : St) : (wS w S)[7]? = some (aD w 7, .inl (cyI w, 40, .inl (S.1 5))) := rfl
theorem pl_8 (w : Fx) (S : St) : (wS w S)[8]? = some (aD w 8, .inr (0, [.ref (aD w 1), .ref (aD w 9), .int (S.1 8 0), .ref (aD w 10), .int (S.1 9 0)])) := rfl
theorem pl_9 (w : Fx) (S : St) : (wS w S)[9]? = some (aD w 9, .inl (cyI w, 1365, .inl (S.1 7))) := rfl
theorem pl_10 (w : Fx) (S : St) : (wS w S)[10]? = some (aD w 10, .inl (cyJ w, 25, .inr (.inl (S.2 0)))) := rfl
theorem pl_11 (w : Fx) (S : St) : (wS w S)[11]? = some (aD w 11, .inr (3, [.ref (aD w 12)])) := rfl
theorem pl_12 (w : Fx) (S : St) : (wS w S)[12]? = some (aD w 12, .inl (cyJ w, 25, .inr (.inl (S.2 1)))) := rfl
theorem pl_13 (w : Fx) (S : St) : (wS w S)[13]? = some (aD w 13, .inr (4, [.ref (aD w 11), .ref (aD w 14)])) := rfl
theorem pl_14 (w : Fx) (S : St) : (wS w S)[14]? = some (aD w 14, .inr (3, [.ref (aD w 15)])) := rfl
theorem pl_15 (w : Fx) (S : St) : (wS w S)[15]? = some (aD w 15, .inl (cyJ w, 25, .inr (.inl (S.2 2)))) := rfl
theorem pl_16 (w : Fx) (S : St) : (wS w S)[16]? = some (aD w 16, .inr (5, [.ref (aD w 1), .ref (aD w 8), .ref (aD w 17), .ref (aD w 18), .ref (aD w 19), .int (S.1 13 0), .int (S.1 14 0), .int (S.1 15 0), .int (S.1 16 0)])) := rfl
theorem pl_17 (w : Fx) (S : St) : (wS w S)[17]? = some (aD w 17, .inl (cyI w, 40, .inl (S.1 10))) := rfl
theorem pl_18 (w : Fx) (S : St) : (wS w S)[18]? = some (aD w 18, .inl (cyI w, 40, .inl (S.1 11))) := rfl
theorem pl_19 (w : Fx) (S : St) : (wS w S)[19]? = some (aD w 19, .inl (cyI w, 40, .inl (S.1 12))) := rfl
theorem pl_20 (w : Fx) (S : St) : (wS w S)[20]? = some (aD w 20, .inr (1, [.ref (aD w 1), .ref (aD w 8), .ref (aD w 13), .ref (aD w 21), .ref (aD w 22), .int (S.1 19 0)])) := rfl
theorem pl_21 (w : Fx) (S : St) : (wS w S)[21]? = some (aD w 21, .inl (cyI w, 40, .inl (S.1 17))) := rfl
theorem pl_22 (w : Fx) (S : St) : (wS w S)[22]? = some (aD w 22, .inl (cyI w, 40, .inl (S.1 18))) := rfl
theorem pl_23 (w : Fx) (S : St) : (wS w S)[23]? = some (aD w 23, .inr (7, [.ref (aD w 24), .ref (aD w 25), .ref (aD w 26), .ref (aD w 27), .ref (aD w 28), .ref (aD w 29), .ref (aD w 30), .int (S.1 27 0), .int (S.1 28 0), .ref (aD w 31), .ref (aD w 32), .ref (aD w 33), .ref (aD w 34), .ref (aD w 35), .ref (aD w 36), .int (S.1 35 0), .long (S.2 3 0), .long (S.2 4 0), .ref (aD w 37), .ref (aD w 38)])) := rfl
theorem pl_24 (w : Fx) (S : St) : (wS w S)[24]? = some (aD w 24, .inl (cyZ w, 40, .inl (S.1 20))) := rfl
theorem pl_25 (w : Fx) (S : St) : (wS w S)[25]? = some (aD w 25, .inl (cyI w, 40, .inl (S.1 21))) := rfl
theorem pl_26 (w : Fx) (S : St) : (wS w S)[26]? = some (aD w 26, .inl (cyI w, 40, .inl (S.1 22))) := rfl
theorem pl_27 (w : Fx) (S : St) : (wS w S)[27]? = some (aD w 27, .inl (cyI w, 40, .inl (S.1 23))) := rfl
theorem pl_28 (w : Fx) (S : St) : (wS w S)[28]? = some (aD w 28, .inl (cyI w, 40, .inl (S.1 24))) := rfl
theorem pl_29 (w : Fx) (S : St) : (wS w S)[29]? = some (aD w 29, .inl (cyI w, 40, .inl (S.1 25))) := rfl
theorem pl_30 (w : Fx) (S : St) : (wS w S)[30]? = some (aD w 30, .inl (cyI w, 25, .inl (S.1 26))) := rfl
theorem pl_31 (w : Fx) (S : St) : (wS w S)[31]? = some (aD w 31, .inl (cyI w, 40, .inl (S.1 29))) := rfl
theorem pl_32 (w : Fx) (S : St) : (wS w S)[32]? = some (aD w 32, .inl (cyI w, 40, .inl (S.1 30))) := rfl
theorem pl_33 (w : Fx) (S : St) : (wS w S)[33]? = some (aD w 33, .inl (cyI w, 40, .inl (S.1 31))) := rfl
theorem pl_34 (w : Fx) (S : St) : (wS w S)[34]? = some (aD w 34, .inl (cyI w, 80, .inl (S.1 32))) := rfl
theorem pl_35 (w : Fx) (S : St) : (wS w S)[35]? = some (aD w 35, .inl (cyI w, 80, .inl (S.1 33))) := rfl
theorem pl_36 (w : Fx) (S : St) : (wS w S)[36]? = some (aD w 36, .inl (cyI w, 80, .inl (S.1 34))) := rfl
theorem pl_37 (w : Fx) (S : St) : (wS w S)[37]? = some (aD w 37, .inl (cyI w, 40, .inl (S.1 36))) := rfl
theorem pl_38 (w : Fx) (S : St) : (wS w S)[38]? = some (aD w 38, .inl (cyI w, 40, .inl (S.1 37))) := rfl
def isNest : Cond → Bool
  | .fieldLinkNest .. => true
  | .methodLinkNest .. => true
  | _ => false
/-- the words that hold all along; the words across the nest -/
def tb : List Cond := lw_tbl.filter goodWord
def nw : List Cond := lw_tbl.filter isNest
def tabF (j : Nat) : Int32 := ([0, 1, 5, 21, 85, 341] : List Int32).getD j 0
def tabC (j : Nat) : Int32 := ([1, 0, 0, 0, 0, 1, 1, 0, 0, 0, 1, 2, 1, 0, 0, 1, 3, 3, 1, 0, 1, 4, 6, 4, 1] : List Int32).getD j 0
def Bs (w : Fx) (U : State) : Prop := va_K w.1 vwCl (fty w) U ∧ (∀ c ∈ nw, va_Nw c U) ∧ (va_Z "FarSums" "FIRST_OF_LEVEL" "[I" (.ref (fT1 w)) (fA w) U U.heap ∧ va_T .int (fT1 w) 6 (fun j => .int (tabF j)) (fA w) U U.heap) ∧ (va_Z "FarSums" "CHOOSE" "[I" (.ref (fT2 w)) (fA w) U U.heap ∧ va_T .int (fT2 w) 25 (fun j => .int (tabC j)) (fA w) U U.heap) ∧ ∀ S, va_D (fA w) (wS w S)
theorem nw_warm {s U : State} (hW : s.WarmedH U.vm) (h : ∀ c ∈ nw, va_Nw c s) : ∀ c ∈ nw, va_Nw c U := by
  intro c hc
  have h1 := (List.mem_filter.mp hc).2
  have h2 := h c hc
  cases c <;> first | exact va_Nw.warmF hW h2 | exact va_Nw.warmM hW h2 | (simp [isNest] at h1; done)
theorem nw_same {s U : State} (hv : s.vm = U.vm) (h : ∀ c ∈ nw, va_Nw c s) : ∀ c ∈ nw, va_Nw c U := by
  intro c hc
  have h1 := (List.mem_filter.mp hc).2
  have h2 := h c hc
  cases c <;> first | exact va_Nw.same rfl hv h2 | (simp [isNest] at h1; done)
theorem Bs_move {w : Fx} {s U : State} {H : Heap} {locs : List Loc} (hS : va_S (fA w) s.heap H locs) (hU : U.heap = H) (hW : s.WarmedH U.vm) (h : Bs w s) : Bs w U := by
  obtain ⟨h1, h2, ⟨h3, h4⟩, ⟨h5, h6⟩, h7⟩ := h
  have hk : ∀ a : Nat, a < s.heap.size → ¬ fA w a → U.heap[a]? = s.heap[a]? := fun a q1 q2 => by rw [hU]; exact hS.2.1 a q1 q2
  exact ⟨va_K.moved hW.alike h1, nw_warm hW h2, ⟨(va_Z.moved hW.alike h3).kept hk, (va_T.moved hW.alike h4).kept hk⟩, ⟨(va_Z.moved hW.alike h5).kept hk, (va_T.moved hW.alike h6).kept hk⟩, h7⟩
theorem Bs_calling {w : Fx} {U : State} {g : JFrame} {mk : MethodId} {a : Array Value} (h : Bs w U) : Bs w (U.calling g mk a) := by
  obtain ⟨h1, h2, ⟨h3, h4⟩, ⟨h5, h6⟩, h7⟩ := h
  exact ⟨va_K.moved (u := U) (U := U.calling g mk a) (Vm.Alike.refl U.vm) h1, nw_same (s := U) (U := U.calling g mk a) rfl h2, ⟨va_Z.moved (u := U) (U := U.calling g mk a) (Vm.Alike.refl U.vm) h3, va_T.moved (u := U) (U := U.calling g mk a) (Vm.Alike.refl U.vm) h4⟩, ⟨va_Z.moved (u := U) (U := U.calling g mk a) (Vm.Alike.refl U.vm) h5, va_T.moved (u := U) (U := U.calling g mk a) (Vm.Alike.refl U.vm) h6⟩, h7⟩
/-! locals by position, .null: not known -/
def hL (ls : Array Slot) (n : Nat) (lv : List Value) : Prop := (ls.size = n ∧ lv.length ≤ n) ∧ lv_wf ls ∧ ∀ (i : Nat) (v : Value), lv[i]? = some v → v ≠ .null → ls[i]? = some (.val v)
def hLp (lv : List Value) (n : Nat) : List (Nat × Value) := (List.range n).filterMap (fun i => match (lv[i]? : Option Value) with
  | some Value.null => none
  | some v => some (i, v)
  | none => none)
theorem hLp_mem {lv : List Value} {n i : Nat} {v : Value} : (i, v) ∈ hLp lv n ↔ i < n ∧ lv[i]? = some v ∧ v ≠ .null := by
  unfold hLp
  rw [List.mem_filterMap]
  constructor
  · rintro ⟨a, ha, hb⟩
    have ha := List.mem_range.mp ha
    cases hc : lv[a]? with
    | none => rw [hc] at hb; cases hb
    | some u =>
      rw [hc] at hb
      cases u <;> first | (cases hb; done) | (cases hb; exact ⟨ha, hc, fun q => by cases q⟩)
  · rintro ⟨h1, h2, h3⟩
    refine ⟨i, List.mem_range.mpr h1, ?_⟩
    rw [h2]
    cases v <;> first | rfl | exact absurd rfl h3
theorem hL_has {ls : Array Slot} {n : Nat} {lv : List Value} (h : hL ls n lv) : lv_has ls n (hLp lv n) := by
  refine ⟨h.1.1, h.2.1, ?_⟩
  rintro ⟨i, v⟩ hq
  obtain ⟨-, h2, h3⟩ := hLp_mem.mp hq
  exact h.2.2 i v h2 h3
theorem hL_at {ls : Array Slot} {n : Nat} {lv : List Value} (h : hL ls n lv) {i : Nat} {v : Value} (hi : lv[i]? = some v) (hv : v ≠ .null) : ls[i]? = some (.val v) := h.2.2 i v hi hv
def kilA (lv : List Value) (j : Nat) : List Value := match (lv[j]? : Option Value) with
  | some (Value.long _) => lv.set j Value.null
  | some (Value.double _) => lv.set j Value.null
  | _ => lv
def kil (lv : List Value) : Nat → List Value
  | 0 => lv
  | j + 1 => kilA lv j
def zp1 (lv : List Value) (i : Nat) (v : Value) : List Value := (kil lv i).set i v
def zp2 (lv : List Value) (i : Nat) (v : Value) : List Value := ((kil lv i).set i v).set (i + 1) .null
theorem kil_mem {lv : List Value} {i j : Nat} {w : Value} (h : (kil lv i)[j]? = some w) (hn : w ≠ .null) : lv[j]? = some w ∧ ¬ (j + 1 = i ∧ w.category = 2) := by
  cases i with
  | zero => exact ⟨h, fun q => by omega⟩
  | succ k =>
    have h : (kilA lv k)[j]? = some w := h
    unfold kilA at h
    have key : ∀ u, lv[k]? = some u → u.category = 2 → (lv.set k .null)[j]? = some w → lv[j]? = some w ∧ ¬ (j + 1 = k + 1 ∧ w.category = 2) := by
      intro u hu hc hs
      by_cases hjk : j = k
      · subst hjk
        rw [List.getElem?_set] at hs
        simp only [if_true] at hs
        split at hs
        · cases hs; exact absurd rfl hn
        · cases hs
      · rw [List.getElem?_set_ne (Ne.symm hjk)] at hs
        exact ⟨hs, fun q => hjk (by omega)⟩
    have oth : lv[j]? = some w → (∀ u, lv[k]? = some u → u.category ≠ 2) → lv[j]? = some w ∧ ¬ (j + 1 = k + 1 ∧ w.category = 2) := by
      intro h1 h2
      refine ⟨h1, fun q => ?_⟩
      have : j = k := by omega
      subst this
      exact h2 w h1 q.2
    split at h
    · rename_i x hx
      exact key _ hx rfl h
    · rename_i x hx
      exact key _ hx rfl h
    · rename_i hx1 hx2
      refine oth h (fun u hu hc => ?_)
      cases u <;> first | exact hx1 _ hu | exact hx2 _ hu | (simp [Value.category] at hc; done)
theorem hL_lt {ls : Array Slot} {n : Nat} {lv : List Value} (h : hL ls n lv) {j : Nat} {w : Value} (hj : lv[j]? = some w) (hw : w ≠ .null) : j < n := by
  have := lv_lt (h.2.2 j w hj hw)
  rw [h.1.1] at this
  exact this
theorem kil_len (lv : List Value) (i : Nat) : (kil lv i).length = lv.length := by
  cases i with
  | zero => rfl
  | succ k =>
    show (kilA lv k).length = lv.length
    unfold kilA
    split <;> simp
theorem hL_set1 {ls ls' : Array Slot} {n : Nat} {lv : List Value} {i : Nat} {v : Value} (h : hL ls n lv) (h' : lv_has ls' n ((i, v) :: (hLp lv n).filter (fun q => !(q.1 == i) && !(q.1 + 1 == i && q.2.category == 2)))) : hL ls' n (zp1 lv i v) := by
  refine ⟨⟨h'.1, by unfold zp1; rw [List.length_set, kil_len]; exact h.1.2⟩, h'.2.1, fun j w hj hw => ?_⟩
  refine h'.2.2 (j, w) ?_
  unfold zp1 at hj
  by_cases hji : j = i
  · subst hji
    rw [List.getElem?_set] at hj
    simp only [if_true] at hj
    split at hj
    · cases hj; exact List.mem_cons_self
    · cases hj
  · rw [List.getElem?_set_ne (Ne.symm hji)] at hj
    obtain ⟨h1, h2⟩ := kil_mem hj hw
    refine List.mem_cons_of_mem _ (List.mem_filter.mpr ⟨hLp_mem.mpr ⟨hL_lt h h1 hw, h1, hw⟩, ?_⟩)
    simp only [Bool.and_eq_true, Bool.not_eq_true', beq_eq_false_iff_ne, Bool.and_eq_false_iff, beq_iff_eq]
    refine ⟨hji, ?_⟩
    by_cases q : j + 1 = i
    · exact Or.inr (fun z => h2 ⟨q, z⟩)
    · exact Or.inl q
theorem hL_set2 {ls ls' : Array Slot} {n : Nat} {lv : List Value} {i : Nat} {v : Value} (h : hL ls n lv) (h' : lv_has ls' n ((i, v) :: (hLp lv n).filter (fun q => !(q.1 == i) && (!(q.1 == i + 1) && !(q.1 + 1 == i && q.2.category == 2))))) : hL ls' n (zp2 lv i v) := by
  refine ⟨⟨h'.1, by unfold zp2; rw [List.length_set, List.length_set, kil_len]; exact h.1.2⟩, h'.2.1, fun j w hj hw => ?_⟩
  refine h'.2.2 (j, w) ?_
  unfold zp2 at hj
  by_cases hj1 : j = i + 1
  · subst hj1
    rw [List.getElem?_set] at hj
    simp only [if_true] at hj
    split at hj
    · cases hj; exact absurd rfl hw
    · cases hj
  · rw [List.getElem?_set_ne (Ne.symm hj1)] at hj
    by_cases hji : j = i
    · subst hji
      rw [List.getElem?_set] at hj
      simp only [if_true] at hj
      split at hj
      · cases hj; exact List.mem_cons_self
      · cases hj
    · rw [List.getElem?_set_ne (Ne.symm hji)] at hj
      obtain ⟨h1, h2⟩ := kil_mem hj hw
      refine List.mem_cons_of_mem _ (List.mem_filter.mpr ⟨hLp_mem.mpr ⟨hL_lt h h1 hw, h1, hw⟩, ?_⟩)
      simp only [Bool.and_eq_true, Bool.not_eq_true', beq_eq_false_iff_ne, Bool.and_eq_false_iff, beq_iff_eq]
      refine ⟨hji, hj1, ?_⟩
      by_cases q : j + 1 = i
      · exact Or.inr (fun z => h2 ⟨q, z⟩)
      · exact Or.inl q
/-- fewer known locals -/
def lle : List Value → List Value → Prop
  | [], _ => True
  | Value.null :: l, _ :: m => lle l m
  | v :: l, u :: m => v = u ∧ lle l m
  | _ :: _, [] => False
theorem lle_at : ∀ {l m : List Value}, lle l m → ∀ (i : Nat) (v : Value), l[i]? = some v → v ≠ .null → m[i]? = some v
  | [], _, _, i, v, h, _ => by simp at h
  | a :: l, [], hh, i, v, h, hn => by cases a <;> simp [lle] at hh
  | a :: l, u :: m, hh, i, v, h, hn => by
    cases i with
    | zero =>
      simp only [List.getElem?_cons_zero] at h ⊢
      have ea : a = v := by injection h
      rw [← ea] at hn ⊢
      cases a <;> first | exact absurd rfl hn | (simp only [lle] at hh; rw [hh.1])
    | succ i =>
      simp only [List.getElem?_cons_succ] at h ⊢
      refine lle_at (l := l) (m := m) ?_ i v h hn
      cases a <;> first | exact hh | exact hh.2
theorem lle_len : ∀ {l m : List Value}, lle l m → l.length ≤ m.length
  | [], _, _ => Nat.zero_le _
  | a :: l, [], hh => by cases a <;> simp [lle] at hh
  | a :: l, u :: m, hh => by
    have : lle l m := by cases a <;> first | exact hh | exact hh.2
    have := lle_len this
    simp only [List.length_cons]
    omega
theorem hL_weak {ls : Array Slot} {n : Nat} {lv lv' : List Value} (h : hL ls n lv) (hw : lle lv' lv) : hL ls n lv' := ⟨⟨h.1.1, Nat.le_trans (lle_len hw) h.1.2⟩, h.2.1, fun i v hi hv => h.2.2 i v (lle_at hw i v hi hv) hv⟩
def padL (n : Nat) (av : List Value) : List Value := let l := av.flatMap (fun v => if v.category = 2 then [v, .null] else [v]); l ++ List.replicate (n - l.length) .null
theorem lv_args_spec : ∀ (vs : List Value) (k i : Nat) (v : Value), (vs.flatMap (fun v => if v.category = 2 then [v, Value.null] else [v]))[i]? = some v → v ≠ .null → (k + i, v) ∈ lv_args k vs
  | [], k, i, v, h, _ => by simp at h
  | a :: vs, k, i, v, h, hn => by
    unfold lv_args
    rw [List.flatMap_cons] at h
    by_cases hc : a.category = 2
    · rw [if_pos hc] at h ⊢
      match i, h with
      | 0, h => simp at h; subst h; exact List.mem_cons_self
      | 1, h => simp at h; exact absurd h.symm hn
      | i + 2, h =>
        have := lv_args_spec vs (k + 2) i v (by simpa using h) hn
        refine List.mem_cons_of_mem _ ?_
        rw [show k + (i + 2) = k + 2 + i by omega]
        exact this
    · rw [if_neg hc] at h ⊢
      match i, h with
      | 0, h => simp at h; subst h; exact List.mem_cons_self
      | i + 1, h =>
        have := lv_args_spec vs (k + 1) i v (by simpa using h) hn
        refine List.mem_cons_of_mem _ ?_
        rw [show k + (i + 1) = k + 1 + i by omega]
        exact this
theorem padL_len (vs : List Value) {n : Nat} (h : (lg_sl vs).length ≤ n) : (padL n vs).length ≤ n := by
  have e : (lg_sl vs).length = (vs.flatMap (fun v => if v.category = 2 then [v, Value.null] else [v])).length := by
    unfold lg_sl
    rw [List.length_flatMap, List.length_flatMap]
    congr 1
    refine List.map_congr_left (fun v _ => ?_)
    by_cases hc : v.category = 2 <;> simp [hc]
  rw [e] at h
  unfold padL
  simp only [List.length_append, List.length_replicate]
  omega
theorem hL_entry (vs : List Value) {n : Nat} (h : (lg_sl vs).length ≤ n) : hL ((lg_sl vs ++ List.replicate (n - (lg_sl vs).length) Slot.unset).toArray) n (padL n vs) := by
  obtain ⟨h1, h2, h3⟩ := lv_entry vs h
  refine ⟨⟨h1, padL_len vs h⟩, h2, fun i v hi hv => ?_⟩
  unfold padL at hi
  dsimp only at hi
  rw [List.getElem?_append] at hi
  split at hi
  · have := lv_args_spec vs 0 i v hi hv
    rw [Nat.zero_add] at this
    exact h3 _ this
  · rw [List.getElem?_replicate] at hi
    split at hi
    · cases hi; exact absurd rfl hv
    · cases hi
/-! the frame of a walk -/
abbrev Fr : Type := Program × Launch × Env × Room × State × MethodId × Array Value × List Frame × Method × Code × (Nat × Nat) × (State → Prop) × Fx × Nat
def xp (X : Fr) := X.1
def xl (X : Fr) := X.2.1
def xe (X : Fr) := X.2.2.1
def xR (X : Fr) := X.2.2.2.1
def xs (X : Fr) := X.2.2.2.2.1
def xm (X : Fr) := X.2.2.2.2.2.1
def xa (X : Fr) := X.2.2.2.2.2.2.1
def xb (X : Fr) := X.2.2.2.2.2.2.2.1
def xme (X : Fr) := X.2.2.2.2.2.2.2.2.1
def xc (X : Fr) := X.2.2.2.2.2.2.2.2.2.1
def xk (X : Fr) := X.2.2.2.2.2.2.2.2.2.2.1
def xQ (X : Fr) := X.2.2.2.2.2.2.2.2.2.2.2.1
def xw (X : Fr) := X.2.2.2.2.2.2.2.2.2.2.2.2.1
def xn (X : Fr) := X.2.2.2.2.2.2.2.2.2.2.2.2.2
def Wx (X : Fr) (S : St) (pc : Nat) (lv st : List Value) : Prop := ∀ (H : Heap) (locs : List Loc) (ls : Array Slot), va_P (xw X).1 vwCl (wS (xw X) S) H → va_S (fA (xw X)) (xs X).heap H locs → hL ls (xn X) lv → W (xp X) (xl X) (xe X) (xR X) (xs X) (xm X) (xa X) (xb X) (xme X) (xc X) H locs (xk X).1 (xk X).2 (xQ X) (F0 (xm X) pc ls st)
def Ok (X : Fr) (cc : ByteArray) (own : String) (d : Nat) : Prop := (xp X).tables.exec = Jvm.exec ∧ (xc X).code = cc ∧ (xc X).maxLocals = xn X ∧ (xs X).vm.findClass own = some (xm X).cls ∧ (∀ w ∈ tb, w.before (xa X) (xs X) = true) ∧ (xme X).locks = false ∧ Bs (xw X) (xs X) ∧ (d ≤ (xR X).frames ∧ 40 * d ≤ (xR X).locals) ∧ (xk X).1 ≤ (xR X).cells ∧ (xk X).2 ≤ (xR X).slots
def QX (w : Fx) (post : Option Value → St → Prop) : Array Value → State → Outcome → State → Prop := fun _ st oc t => (∃ (v : Option Value) (S' : St), oc = .returned v ∧ post v S' ∧ va_P w.1 vwCl (wS w S') t.heap) ∧ va_F (fA w) st t
def Rt (X : Fr) (rt : Option FieldType) (post : Option Value → St → Prop) : Prop := (xme X).sig.returnType = rt ∧ xQ X = MQ (xb X) (QX (xw X) post) (xa X) (xs X) (xk X).1 (xk X).2 (fA (xw X))
abbrev rmD (d : Nat) : Room := { frames := d, cells := 0, slots := 0, locals := 40 * d }
/-- a method's contract over the one world: with these arguments and this state its end is as post says -/
def Ct (l : Launch) (y : MethodName) (cc : ByteArray) (mL : Nat) (rt : Option FieldType) (d : Nat) (w : Fx) (av : List Value) (S : St) (post : Option Value → St → Prop) : Prop := Met l y (.code y cc mL rt :: tb) (rmD d) (va_Pc av (fun U => va_P w.1 vwCl (wS w S) U.heap ∧ Bs w U)) (QX w post) 0 0 (fA w)
theorem Ct.of {l : Launch} {y : MethodName} {cc : ByteArray} {mL : Nat} {rt : Option FieldType} {d : Nat} {w : Fx} {av : List Value} {S : St} {post : Option Value → St → Prop} (hy : plainName y.cls = true) (hlen : (lg_sl av).length ≤ mL)
    (body : ∀ X : Fr, Ok X cc y.cls d → Rt X rt post → xl X = l → xw X = w → Wx X S 0 (padL mL av) []) : Ct l y cc mL rt d w av S post := by
  refine Met.ofW (cc := cc) (maxL := mL) (ret := rt) hy rfl ?_
  intro p e s m args below meth c s₁ B hml hv
  obtain ⟨rfl, hP, hB⟩ := hv
  have hts := atoms_spec (ws := .code y cc mL rt :: tb) B.pre
  rw [lg_entry_eq]
  exact body (p, l, e, rmD d, s, m, av.toArray, below, meth, c, (0, 0), MQ below (QX w post) av.toArray s 0 0 (fA w), w, mL) ⟨B.exec, B.bytes, hml, findClass_of_methodNamed B.named, fun q hq => hts q (List.mem_cons_of_mem _ hq), B.notSynchronized, hB, ⟨Nat.le_refl _, Nat.le_refl _⟩, Nat.le_refl _, Nat.le_refl _⟩ ⟨B.returns, rfl⟩ rfl rfl s.heap [] _ hP va_S.rf (hL_entry av hlen)
theorem Wx.weak {X : Fr} {S : St} {pc : Nat} {lv lv' st : List Value} (hw : lle lv' lv) (k : Wx X S pc lv' st) : Wx X S pc lv st := fun H locs ls hP hS hl => k H locs ls hP hS (hL_weak hl hw)
theorem tb_good : GoodIn tb tb := fun c hc => ⟨hc, good_of_word (List.mem_filter.mp hc).2⟩
theorem tb_mem {c : Cond} (h : c ∈ lw_tbl) (hg : goodWord c = true) : c ∈ tb := List.mem_filter.mpr ⟨h, hg⟩
theorem tb_at {c : Cond} (i : Nat) (h : tables_1[i]? = some c) (hg : goodWord c = true) : c ∈ tb := tb_mem (List.mem_append_right _ (List.mem_of_getElem? h)) hg
theorem nw_at {c : Cond} (i : Nat) (h : tables_1[i]? = some c) (hg : isNest c = true) : c ∈ nw := List.mem_filter.mpr ⟨List.mem_append_right _ (List.mem_of_getElem? h), hg⟩

