set_option maxRecDepth 100000 in
set_option maxHeartbeats 4000000 in
theorem mX7_term (l : Launch) (w : Fx) (S : St) (q i j x y : Int32) (o : Nat) (ho : o ≤ 4) : Ct l yX7_term cX7_term 19 (some .long) 2 w [.ref (aD w 23), .int q, .int i, .int j, .int x, .int y, .int (nI o)] S (fun v S' => v = some (.long (mteL (S.1 20) (S.1 21) (S.1 22) (S.1 23) (S.1 26) q i j x y o)) ∧ S' = S) := by
  refine Ct.of (by decide) (Nat.le_of_ble_eq_true rfl) (fun X h hr hl hw => ?_)
  subst hl hw
  have h : Ok X cX7_term RX7 2 := h
  show Wx X S 0 [.ref (aD (xw X) 23), .int q, .int i, .int j, .int x, .int y, .int (nI o), .null, .null, .null, .null, .null, .null, .null, .null, .null, .null, .null, .null] []
  have loopU : ∀ n u : Nat, u + n = o + 1 → Wx X S 38 [.ref (aD (xw X) 23), .int q, .int i, .int j, .int x, .int y, .int (nI o), .long (farL x q i), .null, .long (farL y q j), .null, .long (teU (S.1 20) (S.1 21) (S.1 22) (S.1 23) (S.1 26) q i j (farL x q i) (farL y q j) o u), .null, .int (nI u), .null, .null, .null, .null, .null] [] := by
    intro n
    induction n with
    | zero =>
      intro u hu
      have hu : u = o + 1 := by omega
      subst hu
      refine r_iload h dX7_term_38 rfl ?_
      refine r_iload h dX7_term_40 rfl ?_
      refine r_icmp_gt_t 209 h dX7_term_42 (by decide) (gtT (by omega) (by omega)) ?_
      refine r_lload h dX7_term_209 rfl ?_
      exact r_lret h hr dX7_term_211 ⟨rfl, rfl⟩
    | succ n ih =>
      intro u hu
      have hqU := ih (u + 1) (by omega)
      have loopV : ∀ n v : Nat, v + n = o + 1 - u → Wx X S 48 [.ref (aD (xw X) 23), .int q, .int i, .int j, .int x, .int y, .int (nI o), .long (farL x q i), .null, .long (farL y q j), .null, .long (teV (S.1 20) (S.1 21) (S.1 22) (S.1 23) (S.1 26) q i j (farL x q i) (farL y q j) u (teU (S.1 20) (S.1 21) (S.1 22) (S.1 23) (S.1 26) q i j (farL x q i) (farL y q j) o u) v), .null, .int (nI u), .int (nI v), .null, .null, .null, .null] [] := by
        intro n
        induction n with
        | zero =>
          intro v hv
          have hv : v = o + 1 - u := by omega
          subst hv
          refine r_iload h dX7_term_48 rfl ?_
          refine r_iload h dX7_term_50 rfl ?_
          refine r_iadd h dX7_term_52 ?_
          refine r_iload h dX7_term_53 rfl ?_
          refine r_icmp_gt_t 203 h dX7_term_55 (by decide) (by rw [nI_add]; exact gtT (by omega) (by omega)) ?_
          show Wx _ _ 203 _ _
          refine r_iincN h dX7_term_203 rfl ?_
          show Wx _ _ _ [_, _, _, _, _, _, _, _, _, _, _, _, _, _, _, _, _, _, _] _
          refine r_goto 38 h dX7_term_206 (by decide) ?_
          exact Wx.weak (lv' := [.ref (aD (xw X) 23), .int q, .int i, .int j, .int x, .int y, .int (nI o), .long (farL x q i), .null, .long (farL y q j), .null, .long (teU (S.1 20) (S.1 21) (S.1 22) (S.1 23) (S.1 26) q i j (farL x q i) (farL y q j) o (u + 1)), .null, .int (nI (u + 1)), .null, .null, .null, .null, .null]) (And.intro rfl (And.intro rfl (And.intro rfl (And.intro rfl (And.intro rfl (And.intro rfl (And.intro rfl (And.intro rfl (And.intro rfl (And.intro rfl (And.intro rfl trivial))))))))))) (hqU)
        | succ n ihv =>
          intro v hv
          have hqV := ihv (v + 1) (by omega)
          unfold teV at hqV
          have loopA : ∀ n m : Nat, m + n = 5 - u → Wx X S 65 [.ref (aD (xw X) 23), .int q, .int i, .int j, .int x, .int y, .int (nI o), .long (farL x q i), .null, .long (farL y q j), .null, .long (teV (S.1 20) (S.1 21) (S.1 22) (S.1 23) (S.1 26) q i j (farL x q i) (farL y q j) u (teU (S.1 20) (S.1 21) (S.1 22) (S.1 23) (S.1 26) q i j (farL x q i) (farL y q j) o u) v), .null, .int (nI u), .int (nI v), .long (teA (S.1 26) (farL x q i) (farL y q j) u v m), .null, .int (nI (u + m)), .null] [] := by
            intro n
            induction n with
            | zero =>
              intro m hm
              have hm : m = 5 - u := by omega
              subst hm
              refine r_iload h dX7_term_65 rfl ?_
              refine r_iconst 5 h dX7_term_67 (by decide) ?_
              refine r_icmp_ge_t 162 h dX7_term_68 (by decide) (bigT (a := 5) (by omega) (by omega)) ?_
              refine r_lload h dX7_term_162 rfl ?_
              refine r_iload h dX7_term_164 rfl ?_
              show Wx _ _ 166 _ _
              refine r_iload h dX7_term_166 rfl ?_
              refine r_iadd h dX7_term_168 ?_
              refine r_iconst 2 h dX7_term_169 (by decide) ?_
              refine r_irem h dX7_term_170 (by decide) ?_
              refine r_if_ne 179 h dX7_term_171 (by decide) (fun c171 => ?_) (fun c171 => ?_)
              · refine r_lload h dX7_term_179 rfl ?_
                refine r_lneg h dX7_term_181 ?_
                refine r_aload_n 0 h dX7_term_182 rfl rfl ?_
                refine r_iload_n 1 h dX7_term_183 rfl rfl ?_
                refine r_iload_n 2 h dX7_term_184 rfl rfl ?_
                show Wx _ _ 185 _ _
                refine r_iload_n 3 h dX7_term_185 rfl rfl ?_
                refine r_iload h dX7_term_186 rfl ?_
                refine r_iload h dX7_term_188 rfl ?_
                refine cV5 h (mX7_momentOf _ _ _ q i j u v (by omega) (by omega)) kX7_momentOf lm_X7_139 (by decide) 23 (pl_23 _ _) rfl (Nat.le_of_ble_eq_true rfl) dX7_term_190 ?_
                refine r_lmul h dX7_term_193 ?_
                refine r_ladd h dX7_term_194 ?_
                show Wx _ _ 195 _ _
                refine r_lstore h dX7_term_195 (Nat.le_of_ble_eq_true rfl) ?_
                show Wx _ _ _ [_, _, _, _, _, _, _, _, _, _, _, _, _, _, _, _, _, _, _] _
                refine r_iincN h dX7_term_197 rfl ?_
                show Wx _ _ _ [_, _, _, _, _, _, _, _, _, _, _, _, _, _, _, _, _, _, _] _
                refine r_goto 48 h dX7_term_200 (by decide) ?_
                first
                  | (rw [if_neg (show ¬ sg2 u v = 0 from c171)] at hqV; exact Wx.weak (lv' := [.ref (aD (xw X) 23), .int q, .int i, .int j, .int x, .int y, .int (nI o), .long (farL x q i), .null, .long (farL y q j), .null, .long (teV (S.1 20) (S.1 21) (S.1 22) (S.1 23) (S.1 26) q i j (farL x q i) (farL y q j) u (teU (S.1 20) (S.1 21) (S.1 22) (S.1 23) (S.1 26) q i j (farL x q i) (farL y q j) o u) v + (-teA (S.1 26) (farL x q i) (farL y q j) u v (5 - u)) * mmV (S.1 20) (S.1 21) (S.1 22) (S.1 23) q i j u v 40), .null, .int (nI u), .int (nI (v + 1)), .null, .null, .null, .null]) (And.intro rfl (And.intro rfl (And.intro rfl (And.intro rfl (And.intro rfl (And.intro rfl (And.intro rfl (And.intro rfl (And.intro rfl (And.intro rfl (And.intro rfl (And.intro rfl trivial)))))))))))) (hqV))
                  | (rw [if_pos (show sg2 u v = 0 from c171)] at hqV; exact Wx.weak (lv' := [.ref (aD (xw X) 23), .int q, .int i, .int j, .int x, .int y, .int (nI o), .long (farL x q i), .null, .long (farL y q j), .null, .long (teV (S.1 20) (S.1 21) (S.1 22) (S.1 23) (S.1 26) q i j (farL x q i) (farL y q j) u (teU (S.1 20) (S.1 21) (S.1 22) (S.1 23) (S.1 26) q i j (farL x q i) (farL y q j) o u) v + (teA (S.1 26) (farL x q i) (farL y q j) u v (5 - u)) * mmV (S.1 20) (S.1 21) (S.1 22) (S.1 23) q i j u v 40), .null, .int (nI u), .int (nI (v + 1)), .null, .null, .null, .null]) (And.intro rfl (And.intro rfl (And.intro rfl (And.intro rfl (And.intro rfl (And.intro rfl (And.intro rfl (And.intro rfl (And.intro rfl (And.intro rfl (And.intro rfl (And.intro rfl trivial)))))))))))) (hqV))
              · refine r_lload h dX7_term_174 rfl ?_
                refine r_goto 182 h dX7_term_176 (by decide) ?_
                refine r_aload_n 0 h dX7_term_182 rfl rfl ?_
                refine r_iload_n 1 h dX7_term_183 rfl rfl ?_
                refine r_iload_n 2 h dX7_term_184 rfl rfl ?_
                show Wx _ _ 185 _ _
                refine r_iload_n 3 h dX7_term_185 rfl rfl ?_
                refine r_iload h dX7_term_186 rfl ?_
                refine r_iload h dX7_term_188 rfl ?_
                refine cV5 h (mX7_momentOf _ _ _ q i j u v (by omega) (by omega)) kX7_momentOf lm_X7_139 (by decide) 23 (pl_23 _ _) rfl (Nat.le_of_ble_eq_true rfl) dX7_term_190 ?_
                refine r_lmul h dX7_term_193 ?_
                refine r_ladd h dX7_term_194 ?_
                show Wx _ _ 195 _ _
                refine r_lstore h dX7_term_195 (Nat.le_of_ble_eq_true rfl) ?_
                show Wx _ _ _ [_, _, _, _, _, _, _, _, _, _, _, _, _, _, _, _, _, _, _] _
                refine r_iincN h dX7_term_197 rfl ?_
                show Wx _ _ _ [_, _, _, _, _, _, _, _, _, _, _, _, _, _, _, _, _, _, _] _
                refine r_goto 48 h dX7_term_200 (by decide) ?_
                first
                  | (rw [if_neg (show ¬ sg2 u v = 0 from c171)] at hqV; exact Wx.weak (lv' := [.ref (aD (xw X) 23), .int q, .int i, .int j, .int x, .int y, .int (nI o), .long (farL x q i), .null, .long (farL y q j), .null, .long (teV (S.1 20) (S.1 21) (S.1 22) (S.1 23) (S.1 26) q i j (farL x q i) (farL y q j) u (teU (S.1 20) (S.1 21) (S.1 22) (S.1 23) (S.1 26) q i j (farL x q i) (farL y q j) o u) v + (-teA (S.1 26) (farL x q i) (farL y q j) u v (5 - u)) * mmV (S.1 20) (S.1 21) (S.1 22) (S.1 23) q i j u v 40), .null, .int (nI u), .int (nI (v + 1)), .null, .null, .null, .null]) (And.intro rfl (And.intro rfl (And.intro rfl (And.intro rfl (And.intro rfl (And.intro rfl (And.intro rfl (And.intro rfl (And.intro rfl (And.intro rfl (And.intro rfl (And.intro rfl trivial)))))))))))) (hqV))
                  | (rw [if_pos (show sg2 u v = 0 from c171)] at hqV; exact Wx.weak (lv' := [.ref (aD (xw X) 23), .int q, .int i, .int j, .int x, .int y, .int (nI o), .long (farL x q i), .null, .long (farL y q j), .null, .long (teV (S.1 20) (S.1 21) (S.1 22) (S.1 23) (S.1 26) q i j (farL x q i) (farL y q j) u (teU (S.1 20) (S.1 21) (S.1 22) (S.1 23) (S.1 26) q i j (farL x q i) (farL y q j) o u) v + (teA (S.1 26) (farL x q i) (farL y q j) u v (5 - u)) * mmV (S.1 20) (S.1 21) (S.1 22) (S.1 23) q i j u v 40), .null, .int (nI u), .int (nI (v + 1)), .null, .null, .null, .null]) (And.intro rfl (And.intro rfl (And.intro rfl (And.intro rfl (And.intro rfl (And.intro rfl (And.intro rfl (And.intro rfl (And.intro rfl (And.intro rfl (And.intro rfl (And.intro rfl trivial)))))))))))) (hqV))
            | succ n ihm =>
              intro m hm
              have hqA := ihm (m + 1) (by omega)
              have loopB : ∀ n k : Nat, k + n = 5 - (u + m) - v → Wx X S 75 [.ref (aD (xw X) 23), .int q, .int i, .int j, .int x, .int y, .int (nI o), .long (farL x q i), .null, .long (farL y q j), .null, .long (teV (S.1 20) (S.1 21) (S.1 22) (S.1 23) (S.1 26) q i j (farL x q i) (farL y q j) u (teU (S.1 20) (S.1 21) (S.1 22) (S.1 23) (S.1 26) q i j (farL x q i) (farL y q j) o u) v), .null, .int (nI u), .int (nI v), .long (teB (S.1 26) (farL x q i) (farL y q j) u v (u + m) (teA (S.1 26) (farL x q i) (farL y q j) u v m) k), .null, .int (nI (u + m)), .int (nI (v + k))] [] := by
                intro n
                induction n with
                | zero =>
                  intro k hk
                  have hk : k = 5 - (u + m) - v := by omega
                  subst hk
                  refine r_iload h dX7_term_75 rfl ?_
                  refine r_iload h dX7_term_77 rfl ?_
                  refine r_iadd h dX7_term_79 ?_
                  refine r_iconst 5 h dX7_term_80 (by decide) ?_
                  refine r_icmp_ge_t 156 h dX7_term_81 (by decide) (by rw [nI_add]; exact bigT (a := 5) (by omega) (by omega)) ?_
                  show Wx _ _ 156 _ _
                  refine r_iincN h dX7_term_156 rfl ?_
                  show Wx _ _ _ [_, _, _, _, _, _, _, _, _, _, _, _, _, _, _, _, _, _, _] _
                  refine r_goto 65 h dX7_term_159 (by decide) ?_
                  exact Wx.weak (lv' := [.ref (aD (xw X) 23), .int q, .int i, .int j, .int x, .int y, .int (nI o), .long (farL x q i), .null, .long (farL y q j), .null, .long (teV (S.1 20) (S.1 21) (S.1 22) (S.1 23) (S.1 26) q i j (farL x q i) (farL y q j) u (teU (S.1 20) (S.1 21) (S.1 22) (S.1 23) (S.1 26) q i j (farL x q i) (farL y q j) o u) v), .null, .int (nI u), .int (nI v), .long (teA (S.1 26) (farL x q i) (farL y q j) u v (m + 1)), .null, .int (nI (u + m + 1)), .null]) (And.intro rfl (And.intro rfl (And.intro rfl (And.intro rfl (And.intro rfl (And.intro rfl (And.intro rfl (And.intro rfl (And.intro rfl (And.intro rfl (And.intro rfl (And.intro rfl (And.intro rfl (And.intro rfl trivial)))))))))))))) (hqA)
                | succ n ihk =>
                  intro k hk
                  have hqB := ihk (k + 1) (by omega)
                  refine r_iload h dX7_term_75 rfl ?_
                  refine r_iload h dX7_term_77 rfl ?_
                  refine r_iadd h dX7_term_79 ?_
                  refine r_iconst 5 h dX7_term_80 (by decide) ?_
                  refine r_icmp_ge_f 156 h dX7_term_81 (by decide) (by rw [nI_add]; exact bigF (a := 5) (by omega) (by omega)) ?_
                  show Wx _ _ 84 _ _
                  refine r_lload h dX7_term_84 rfl ?_
                  refine r_aload_n 0 h dX7_term_86 rfl rfl ?_
                  refine g23_6 h lf_X7_29 dX7_term_87 ?_
                  refine r_iconst 5 h dX7_term_90 (by decide) ?_
                  refine r_iload h dX7_term_91 rfl ?_
                  refine r_imul h dX7_term_93 ?_
                  show Wx _ _ 94 _ _
                  refine r_iload h dX7_term_94 rfl ?_
                  refine r_iadd h dX7_term_96 ?_
                  rw [ix5]
                  refine alN_30 h (by omega) dX7_term_97 ?_
                  refine r_i2l h dX7_term_98 ?_
                  refine r_ldc2 h lc_X7_101 dX7_term_99 ?_
                  refine r_iload h dX7_term_102 rfl ?_
                  show Wx _ _ 104 _ _
                  refine r_iload h dX7_term_104 rfl ?_
                  refine r_iadd h dX7_term_106 ?_
                  refine r_lshr h dX7_term_107 ?_
                  refine r_lmul h dX7_term_108 ?_
                  refine r_iload h dX7_term_109 rfl ?_
                  refine r_iload h dX7_term_111 rfl ?_
                  show Wx _ _ 113 _ _
                  refine cS2 h (mX7_choose _ _ _ (u + m) u (by omega)) kX7_choose lm_X7_143 (by decide) (Nat.le_of_ble_eq_true rfl) dX7_term_113 ?_
                  refine r_lmul h dX7_term_116 ?_
                  refine r_iload h dX7_term_117 rfl ?_
                  refine r_iload h dX7_term_119 rfl ?_
                  refine cS2 h (mX7_choose _ _ _ (v + k) v (by omega)) kX7_choose lm_X7_143 (by decide) (Nat.le_of_ble_eq_true rfl) dX7_term_121 ?_
                  refine r_lmul h dX7_term_124 ?_
                  show Wx _ _ 125 _ _
                  refine r_lload h dX7_term_125 rfl ?_
                  refine r_iload h dX7_term_127 rfl ?_
                  refine r_iload h dX7_term_129 rfl ?_
                  refine r_isub h dX7_term_131 ?_
                  rw [pk_subN (show u ≤ u + m by omega)]
                  refine cS2 h (mX7_power _ _ _ _ (u + m - u) (by omega)) kX7_power lm_X7_97 (by decide) (Nat.le_of_ble_eq_true rfl) dX7_term_132 ?_
                  refine r_lmul h dX7_term_135 ?_
                  show Wx _ _ 136 _ _
                  refine r_lload h dX7_term_136 rfl ?_
                  refine r_iload h dX7_term_138 rfl ?_
                  refine r_iload h dX7_term_140 rfl ?_
                  refine r_isub h dX7_term_142 ?_
                  rw [pk_subN (show v ≤ v + k by omega)]
                  refine cS2 h (mX7_power _ _ _ _ (v + k - v) (by omega)) kX7_power lm_X7_97 (by decide) (Nat.le_of_ble_eq_true rfl) dX7_term_143 ?_
                  refine r_lmul h dX7_term_146 ?_
                  show Wx _ _ 147 _ _
                  refine r_ladd h dX7_term_147 ?_
                  refine r_lstore h dX7_term_148 (Nat.le_of_ble_eq_true rfl) ?_
                  show Wx _ _ _ [_, _, _, _, _, _, _, _, _, _, _, _, _, _, _, _, _, _, _] _
                  refine r_iincN h dX7_term_150 rfl ?_
                  show Wx _ _ _ [_, _, _, _, _, _, _, _, _, _, _, _, _, _, _, _, _, _, _] _
                  refine r_goto 75 h dX7_term_153 (by decide) ?_
                  exact hqB
              refine r_iload h dX7_term_65 rfl ?_
              refine r_iconst 5 h dX7_term_67 (by decide) ?_
              refine r_icmp_ge_f 162 h dX7_term_68 (by decide) (bigF (a := 5) (by omega) (by omega)) ?_
              refine r_iload h dX7_term_71 rfl ?_
              refine r_istore h dX7_term_73 (Nat.le_of_ble_eq_true rfl) ?_
              show Wx _ _ _ [_, _, _, _, _, _, _, _, _, _, _, _, _, _, _, _, _, _, _] _
              exact loopB (5 - (u + m) - v) 0 (by omega)
          refine r_iload h dX7_term_48 rfl ?_
          refine r_iload h dX7_term_50 rfl ?_
          refine r_iadd h dX7_term_52 ?_
          refine r_iload h dX7_term_53 rfl ?_
          refine r_icmp_gt_f 203 h dX7_term_55 (by decide) (by rw [nI_add]; exact gtF (by omega) (by omega)) ?_
          show Wx _ _ 58 _ _
          refine r_lconst 0 h dX7_term_58 (by decide) ?_
          refine r_lstore h dX7_term_59 (Nat.le_of_ble_eq_true rfl) ?_
          show Wx _ _ _ [_, _, _, _, _, _, _, _, _, _, _, _, _, _, _, _, _, _, _] _
          refine r_iload h dX7_term_61 rfl ?_
          refine r_istore h dX7_term_63 (Nat.le_of_ble_eq_true rfl) ?_
          show Wx _ _ _ [_, _, _, _, _, _, _, _, _, _, _, _, _, _, _, _, _, _, _] _
          exact loopA (5 - u) 0 (by omega)
      refine r_iload h dX7_term_38 rfl ?_
      refine r_iload h dX7_term_40 rfl ?_
      refine r_icmp_gt_f 209 h dX7_term_42 (by decide) (gtF (by omega) (by omega)) ?_
      refine r_iconst 0 h dX7_term_45 (by decide) ?_
      refine r_istore h dX7_term_46 (Nat.le_of_ble_eq_true rfl) ?_
      show Wx _ _ _ [_, _, _, _, _, _, _, _, _, _, _, _, _, _, _, _, _, _, _] _
      exact loopV (o + 1 - u) 0 (by omega)
  refine r_ldc2 h lc_X7_134 dX7_term_0 ?_
  refine r_iload h dX7_term_3 rfl ?_
  refine r_i2l h dX7_term_5 ?_
  refine r_lmul h dX7_term_6 ?_
  refine r_iload_n 1 h dX7_term_7 rfl rfl ?_
  show Wx _ _ 8 _ _
  refine r_iload_n 2 h dX7_term_8 rfl rfl ?_
  refine cS2 h (mX7_middle _ _ _ q i) kX7_middle lm_X7_127 (by decide) (Nat.le_of_ble_eq_true rfl) dX7_term_9 ?_
  refine r_i2l h dX7_term_12 ?_
  refine r_lsub h dX7_term_13 ?_
  refine r_lstore h dX7_term_14 (Nat.le_of_ble_eq_true rfl) ?_
  show Wx _ _ _ [_, _, _, _, _, _, _, _, _, _, _, _, _, _, _, _, _, _, _] _
  refine r_ldc2 h lc_X7_134 dX7_term_16 ?_
  show Wx _ _ 19 _ _
  refine r_iload h dX7_term_19 rfl ?_
  refine r_i2l h dX7_term_21 ?_
  refine r_lmul h dX7_term_22 ?_
  refine r_iload_n 1 h dX7_term_23 rfl rfl ?_
  refine r_iload_n 3 h dX7_term_24 rfl rfl ?_
  refine cS2 h (mX7_middle _ _ _ q j) kX7_middle lm_X7_127 (by decide) (Nat.le_of_ble_eq_true rfl) dX7_term_25 ?_
  show Wx _ _ 28 _ _
  refine r_i2l h dX7_term_28 ?_
  refine r_lsub h dX7_term_29 ?_
  refine r_lstore h dX7_term_30 (Nat.le_of_ble_eq_true rfl) ?_
  show Wx _ _ _ [_, _, _, _, _, _, _, _, _, _, _, _, _, _, _, _, _, _, _] _
  refine r_lconst 0 h dX7_term_32 (by decide) ?_
  refine r_lstore h dX7_term_33 (Nat.le_of_ble_eq_true rfl) ?_
  show Wx _ _ _ [_, _, _, _, _, _, _, _, _, _, _, _, _, _, _, _, _, _, _] _
  refine r_iconst 0 h dX7_term_35 (by decide) ?_
  show Wx _ _ 36 _ _
  refine r_istore h dX7_term_36 (Nat.le_of_ble_eq_true rfl) ?_
  show Wx _ _ _ [_, _, _, _, _, _, _, _, _, _, _, _, _, _, _, _, _, _, _] _
  exact loopU (o + 1) 0 (by omega)
set_option maxRecDepth 100000 in
set_option maxHeartbeats 4000000 in
theorem mX7_endOf (l : Launch) (w : Fx) (S : St) (q i j x y : Int32) (o : Nat) (ho : o ≤ 4) : Ct l yX7_endOf cX7_endOf 19 (some .long) 2 w [.ref (aD w 23), .int q, .int i, .int j, .int x, .int y, .int (nI o)] S (fun v S' => v = some (.long (menL (S.1 20) (S.1 21) (S.1 22) (S.1 23) (S.1 26) q i j x y o)) ∧ S' = S) := by
  refine Ct.of (by decide) (Nat.le_of_ble_eq_true rfl) (fun X h hr hl hw => ?_)
  subst hl hw
  have h : Ok X cX7_endOf RX7 2 := h
  show Wx X S 0 [.ref (aD (xw X) 23), .int q, .int i, .int j, .int x, .int y, .int (nI o), .null, .null, .null, .null, .null, .null, .null, .null, .null, .null, .null, .null] []
  have loopA : ∀ n a : Nat, a + n = 5 → Wx X S 53 [.ref (aD (xw X) 23), .int q, .int i, .int j, .int x, .int y, .int (nI o), .long (szL (farL x q i)), .null, .long (szL (farL y q j)), .null, .long (sideI q - 1).toInt64, .null, .long (meA (S.1 26) (szL (farL x q i)) (szL (farL y q j)) (sideI q - 1).toInt64 o a), .null, .int (nI a), .null, .null, .null] [] := by
    intro n
    induction n with
    | zero =>
      intro a ha
      have ha : a = 5 := by omega
      subst ha
      refine r_iload h dX7_endOf_53 rfl ?_
      refine r_iconst 5 h dX7_endOf_55 (by decide) ?_
      refine r_icmp_ge_t 205 h dX7_endOf_56 (by decide) (bigT (a := 5) (by omega) (by omega)) ?_
      refine r_lload h dX7_endOf_205 rfl ?_
      refine r_aload_n 0 h dX7_endOf_207 rfl rfl ?_
      show Wx _ _ 208 _ _
      refine r_iload_n 1 h dX7_endOf_208 rfl rfl ?_
      refine r_iload_n 2 h dX7_endOf_209 rfl rfl ?_
      refine r_iload_n 3 h dX7_endOf_210 rfl rfl ?_
      refine cV3 h (mX7_bulk _ _ _ q i j) kX7_bulk lm_X7_136 (by decide) 23 (pl_23 _ _) rfl (Nat.le_of_ble_eq_true rfl) dX7_endOf_211 ?_
      refine r_lmul h dX7_endOf_214 ?_
      exact r_lret h hr dX7_endOf_215 ⟨rfl, rfl⟩
    | succ n ih =>
      intro a ha
      have hqA := ih (a + 1) (by omega)
      have loopB : ∀ n b : Nat, b + n = 5 - a → Wx X S 62 [.ref (aD (xw X) 23), .int q, .int i, .int j, .int x, .int y, .int (nI o), .long (szL (farL x q i)), .null, .long (szL (farL y q j)), .null, .long (sideI q - 1).toInt64, .null, .long (meB (S.1 26) (szL (farL x q i)) (szL (farL y q j)) (sideI q - 1).toInt64 o a (meA (S.1 26) (szL (farL x q i)) (szL (farL y q j)) (sideI q - 1).toInt64 o a) b), .null, .int (nI a), .int (nI b), .null, .null] [] := by
        intro n
        induction n with
        | zero =>
          intro b hb
          have hb : b = 5 - a := by omega
          subst hb
          refine r_iload h dX7_endOf_62 rfl ?_
          refine r_iload h dX7_endOf_64 rfl ?_
          refine r_iadd h dX7_endOf_66 ?_
          refine r_iconst 5 h dX7_endOf_67 (by decide) ?_
          refine r_icmp_ge_t 199 h dX7_endOf_68 (by decide) (by rw [nI_add]; exact bigT (a := 5) (by omega) (by omega)) ?_
          show Wx _ _ 199 _ _
          refine r_iincN h dX7_endOf_199 rfl ?_
          show Wx _ _ _ [_, _, _, _, _, _, _, _, _, _, _, _, _, _, _, _, _, _, _] _
          refine r_goto 53 h dX7_endOf_202 (by decide) ?_
          exact Wx.weak (lv' := [.ref (aD (xw X) 23), .int q, .int i, .int j, .int x, .int y, .int (nI o), .long (szL (farL x q i)), .null, .long (szL (farL y q j)), .null, .long (sideI q - 1).toInt64, .null, .long (meA (S.1 26) (szL (farL x q i)) (szL (farL y q j)) (sideI q - 1).toInt64 o (a + 1)), .null, .int (nI (a + 1)), .null, .null, .null]) (And.intro rfl (And.intro rfl (And.intro rfl (And.intro rfl (And.intro rfl (And.intro rfl (And.intro rfl (And.intro rfl (And.intro rfl (And.intro rfl (And.intro rfl (And.intro rfl trivial)))))))))))) (hqA)
        | succ n ihb =>
          intro b hb
          have hqB := ihb (b + 1) (by omega)
          have loopU : ∀ n u : Nat, u + n = a + 1 → Wx X S 74 [.ref (aD (xw X) 23), .int q, .int i, .int j, .int x, .int y, .int (nI o), .long (szL (farL x q i)), .null, .long (szL (farL y q j)), .null, .long (sideI q - 1).toInt64, .null, .long (meU (S.1 26) (szL (farL x q i)) (szL (farL y q j)) (sideI q - 1).toInt64 o a b (meB (S.1 26) (szL (farL x q i)) (szL (farL y q j)) (sideI q - 1).toInt64 o a (meA (S.1 26) (szL (farL x q i)) (szL (farL y q j)) (sideI q - 1).toInt64 o a) b) u), .null, .int (nI a), .int (nI b), .int (nI u), .null] [] := by
            intro n
            induction n with
            | zero =>
              intro u hu
              have hu : u = a + 1 := by omega
              subst hu
              refine r_iload h dX7_endOf_74 rfl ?_
              refine r_iload h dX7_endOf_76 rfl ?_
              refine r_icmp_gt_t 193 h dX7_endOf_78 (by decide) (gtT (by omega) (by omega)) ?_
              refine r_iincN h dX7_endOf_193 rfl ?_
              show Wx _ _ _ [_, _, _, _, _, _, _, _, _, _, _, _, _, _, _, _, _, _, _] _
              refine r_goto 62 h dX7_endOf_196 (by decide) ?_
              exact Wx.weak (lv' := [.ref (aD (xw X) 23), .int q, .int i, .int j, .int x, .int y, .int (nI o), .long (szL (farL x q i)), .null, .long (szL (farL y q j)), .null, .long (sideI q - 1).toInt64, .null, .long (meB (S.1 26) (szL (farL x q i)) (szL (farL y q j)) (sideI q - 1).toInt64 o a (meA (S.1 26) (szL (farL x q i)) (szL (farL y q j)) (sideI q - 1).toInt64 o a) (b + 1)), .null, .int (nI a), .int (nI (b + 1)), .null, .null]) (And.intro rfl (And.intro rfl (And.intro rfl (And.intro rfl (And.intro rfl (And.intro rfl (And.intro rfl (And.intro rfl (And.intro rfl (And.intro rfl (And.intro rfl (And.intro rfl (And.intro rfl trivial))))))))))))) (hqB)
            | succ n ihu =>
              intro u hu
              have hqU := ihu (u + 1) (by omega)
              have loopV : ∀ n v : Nat, v + n = b + 1 → Wx X S 84 [.ref (aD (xw X) 23), .int q, .int i, .int j, .int x, .int y, .int (nI o), .long (szL (farL x q i)), .null, .long (szL (farL y q j)), .null, .long (sideI q - 1).toInt64, .null, .long (meV (S.1 26) (szL (farL x q i)) (szL (farL y q j)) (sideI q - 1).toInt64 o a b u (meU (S.1 26) (szL (farL x q i)) (szL (farL y q j)) (sideI q - 1).toInt64 o a b (meB (S.1 26) (szL (farL x q i)) (szL (farL y q j)) (sideI q - 1).toInt64 o a (meA (S.1 26) (szL (farL x q i)) (szL (farL y q j)) (sideI q - 1).toInt64 o a) b) u) v), .null, .int (nI a), .int (nI b), .int (nI u), .int (nI v)] [] := by
                intro n
                induction n with
                | zero =>
                  intro v hv
                  have hv : v = b + 1 := by omega
                  subst hv
                  refine r_iload h dX7_endOf_84 rfl ?_
                  refine r_iload h dX7_endOf_86 rfl ?_
                  refine r_icmp_gt_t 187 h dX7_endOf_88 (by decide) (gtT (by omega) (by omega)) ?_
                  refine r_iincN h dX7_endOf_187 rfl ?_
                  show Wx _ _ _ [_, _, _, _, _, _, _, _, _, _, _, _, _, _, _, _, _, _, _] _
                  refine r_goto 74 h dX7_endOf_190 (by decide) ?_
                  exact Wx.weak (lv' := [.ref (aD (xw X) 23), .int q, .int i, .int j, .int x, .int y, .int (nI o), .long (szL (farL x q i)), .null, .long (szL (farL y q j)), .null, .long (sideI q - 1).toInt64, .null, .long (meU (S.1 26) (szL (farL x q i)) (szL (farL y q j)) (sideI q - 1).toInt64 o a b (meB (S.1 26) (szL (farL x q i)) (szL (farL y q j)) (sideI q - 1).toInt64 o a (meA (S.1 26) (szL (farL x q i)) (szL (farL y q j)) (sideI q - 1).toInt64 o a) b) (u + 1)), .null, .int (nI a), .int (nI b), .int (nI (u + 1)), .null]) (And.intro rfl (And.intro rfl (And.intro rfl (And.intro rfl (And.intro rfl (And.intro rfl (And.intro rfl (And.intro rfl (And.intro rfl (And.intro rfl (And.intro rfl (And.intro rfl (And.intro rfl (And.intro rfl trivial)))))))))))))) (hqU)
                | succ n ihv =>
                  intro v hv
                  have hqV := ihv (v + 1) (by omega)
                  rw [meV_s] at hqV
                  refine r_iload h dX7_endOf_84 rfl ?_
                  refine r_iload h dX7_endOf_86 rfl ?_
                  refine r_icmp_gt_f 187 h dX7_endOf_88 (by decide) (gtF (by omega) (by omega)) ?_
                  refine r_iload h dX7_endOf_91 rfl ?_
                  refine r_iload h dX7_endOf_93 rfl ?_
                  show Wx _ _ 95 _ _
                  refine r_iadd h dX7_endOf_95 ?_
                  refine r_iload h dX7_endOf_96 rfl ?_
                  refine r_icmp_le 181 h dX7_endOf_98 (by decide) (fun c98 => ?_) (fun c98 => ?_)
                  · refine r_iincN h dX7_endOf_181 rfl ?_
                    show Wx _ _ _ [_, _, _, _, _, _, _, _, _, _, _, _, _, _, _, _, _, _, _] _
                    refine r_goto 84 h dX7_endOf_184 (by decide) ?_
                    first | (rw [if_pos c98] at hqV; exact hqV) | (rw [if_neg c98] at hqV; exact hqV)
                  · refine r_lload h dX7_endOf_101 rfl ?_
                    refine r_aload_n 0 h dX7_endOf_103 rfl rfl ?_
                    refine g23_6 h lf_X7_29 dX7_endOf_104 ?_
                    refine r_iconst 5 h dX7_endOf_107 (by decide) ?_
                    refine r_iload h dX7_endOf_108 rfl ?_
                    show Wx _ _ 110 _ _
                    refine r_imul h dX7_endOf_110 ?_
                    refine r_iload h dX7_endOf_111 rfl ?_
                    refine r_iadd h dX7_endOf_113 ?_
                    rw [ix5]
                    refine alN_30 h (by omega) dX7_endOf_114 ?_
                    refine r_i2l h dX7_endOf_115 ?_
                    refine cS1 h (mX7_size _ _ _ _) kX7_size lm_X7_146 (by decide) (Nat.le_of_ble_eq_true rfl) dX7_endOf_116 ?_
                    show Wx _ _ 119 _ _
                    refine r_ldc2 h lc_X7_101 dX7_endOf_119 ?_
                    refine r_iload h dX7_endOf_122 rfl ?_
                    refine r_iload h dX7_endOf_124 rfl ?_
                    refine r_iadd h dX7_endOf_126 ?_
                    refine r_lshr h dX7_endOf_127 ?_
                    refine r_lmul h dX7_endOf_128 ?_
                    show Wx _ _ 129 _ _
                    refine r_iload h dX7_endOf_129 rfl ?_
                    refine r_iload h dX7_endOf_131 rfl ?_
                    refine cS2 h (mX7_choose _ _ _ a u (by omega)) kX7_choose lm_X7_143 (by decide) (Nat.le_of_ble_eq_true rfl) dX7_endOf_133 ?_
                    refine r_lmul h dX7_endOf_136 ?_
                    refine r_iload h dX7_endOf_137 rfl ?_
                    refine r_iload h dX7_endOf_139 rfl ?_
                    show Wx _ _ 141 _ _
                    refine cS2 h (mX7_choose _ _ _ b v (by omega)) kX7_choose lm_X7_143 (by decide) (Nat.le_of_ble_eq_true rfl) dX7_endOf_141 ?_
                    refine r_lmul h dX7_endOf_144 ?_
                    refine r_lload h dX7_endOf_145 rfl ?_
                    refine r_iload h dX7_endOf_147 rfl ?_
                    refine r_iload h dX7_endOf_149 rfl ?_
                    refine r_isub h dX7_endOf_151 ?_
                    show Wx _ _ 152 _ _
                    rw [pk_subN (show u ≤ a by omega)]
                    refine cS2 h (mX7_power _ _ _ _ (a - u) (by omega)) kX7_power lm_X7_97 (by decide) (Nat.le_of_ble_eq_true rfl) dX7_endOf_152 ?_
                    refine r_lmul h dX7_endOf_155 ?_
                    refine r_lload h dX7_endOf_156 rfl ?_
                    refine r_iload h dX7_endOf_158 rfl ?_
                    refine r_iload h dX7_endOf_160 rfl ?_
                    refine r_isub h dX7_endOf_162 ?_
                    show Wx _ _ 163 _ _
                    rw [pk_subN (show v ≤ b by omega)]
                    refine cS2 h (mX7_power _ _ _ _ (b - v) (by omega)) kX7_power lm_X7_97 (by decide) (Nat.le_of_ble_eq_true rfl) dX7_endOf_163 ?_
                    refine r_lmul h dX7_endOf_166 ?_
                    refine r_lload h dX7_endOf_167 rfl ?_
                    refine r_iload h dX7_endOf_169 rfl ?_
                    refine r_iload h dX7_endOf_171 rfl ?_
                    refine r_iadd h dX7_endOf_173 ?_
                    show Wx _ _ 174 _ _
                    rw [nI_add]
                    refine cS2 h (mX7_power _ _ _ _ (u + v) (by omega)) kX7_power lm_X7_97 (by decide) (Nat.le_of_ble_eq_true rfl) dX7_endOf_174 ?_
                    refine r_lmul h dX7_endOf_177 ?_
                    refine r_ladd h dX7_endOf_178 ?_
                    refine r_lstore h dX7_endOf_179 (Nat.le_of_ble_eq_true rfl) ?_
                    show Wx _ _ _ [_, _, _, _, _, _, _, _, _, _, _, _, _, _, _, _, _, _, _] _
                    refine r_iincN h dX7_endOf_181 rfl ?_
                    show Wx _ _ _ [_, _, _, _, _, _, _, _, _, _, _, _, _, _, _, _, _, _, _] _
                    refine r_goto 84 h dX7_endOf_184 (by decide) ?_
                    first | (rw [if_pos c98] at hqV; exact hqV) | (rw [if_neg c98] at hqV; exact hqV)
              refine r_iload h dX7_endOf_74 rfl ?_
              refine r_iload h dX7_endOf_76 rfl ?_
              refine r_icmp_gt_f 193 h dX7_endOf_78 (by decide) (gtF (by omega) (by omega)) ?_
              refine r_iconst 0 h dX7_endOf_81 (by decide) ?_
              refine r_istore h dX7_endOf_82 (Nat.le_of_ble_eq_true rfl) ?_
              show Wx _ _ _ [_, _, _, _, _, _, _, _, _, _, _, _, _, _, _, _, _, _, _] _
              exact loopV (b + 1) 0 (by omega)
          refine r_iload h dX7_endOf_62 rfl ?_
          refine r_iload h dX7_endOf_64 rfl ?_
          refine r_iadd h dX7_endOf_66 ?_
          refine r_iconst 5 h dX7_endOf_67 (by decide) ?_
          refine r_icmp_ge_f 199 h dX7_endOf_68 (by decide) (by rw [nI_add]; exact bigF (a := 5) (by omega) (by omega)) ?_
          show Wx _ _ 71 _ _
          refine r_iconst 0 h dX7_endOf_71 (by decide) ?_
          refine r_istore h dX7_endOf_72 (Nat.le_of_ble_eq_true rfl) ?_
          show Wx _ _ _ [_, _, _, _, _, _, _, _, _, _, _, _, _, _, _, _, _, _, _] _
          exact loopU (a + 1) 0 (by omega)
      refine r_iload h dX7_endOf_53 rfl ?_
      refine r_iconst 5 h dX7_endOf_55 (by decide) ?_
      refine r_icmp_ge_f 205 h dX7_endOf_56 (by decide) (bigF (a := 5) (by omega) (by omega)) ?_
      refine r_iconst 0 h dX7_endOf_59 (by decide) ?_
      refine r_istore h dX7_endOf_60 (Nat.le_of_ble_eq_true rfl) ?_
      show Wx _ _ _ [_, _, _, _, _, _, _, _, _, _, _, _, _, _, _, _, _, _, _] _
      exact loopB (5 - a) 0 (by omega)
  refine r_ldc2 h lc_X7_134 dX7_endOf_0 ?_
  refine r_iload h dX7_endOf_3 rfl ?_
  refine r_i2l h dX7_endOf_5 ?_
  refine r_lmul h dX7_endOf_6 ?_
  refine r_iload_n 1 h dX7_endOf_7 rfl rfl ?_
  show Wx _ _ 8 _ _
  refine r_iload_n 2 h dX7_endOf_8 rfl rfl ?_
  refine cS2 h (mX7_middle _ _ _ q i) kX7_middle lm_X7_127 (by decide) (Nat.le_of_ble_eq_true rfl) dX7_endOf_9 ?_
  refine r_i2l h dX7_endOf_12 ?_
  refine r_lsub h dX7_endOf_13 ?_
  refine cS1 h (mX7_size _ _ _ _) kX7_size lm_X7_146 (by decide) (Nat.le_of_ble_eq_true rfl) dX7_endOf_14 ?_
  refine r_lstore h dX7_endOf_17 (Nat.le_of_ble_eq_true rfl) ?_
  show Wx _ _ _ [_, _, _, _, _, _, _, _, _, _, _, _, _, _, _, _, _, _, _] _
  show Wx _ _ 19 _ _
  refine r_ldc2 h lc_X7_134 dX7_endOf_19 ?_
  refine r_iload h dX7_endOf_22 rfl ?_
  refine r_i2l h dX7_endOf_24 ?_
  refine r_lmul h dX7_endOf_25 ?_
  refine r_iload_n 1 h dX7_endOf_26 rfl rfl ?_
  refine r_iload_n 3 h dX7_endOf_27 rfl rfl ?_
  show Wx _ _ 28 _ _
  refine cS2 h (mX7_middle _ _ _ q j) kX7_middle lm_X7_127 (by decide) (Nat.le_of_ble_eq_true rfl) dX7_endOf_28 ?_
  refine r_i2l h dX7_endOf_31 ?_
  refine r_lsub h dX7_endOf_32 ?_
  refine cS1 h (mX7_size _ _ _ _) kX7_size lm_X7_146 (by decide) (Nat.le_of_ble_eq_true rfl) dX7_endOf_33 ?_
  refine r_lstore h dX7_endOf_36 (Nat.le_of_ble_eq_true rfl) ?_
  show Wx _ _ _ [_, _, _, _, _, _, _, _, _, _, _, _, _, _, _, _, _, _, _] _
  refine r_bipush 64 h dX7_endOf_38 (by decide) ?_
  show Wx _ _ 40 _ _
  refine r_iload_n 1 h dX7_endOf_40 rfl rfl ?_
  refine r_ishr h dX7_endOf_41 ?_
  refine r_iconst 1 h dX7_endOf_42 (by decide) ?_
  refine r_isub h dX7_endOf_43 ?_
  refine r_i2l h dX7_endOf_44 ?_
  refine r_lstore h dX7_endOf_45 (Nat.le_of_ble_eq_true rfl) ?_
  show Wx _ _ _ [_, _, _, _, _, _, _, _, _, _, _, _, _, _, _, _, _, _, _] _
  show Wx _ _ 47 _ _
  refine r_lconst 0 h dX7_endOf_47 (by decide) ?_
  refine r_lstore h dX7_endOf_48 (Nat.le_of_ble_eq_true rfl) ?_
  show Wx _ _ _ [_, _, _, _, _, _, _, _, _, _, _, _, _, _, _, _, _, _, _] _
  refine r_iconst 0 h dX7_endOf_50 (by decide) ?_
  refine r_istore h dX7_endOf_51 (Nat.le_of_ble_eq_true rfl) ?_
  show Wx _ _ _ [_, _, _, _, _, _, _, _, _, _, _, _, _, _, _, _, _, _, _] _
  exact loopA 5 0 rfl
