section
-- ===== PART A: goes FIRST, ahead of the names: the tables' words, and 'selects' of the private methods out of them =====
/-- a private method of a class that the tables say can be made, by its rows of tables_1 -/
def lw_okq (q : MethodName × Nat) : Prop := (q.1.cls ≠ "java/lang/invoke/MethodHandle" ∧ q.1.cls ≠ "java/lang/invoke/VarHandle") ∧ Cond.instantiable q.1.cls q.2 ∈ tables_1 ∧ Cond.privateMethod q.1 ∈ tables_1 ∧ Cond.instanceMethod q.1 ∈ tables_1
theorem lw_p0 : lw_okq (⟨"FarSums", "pullOf", "(III)J"⟩, 6) := ⟨⟨by decide +kernel, by decide +kernel⟩, List.mem_of_getElem? (i := 11) (by decide +kernel), List.mem_of_getElem? (i := 309) (by decide +kernel), List.mem_of_getElem? (i := 310) (by decide +kernel)⟩
theorem lw_p1 : lw_okq (⟨"FarSums$Trail", "visit", "(III)V"⟩, 9) := ⟨⟨by decide +kernel, by decide +kernel⟩, List.mem_of_getElem? (i := 124) (by decide +kernel), List.mem_of_getElem? (i := 328) (by decide +kernel), List.mem_of_getElem? (i := 329) (by decide +kernel)⟩
theorem lw_p2 : lw_okq (⟨"FarSums$Trail", "isFar", "(III)Z"⟩, 9) := ⟨⟨by decide +kernel, by decide +kernel⟩, List.mem_of_getElem? (i := 124) (by decide +kernel), List.mem_of_getElem? (i := 336) (by decide +kernel), List.mem_of_getElem? (i := 337) (by decide +kernel)⟩
theorem lw_p3 : lw_okq (⟨"FarSums$Trail", "note", "(III)V"⟩, 9) := ⟨⟨by decide +kernel, by decide +kernel⟩, List.mem_of_getElem? (i := 124) (by decide +kernel), List.mem_of_getElem? (i := 350) (by decide +kernel), List.mem_of_getElem? (i := 351) (by decide +kernel)⟩
theorem lw_p4 : lw_okq (⟨"FarSums$Trail", "notePoints", "(III)V"⟩, 9) := ⟨⟨by decide +kernel, by decide +kernel⟩, List.mem_of_getElem? (i := 124) (by decide +kernel), List.mem_of_getElem? (i := 359) (by decide +kernel), List.mem_of_getElem? (i := 360) (by decide +kernel)⟩
theorem lw_p5 : lw_okq (⟨"FarSums", "about", "(III)J"⟩, 6) := ⟨⟨by decide +kernel, by decide +kernel⟩, List.mem_of_getElem? (i := 11) (by decide +kernel), List.mem_of_getElem? (i := 367) (by decide +kernel), List.mem_of_getElem? (i := 368) (by decide +kernel)⟩
theorem lw_p6 : lw_okq (⟨"FarSums", "termOf", "(IIII)J"⟩, 6) := ⟨⟨by decide +kernel, by decide +kernel⟩, List.mem_of_getElem? (i := 11) (by decide +kernel), List.mem_of_getElem? (i := 371) (by decide +kernel), List.mem_of_getElem? (i := 372) (by decide +kernel)⟩
theorem lw_p7 : lw_okq (⟨"FarSums$Boxes", "addMoments", "(III)V"⟩, 5) := ⟨⟨by decide +kernel, by decide +kernel⟩, List.mem_of_getElem? (i := 63) (by decide +kernel), List.mem_of_getElem? (i := 381) (by decide +kernel), List.mem_of_getElem? (i := 382) (by decide +kernel)⟩
theorem lw_p8 : lw_okq (⟨"FarSums$Series", "addTermParts", "(IIJ[JI)V"⟩, 2) := ⟨⟨by decide +kernel, by decide +kernel⟩, List.mem_of_getElem? (i := 107) (by decide +kernel), List.mem_of_getElem? (i := 396) (by decide +kernel), List.mem_of_getElem? (i := 397) (by decide +kernel)⟩
theorem lw_p9 : lw_okq (⟨"FarSums", "wholeEnd", "(III)J"⟩, 6) := ⟨⟨by decide +kernel, by decide +kernel⟩, List.mem_of_getElem? (i := 11) (by decide +kernel), List.mem_of_getElem? (i := 411) (by decide +kernel), List.mem_of_getElem? (i := 412) (by decide +kernel)⟩
theorem lw_p10 : lw_okq (⟨"FarSums", "endOf", "(IIII)J"⟩, 6) := ⟨⟨by decide +kernel, by decide +kernel⟩, List.mem_of_getElem? (i := 11) (by decide +kernel), List.mem_of_getElem? (i := 415) (by decide +kernel), List.mem_of_getElem? (i := 416) (by decide +kernel)⟩
theorem lw_p11 : lw_okq (⟨"FarSums$Series", "addEndParts", "(IIJII)V"⟩, 2) := ⟨⟨by decide +kernel, by decide +kernel⟩, List.mem_of_getElem? (i := 107) (by decide +kernel), List.mem_of_getElem? (i := 426) (by decide +kernel), List.mem_of_getElem? (i := 427) (by decide +kernel)⟩
theorem lw_p12 : lw_okq (⟨"FarSums$Points", "rankKey", "(III)I"⟩, 7) := ⟨⟨by decide +kernel, by decide +kernel⟩, List.mem_of_getElem? (i := 19) (by decide +kernel), List.mem_of_getElem? (i := 480) (by decide +kernel), List.mem_of_getElem? (i := 481) (by decide +kernel)⟩
theorem lw_p13 : lw_okq (⟨"FarSums$Motion", "findPushes", "()V"⟩, 6) := ⟨⟨by decide +kernel, by decide +kernel⟩, List.mem_of_getElem? (i := 162) (by decide +kernel), List.mem_of_getElem? (i := 492) (by decide +kernel), List.mem_of_getElem? (i := 493) (by decide +kernel)⟩
theorem lw_p14 : lw_okq (⟨"FarSums$Motion", "wholeSum", "(II)J"⟩, 6) := ⟨⟨by decide +kernel, by decide +kernel⟩, List.mem_of_getElem? (i := 162) (by decide +kernel), List.mem_of_getElem? (i := 498) (by decide +kernel), List.mem_of_getElem? (i := 499) (by decide +kernel)⟩
theorem lw_p15 : lw_okq (⟨"FarSums$Motion", "addPushes", "(I)V"⟩, 6) := ⟨⟨by decide +kernel, by decide +kernel⟩, List.mem_of_getElem? (i := 162) (by decide +kernel), List.mem_of_getElem? (i := 512) (by decide +kernel), List.mem_of_getElem? (i := 513) (by decide +kernel)⟩
def lw_privs_1 : List (MethodName × Nat) := [(⟨"FarSums", "pullOf", "(III)J"⟩, 6), (⟨"FarSums$Trail", "visit", "(III)V"⟩, 9), (⟨"FarSums$Trail", "isFar", "(III)Z"⟩, 9), (⟨"FarSums$Trail", "note", "(III)V"⟩, 9), (⟨"FarSums$Trail", "notePoints", "(III)V"⟩, 9), (⟨"FarSums", "about", "(III)J"⟩, 6), (⟨"FarSums", "termOf", "(IIII)J"⟩, 6), (⟨"FarSums$Boxes", "addMoments", "(III)V"⟩, 5), (⟨"FarSums$Series", "addTermParts", "(IIJ[JI)V"⟩, 2), (⟨"FarSums", "wholeEnd", "(III)J"⟩, 6), (⟨"FarSums", "endOf", "(IIII)J"⟩, 6), (⟨"FarSums$Series", "addEndParts", "(IIJII)V"⟩, 2), (⟨"FarSums$Points", "rankKey", "(III)I"⟩, 7), (⟨"FarSums$Motion", "findPushes", "()V"⟩, 6), (⟨"FarSums$Motion", "wholeSum", "(II)J"⟩, 6), (⟨"FarSums$Motion", "addPushes", "(I)V"⟩, 6)]
theorem lw_r1 : ∀ q ∈ lw_privs_1, lw_okq q := List.forall_mem_cons.mpr ⟨lw_p0, List.forall_mem_cons.mpr ⟨lw_p1, List.forall_mem_cons.mpr ⟨lw_p2, List.forall_mem_cons.mpr ⟨lw_p3, List.forall_mem_cons.mpr ⟨lw_p4, List.forall_mem_cons.mpr ⟨lw_p5, List.forall_mem_cons.mpr ⟨lw_p6, List.forall_mem_cons.mpr ⟨lw_p7, List.forall_mem_cons.mpr ⟨lw_p8, List.forall_mem_cons.mpr ⟨lw_p9, List.forall_mem_cons.mpr ⟨lw_p10, List.forall_mem_cons.mpr ⟨lw_p11, List.forall_mem_cons.mpr ⟨lw_p12, List.forall_mem_cons.mpr ⟨lw_p13, List.forall_mem_cons.mpr ⟨lw_p14, List.forall_mem_cons.mpr ⟨lw_p15, fun _ h => absurd h List.not_mem_nil⟩⟩⟩⟩⟩⟩⟩⟩⟩⟩⟩⟩⟩⟩⟩⟩
theorem lw_p16 : lw_okq (⟨"FarSums$Motion", "shiftPlaces", "(I)V"⟩, 6) := ⟨⟨by decide +kernel, by decide +kernel⟩, List.mem_of_getElem? (i := 162) (by decide +kernel), List.mem_of_getElem? (i := 517) (by decide +kernel), List.mem_of_getElem? (i := 518) (by decide +kernel)⟩
theorem lw_p17 : lw_okq (⟨"FarSums", "digestPoints", "(J)J"⟩, 6) := ⟨⟨by decide +kernel, by decide +kernel⟩, List.mem_of_getElem? (i := 11) (by decide +kernel), List.mem_of_getElem? (i := 555) (by decide +kernel), List.mem_of_getElem? (i := 556) (by decide +kernel)⟩
theorem lw_p18 : lw_okq (⟨"FarSums", "digestFactors", "(J)J"⟩, 6) := ⟨⟨by decide +kernel, by decide +kernel⟩, List.mem_of_getElem? (i := 11) (by decide +kernel), List.mem_of_getElem? (i := 559) (by decide +kernel), List.mem_of_getElem? (i := 560) (by decide +kernel)⟩
theorem lw_p19 : lw_okq (⟨"FarSums", "digestBoxes", "(J)J"⟩, 6) := ⟨⟨by decide +kernel, by decide +kernel⟩, List.mem_of_getElem? (i := 11) (by decide +kernel), List.mem_of_getElem? (i := 563) (by decide +kernel), List.mem_of_getElem? (i := 564) (by decide +kernel)⟩
theorem lw_p20 : lw_okq (⟨"FarSums", "digestMoments", "(JIII)J"⟩, 6) := ⟨⟨by decide +kernel, by decide +kernel⟩, List.mem_of_getElem? (i := 11) (by decide +kernel), List.mem_of_getElem? (i := 567) (by decide +kernel), List.mem_of_getElem? (i := 568) (by decide +kernel)⟩
theorem lw_p21 : lw_okq (⟨"FarSumsModel", "isPoint", "(I)Z"⟩, 20) := ⟨⟨by decide +kernel, by decide +kernel⟩, List.mem_of_getElem? (i := 571) (by decide +kernel), List.mem_of_getElem? (i := 655) (by decide +kernel), List.mem_of_getElem? (i := 656) (by decide +kernel)⟩
theorem lw_p22 : lw_okq (⟨"FarSumsModel", "many", "()I"⟩, 20) := ⟨⟨by decide +kernel, by decide +kernel⟩, List.mem_of_getElem? (i := 571) (by decide +kernel), List.mem_of_getElem? (i := 660) (by decide +kernel), List.mem_of_getElem? (i := 661) (by decide +kernel)⟩
theorem lw_p23 : lw_okq (⟨"FarSumsModel", "sumAt", "(II)J"⟩, 20) := ⟨⟨by decide +kernel, by decide +kernel⟩, List.mem_of_getElem? (i := 571) (by decide +kernel), List.mem_of_getElem? (i := 700) (by decide +kernel), List.mem_of_getElem? (i := 701) (by decide +kernel)⟩
theorem lw_p24 : lw_okq (⟨"FarSumsModel", "pull", "(III)J"⟩, 20) := ⟨⟨by decide +kernel, by decide +kernel⟩, List.mem_of_getElem? (i := 571) (by decide +kernel), List.mem_of_getElem? (i := 704) (by decide +kernel), List.mem_of_getElem? (i := 705) (by decide +kernel)⟩
theorem lw_p25 : lw_okq (⟨"FarSumsModel", "isBox", "(III)Z"⟩, 20) := ⟨⟨by decide +kernel, by decide +kernel⟩, List.mem_of_getElem? (i := 571) (by decide +kernel), List.mem_of_getElem? (i := 717) (by decide +kernel), List.mem_of_getElem? (i := 718) (by decide +kernel)⟩
theorem lw_p26 : lw_okq (⟨"FarSumsModel", "isSplit", "(III)Z"⟩, 20) := ⟨⟨by decide +kernel, by decide +kernel⟩, List.mem_of_getElem? (i := 571) (by decide +kernel), List.mem_of_getElem? (i := 722) (by decide +kernel), List.mem_of_getElem? (i := 723) (by decide +kernel)⟩
theorem lw_p27 : lw_okq (⟨"FarSumsModel", "pointsIn", "(III)I"⟩, 20) := ⟨⟨by decide +kernel, by decide +kernel⟩, List.mem_of_getElem? (i := 571) (by decide +kernel), List.mem_of_getElem? (i := 726) (by decide +kernel), List.mem_of_getElem? (i := 727) (by decide +kernel)⟩
theorem lw_p28 : lw_okq (⟨"FarSumsModel", "isIn", "(IIII)Z"⟩, 20) := ⟨⟨by decide +kernel, by decide +kernel⟩, List.mem_of_getElem? (i := 571) (by decide +kernel), List.mem_of_getElem? (i := 730) (by decide +kernel), List.mem_of_getElem? (i := 731) (by decide +kernel)⟩
theorem lw_p29 : lw_okq (⟨"FarSumsModel", "bulk", "(III)J"⟩, 20) := ⟨⟨by decide +kernel, by decide +kernel⟩, List.mem_of_getElem? (i := 571) (by decide +kernel), List.mem_of_getElem? (i := 735) (by decide +kernel), List.mem_of_getElem? (i := 736) (by decide +kernel)⟩
theorem lw_p30 : lw_okq (⟨"FarSumsModel", "momentOf", "(IIIII)J"⟩, 20) := ⟨⟨by decide +kernel, by decide +kernel⟩, List.mem_of_getElem? (i := 571) (by decide +kernel), List.mem_of_getElem? (i := 743) (by decide +kernel), List.mem_of_getElem? (i := 744) (by decide +kernel)⟩
theorem lw_p31 : lw_okq (⟨"FarSumsModel", "goAcross", "(IIII)V"⟩, 20) := ⟨⟨by decide +kernel, by decide +kernel⟩, List.mem_of_getElem? (i := 571) (by decide +kernel), List.mem_of_getElem? (i := 759) (by decide +kernel), List.mem_of_getElem? (i := 760) (by decide +kernel)⟩
def lw_privs_2 : List (MethodName × Nat) := [(⟨"FarSums$Motion", "shiftPlaces", "(I)V"⟩, 6), (⟨"FarSums", "digestPoints", "(J)J"⟩, 6), (⟨"FarSums", "digestFactors", "(J)J"⟩, 6), (⟨"FarSums", "digestBoxes", "(J)J"⟩, 6), (⟨"FarSums", "digestMoments", "(JIII)J"⟩, 6), (⟨"FarSumsModel", "isPoint", "(I)Z"⟩, 20), (⟨"FarSumsModel", "many", "()I"⟩, 20), (⟨"FarSumsModel", "sumAt", "(II)J"⟩, 20), (⟨"FarSumsModel", "pull", "(III)J"⟩, 20), (⟨"FarSumsModel", "isBox", "(III)Z"⟩, 20), (⟨"FarSumsModel", "isSplit", "(III)Z"⟩, 20), (⟨"FarSumsModel", "pointsIn", "(III)I"⟩, 20), (⟨"FarSumsModel", "isIn", "(IIII)Z"⟩, 20), (⟨"FarSumsModel", "bulk", "(III)J"⟩, 20), (⟨"FarSumsModel", "momentOf", "(IIIII)J"⟩, 20), (⟨"FarSumsModel", "goAcross", "(IIII)V"⟩, 20)]
theorem lw_r2 : ∀ q ∈ lw_privs_2, lw_okq q := List.forall_mem_cons.mpr ⟨lw_p16, List.forall_mem_cons.mpr ⟨lw_p17, List.forall_mem_cons.mpr ⟨lw_p18, List.forall_mem_cons.mpr ⟨lw_p19, List.forall_mem_cons.mpr ⟨lw_p20, List.forall_mem_cons.mpr ⟨lw_p21, List.forall_mem_cons.mpr ⟨lw_p22, List.forall_mem_cons.mpr ⟨lw_p23, List.forall_mem_cons.mpr ⟨lw_p24, List.forall_mem_cons.mpr ⟨lw_p25, List.forall_mem_cons.mpr ⟨lw_p26, List.forall_mem_cons.mpr ⟨lw_p27, List.forall_mem_cons.mpr ⟨lw_p28, List.forall_mem_cons.mpr ⟨lw_p29, List.forall_mem_cons.mpr ⟨lw_p30, List.forall_mem_cons.mpr ⟨lw_p31, fun _ h => absurd h List.not_mem_nil⟩⟩⟩⟩⟩⟩⟩⟩⟩⟩⟩⟩⟩⟩⟩⟩
theorem lw_p32 : lw_okq (⟨"FarSumsModel", "term", "(IIIIII)J"⟩, 20) := ⟨⟨by decide +kernel, by decide +kernel⟩, List.mem_of_getElem? (i := 571) (by decide +kernel), List.mem_of_getElem? (i := 766) (by decide +kernel), List.mem_of_getElem? (i := 767) (by decide +kernel)⟩
theorem lw_p33 : lw_okq (⟨"FarSumsModel", "endOf", "(IIIIII)J"⟩, 20) := ⟨⟨by decide +kernel, by decide +kernel⟩, List.mem_of_getElem? (i := 571) (by decide +kernel), List.mem_of_getElem? (i := 773) (by decide +kernel), List.mem_of_getElem? (i := 774) (by decide +kernel)⟩
theorem lw_p34 : lw_okq (⟨"FarSumsModel", "goes", "(III)V"⟩, 20) := ⟨⟨by decide +kernel, by decide +kernel⟩, List.mem_of_getElem? (i := 571) (by decide +kernel), List.mem_of_getElem? (i := 777) (by decide +kernel), List.mem_of_getElem? (i := 778) (by decide +kernel)⟩
theorem lw_p35 : lw_okq (⟨"FarSumsModel", "farOf", "(III)I"⟩, 20) := ⟨⟨by decide +kernel, by decide +kernel⟩, List.mem_of_getElem? (i := 571) (by decide +kernel), List.mem_of_getElem? (i := 793) (by decide +kernel), List.mem_of_getElem? (i := 794) (by decide +kernel)⟩
theorem lw_p36 : lw_okq (⟨"FarSumsModel", "goOn", "()V"⟩, 20) := ⟨⟨by decide +kernel, by decide +kernel⟩, List.mem_of_getElem? (i := 571) (by decide +kernel), List.mem_of_getElem? (i := 802) (by decide +kernel), List.mem_of_getElem? (i := 803) (by decide +kernel)⟩
theorem lw_p37 : lw_okq (⟨"FarSumsModel", "findPushes", "()V"⟩, 20) := ⟨⟨by decide +kernel, by decide +kernel⟩, List.mem_of_getElem? (i := 571) (by decide +kernel), List.mem_of_getElem? (i := 806) (by decide +kernel), List.mem_of_getElem? (i := 807) (by decide +kernel)⟩
theorem lw_p38 : lw_okq (⟨"FarSumsModel", "goBack", "()V"⟩, 20) := ⟨⟨by decide +kernel, by decide +kernel⟩, List.mem_of_getElem? (i := 571) (by decide +kernel), List.mem_of_getElem? (i := 817) (by decide +kernel), List.mem_of_getElem? (i := 818) (by decide +kernel)⟩
def lw_privs_3 : List (MethodName × Nat) := [(⟨"FarSumsModel", "term", "(IIIIII)J"⟩, 20), (⟨"FarSumsModel", "endOf", "(IIIIII)J"⟩, 20), (⟨"FarSumsModel", "goes", "(III)V"⟩, 20), (⟨"FarSumsModel", "farOf", "(III)I"⟩, 20), (⟨"FarSumsModel", "goOn", "()V"⟩, 20), (⟨"FarSumsModel", "findPushes", "()V"⟩, 20), (⟨"FarSumsModel", "goBack", "()V"⟩, 20)]
theorem lw_r3 : ∀ q ∈ lw_privs_3, lw_okq q := List.forall_mem_cons.mpr ⟨lw_p32, List.forall_mem_cons.mpr ⟨lw_p33, List.forall_mem_cons.mpr ⟨lw_p34, List.forall_mem_cons.mpr ⟨lw_p35, List.forall_mem_cons.mpr ⟨lw_p36, List.forall_mem_cons.mpr ⟨lw_p37, List.forall_mem_cons.mpr ⟨lw_p38, fun _ h => absurd h List.not_mem_nil⟩⟩⟩⟩⟩⟩⟩
def lw_privs : List (MethodName × Nat) := lw_privs_1 ++ (lw_privs_2 ++ (lw_privs_3))
def lw_tbl : List Cond := k2_sels lw_privs ++ tables_1
theorem lw_privs_ok : ∀ q ∈ lw_privs, lw_okq q := by
  show ∀ q ∈ lw_privs_1 ++ (lw_privs_2 ++ (lw_privs_3)), lw_okq q
  exact List.forall_mem_append.mpr ⟨lw_r1, List.forall_mem_append.mpr ⟨lw_r2, lw_r3⟩⟩
def RX0 : String := "FarSums$Boxes"
def TX0 : u_T := fun k => match k with
  | 0 => ("FarSums$Boxes", "points", "LFarSums$Points;", true)
  | 1 => ("FarSums$Boxes", "tally", "[I", true)
  | 2 => ("FarSums$Boxes", "room", "I", false)
  | 3 => ("FarSums$Boxes", "moments", "[J", true)
  | _ => ("FarSums$Boxes", "bulk", "I", false)
def tyX0 : Nat → FieldType := fun k => match k with
  | 0 => .object "FarSums$Points"
  | 1 => .array .int
  | 2 => .int
  | 3 => .array .long
  | _ => .int
abbrev wsX00 : List Cond := u_ws RX0 TX0 5
theorem nmX0 : ∀ a, a < 5 → ∀ b, b < 5 → a ≠ b → (TX0 a).2.1 ≠ (TX0 b).2.1 := by decide +kernel
theorem tyX0_ok : ∀ k, k < 5 → parseFieldDescriptor (TX0 k).2.2.1 = some (tyX0 k) := by decide +kernel
abbrev cX0_init : ByteArray := prog_2_method_1_code
def yX0_init : MethodName := ⟨RX0, "<init>", "(LFarSums$Points;)V"⟩
abbrev cX0_enter : ByteArray := prog_2_method_2_code
def yX0_enter : MethodName := ⟨RX0, "enter", "(II)V"⟩
abbrev cX0_leave : ByteArray := prog_2_method_3_code
def yX0_leave : MethodName := ⟨RX0, "leave", "(II)V"⟩
abbrev cX0_pointsIn : ByteArray := prog_2_method_4_code
def yX0_pointsIn : MethodName := ⟨RX0, "pointsIn", "(III)I"⟩
abbrev cX0_isThere : ByteArray := prog_2_method_5_code
def yX0_isThere : MethodName := ⟨RX0, "isThere", "(III)Z"⟩
abbrev cX0_isSplit : ByteArray := prog_2_method_6_code
def yX0_isSplit : MethodName := ⟨RX0, "isSplit", "(III)Z"⟩
abbrev cX0_splitBoxes : ByteArray := prog_2_method_7_code
def yX0_splitBoxes : MethodName := ⟨RX0, "splitBoxes", "()I"⟩
abbrev cX0_greatestLevel : ByteArray := prog_2_method_8_code
def yX0_greatestLevel : MethodName := ⟨RX0, "greatestLevel", "()I"⟩
abbrev cX0_leafLevel : ByteArray := prog_2_method_9_code
def yX0_leafLevel : MethodName := ⟨RX0, "leafLevel", "(II)I"⟩
abbrev cX0_holds : ByteArray := prog_2_method_10_code
def yX0_holds : MethodName := ⟨RX0, "holds", "(IIII)Z"⟩
abbrev cX0_gather : ByteArray := prog_2_method_11_code
def yX0_gather : MethodName := ⟨RX0, "gather", "(III)V"⟩
abbrev cX0_addMoments : ByteArray := prog_2_method_12_code
def yX0_addMoments : MethodName := ⟨RX0, "addMoments", "(III)V"⟩
abbrev cX0_numberAt : ByteArray := prog_2_method_13_code
def yX0_numberAt : MethodName := ⟨RX0, "numberAt", "(II)I"⟩
abbrev cX0_placeIndex : ByteArray := prog_2_method_14_code
def yX0_placeIndex : MethodName := ⟨RX0, "placeIndex", "(III)I"⟩
abbrev cX0_boxIndex : ByteArray := prog_2_method_15_code
def yX0_boxIndex : MethodName := ⟨RX0, "boxIndex", "(III)I"⟩
def RX1 : String := "FarSums$Motion"
def TX1 : u_T := fun k => match k with
  | 0 => ("FarSums$Motion", "points", "LFarSums$Points;", true)
  | 1 => ("FarSums$Motion", "boxes", "LFarSums$Boxes;", true)
  | 2 => ("FarSums$Motion", "series", "LFarSums$Series;", true)
  | 3 => ("FarSums$Motion", "pushX", "[I", true)
  | 4 => ("FarSums$Motion", "pushY", "[I", true)
  | _ => ("FarSums$Motion", "steps", "I", false)
def tyX1 : Nat → FieldType := fun k => match k with
  | 0 => .object "FarSums$Points"
  | 1 => .object "FarSums$Boxes"
  | 2 => .object "FarSums$Series"
  | 3 => .array .int
  | 4 => .array .int
  | _ => .int
abbrev wsX10 : List Cond := u_ws RX1 TX1 6
theorem nmX1 : ∀ a, a < 6 → ∀ b, b < 6 → a ≠ b → (TX1 a).2.1 ≠ (TX1 b).2.1 := by decide +kernel
theorem tyX1_ok : ∀ k, k < 6 → parseFieldDescriptor (TX1 k).2.2.1 = some (tyX1 k) := by decide +kernel
abbrev cX1_init : ByteArray := prog_3_method_1_code
def yX1_init : MethodName := ⟨RX1, "<init>", "(LFarSums$Points;LFarSums$Boxes;LFarSums$Series;)V"⟩
abbrev cX1_forth : ByteArray := prog_3_method_2_code
def yX1_forth : MethodName := ⟨RX1, "forth", "()V"⟩
abbrev cX1_back : ByteArray := prog_3_method_3_code
def yX1_back : MethodName := ⟨RX1, "back", "()V"⟩
abbrev cX1_findPushes : ByteArray := prog_3_method_4_code
def yX1_findPushes : MethodName := ⟨RX1, "findPushes", "()V"⟩
abbrev cX1_wholeSum : ByteArray := prog_3_method_5_code
def yX1_wholeSum : MethodName := ⟨RX1, "wholeSum", "(II)J"⟩
abbrev cX1_pushOf : ByteArray := prog_3_method_6_code
def yX1_pushOf : MethodName := ⟨RX1, "pushOf", "(J)I"⟩
abbrev cX1_addPushes : ByteArray := prog_3_method_7_code
def yX1_addPushes : MethodName := ⟨RX1, "addPushes", "(I)V"⟩
abbrev cX1_shiftPlaces : ByteArray := prog_3_method_8_code
def yX1_shiftPlaces : MethodName := ⟨RX1, "shiftPlaces", "(I)V"⟩
def RX2 : String := "FarSums$Points"
def TX2 : u_T := fun k => match k with
  | 0 => ("FarSums$Points", "here", "[Z", true)
  | 1 => ("FarSums$Points", "x", "[I", true)
  | 2 => ("FarSums$Points", "y", "[I", true)
  | 3 => ("FarSums$Points", "weight", "[I", true)
  | 4 => ("FarSums$Points", "paceX", "[I", true)
  | 5 => ("FarSums$Points", "paceY", "[I", true)
  | _ => ("FarSums$Points", "number", "I", false)
def tyX2 : Nat → FieldType := fun k => match k with
  | 0 => .array .boolean
  | 1 => .array .int
  | 2 => .array .int
  | 3 => .array .int
  | 4 => .array .int
  | 5 => .array .int
  | _ => .int
abbrev wsX20 : List Cond := u_ws RX2 TX2 7
theorem nmX2 : ∀ a, a < 7 → ∀ b, b < 7 → a ≠ b → (TX2 a).2.1 ≠ (TX2 b).2.1 := by decide +kernel
theorem tyX2_ok : ∀ k, k < 7 → parseFieldDescriptor (TX2 k).2.2.1 = some (tyX2 k) := by decide +kernel
abbrev cX2_init : ByteArray := prog_4_method_1_code
def yX2_init : MethodName := ⟨RX2, "<init>", "()V"⟩
abbrev cX2_has : ByteArray := prog_4_method_2_code
def yX2_has : MethodName := ⟨RX2, "has", "(I)Z"⟩
abbrev cX2_leastFree : ByteArray := prog_4_method_3_code
def yX2_leastFree : MethodName := ⟨RX2, "leastFree", "()I"⟩
abbrev cX2_add : ByteArray := prog_4_method_4_code
def yX2_add : MethodName := ⟨RX2, "add", "(IIII)V"⟩
abbrev cX2_remove : ByteArray := prog_4_method_5_code
def yX2_remove : MethodName := ⟨RX2, "remove", "(I)V"⟩
abbrev cX2_put : ByteArray := prog_4_method_6_code
def yX2_put : MethodName := ⟨RX2, "put", "(III)V"⟩
abbrev cX2_setPace : ByteArray := prog_4_method_7_code
def yX2_setPace : MethodName := ⟨RX2, "setPace", "(III)V"⟩
abbrev cX2_read : ByteArray := prog_4_method_8_code
def yX2_read : MethodName := ⟨RX2, "read", "(II)I"⟩
abbrev cX2_wholeBulk : ByteArray := prog_4_method_9_code
def yX2_wholeBulk : MethodName := ⟨RX2, "wholeBulk", "()I"⟩
abbrev cX2_nearerThan : ByteArray := prog_4_method_10_code
def yX2_nearerThan : MethodName := ⟨RX2, "nearerThan", "(III)I"⟩
abbrev cX2_rankKey : ByteArray := prog_4_method_11_code
def yX2_rankKey : MethodName := ⟨RX2, "rankKey", "(III)I"⟩
def RX3 : String := "FarSums$Polynomial"
def TX3 : u_T := fun k => match k with
  | _ => ("FarSums$Polynomial", "numbers", "[J", true)
def tyX3 : Nat → FieldType := fun k => match k with
  | _ => .array .long
abbrev wsX30 : List Cond := u_ws RX3 TX3 1
theorem nmX3 : ∀ a, a < 1 → ∀ b, b < 1 → a ≠ b → (TX3 a).2.1 ≠ (TX3 b).2.1 := by decide +kernel
theorem tyX3_ok : ∀ k, k < 1 → parseFieldDescriptor (TX3 k).2.2.1 = some (tyX3 k) := by decide +kernel
abbrev cX3_init : ByteArray := prog_5_method_1_code
def yX3_init : MethodName := ⟨RX3, "<init>", "()V"⟩
abbrev cX3_get : ByteArray := prog_5_method_2_code
def yX3_get : MethodName := ⟨RX3, "get", "(II)J"⟩
abbrev cX3_set : ByteArray := prog_5_method_3_code
def yX3_set : MethodName := ⟨RX3, "set", "(IIJ)V"⟩
abbrev cX3_add : ByteArray := prog_5_method_4_code
def yX3_add : MethodName := ⟨RX3, "add", "(IIJ)V"⟩
abbrev cX3_clear : ByteArray := prog_5_method_5_code
def yX3_clear : MethodName := ⟨RX3, "clear", "()V"⟩
abbrev cX3_valueAt : ByteArray := prog_5_method_6_code
def yX3_valueAt : MethodName := ⟨RX3, "valueAt", "(JJ)J"⟩
def RX4 : String := "FarSums$Series"
def TX4 : u_T := fun k => match k with
  | 0 => ("FarSums$Series", "factors", "LFarSums$Polynomial;", true)
  | _ => ("FarSums$Series", "result", "LFarSums$Polynomial;", true)
def tyX4 : Nat → FieldType := fun k => match k with
  | 0 => .object "FarSums$Polynomial"
  | _ => .object "FarSums$Polynomial"
abbrev wsX40 : List Cond := u_ws RX4 TX4 2
theorem nmX4 : ∀ a, a < 2 → ∀ b, b < 2 → a ≠ b → (TX4 a).2.1 ≠ (TX4 b).2.1 := by decide +kernel
theorem tyX4_ok : ∀ k, k < 2 → parseFieldDescriptor (TX4 k).2.2.1 = some (tyX4 k) := by decide +kernel
abbrev cX4_init : ByteArray := prog_6_method_1_code
def yX4_init : MethodName := ⟨RX4, "<init>", "(LFarSums$Polynomial;)V"⟩
abbrev cX4_expandTerm : ByteArray := prog_6_method_2_code
def yX4_expandTerm : MethodName := ⟨RX4, "expandTerm", "([JI)V"⟩
abbrev cX4_expandEnd : ByteArray := prog_6_method_3_code
def yX4_expandEnd : MethodName := ⟨RX4, "expandEnd", "(JII)V"⟩
abbrev cX4_addTermParts : ByteArray := prog_6_method_4_code
def yX4_addTermParts : MethodName := ⟨RX4, "addTermParts", "(IIJ[JI)V"⟩
abbrev cX4_addEndParts : ByteArray := prog_6_method_5_code
def yX4_addEndParts : MethodName := ⟨RX4, "addEndParts", "(IIJII)V"⟩
abbrev cX4_waysToChoose : ByteArray := prog_6_method_6_code
def yX4_waysToChoose : MethodName := ⟨RX4, "waysToChoose", "(IIII)J"⟩
abbrev cX4_power : ByteArray := prog_6_method_7_code
def yX4_power : MethodName := ⟨RX4, "power", "(JI)J"⟩
def RX5 : String := "FarSums$Trail"
def TX5 : u_T := fun k => match k with
  | 0 => ("FarSums$Trail", "points", "LFarSums$Points;", true)
  | 1 => ("FarSums$Trail", "boxes", "LFarSums$Boxes;", true)
  | 2 => ("FarSums$Trail", "level", "[I", true)
  | 3 => ("FarSums$Trail", "first", "[I", true)
  | 4 => ("FarSums$Trail", "second", "[I", true)
  | 5 => ("FarSums$Trail", "length", "I", false)
  | 6 => ("FarSums$Trail", "placeX", "I", false)
  | 7 => ("FarSums$Trail", "placeY", "I", false)
  | _ => ("FarSums$Trail", "distance", "I", false)
def tyX5 : Nat → FieldType := fun k => match k with
  | 0 => .object "FarSums$Points"
  | 1 => .object "FarSums$Boxes"
  | 2 => .array .int
  | 3 => .array .int
  | 4 => .array .int
  | 5 => .int
  | 6 => .int
  | 7 => .int
  | _ => .int
abbrev wsX50 : List Cond := u_ws RX5 TX5 9
theorem nmX5 : ∀ a, a < 9 → ∀ b, b < 9 → a ≠ b → (TX5 a).2.1 ≠ (TX5 b).2.1 := by decide +kernel
theorem tyX5_ok : ∀ k, k < 9 → parseFieldDescriptor (TX5 k).2.2.1 = some (tyX5 k) := by decide +kernel
abbrev cX5_init : ByteArray := prog_7_method_1_code
def yX5_init : MethodName := ⟨RX5, "<init>", "(LFarSums$Points;LFarSums$Boxes;)V"⟩
abbrev cX5_trace : ByteArray := prog_7_method_2_code
def yX5_trace : MethodName := ⟨RX5, "trace", "(III)V"⟩
abbrev cX5_read : ByteArray := prog_7_method_3_code
def yX5_read : MethodName := ⟨RX5, "read", "(II)I"⟩
abbrev cX5_visit : ByteArray := prog_7_method_4_code
def yX5_visit : MethodName := ⟨RX5, "visit", "(III)V"⟩
abbrev cX5_isFar : ByteArray := prog_7_method_5_code
def yX5_isFar : MethodName := ⟨RX5, "isFar", "(III)Z"⟩
abbrev cX5_notePoints : ByteArray := prog_7_method_6_code
def yX5_notePoints : MethodName := ⟨RX5, "notePoints", "(III)V"⟩
abbrev cX5_note : ByteArray := prog_7_method_7_code
def yX5_note : MethodName := ⟨RX5, "note", "(III)V"⟩
def RX6 : String := "FarSums"
def TX6 : u_T := fun k => match k with
  | 0 => ("FarSums", "points", "LFarSums$Points;", true)
  | 1 => ("FarSums", "boxes", "LFarSums$Boxes;", true)
  | 2 => ("FarSums", "factors", "LFarSums$Polynomial;", true)
  | 3 => ("FarSums", "series", "LFarSums$Series;", true)
  | 4 => ("FarSums", "trail", "LFarSums$Trail;", true)
  | _ => ("FarSums", "motion", "LFarSums$Motion;", true)
def tyX6 : Nat → FieldType := fun k => match k with
  | 0 => .object "FarSums$Points"
  | 1 => .object "FarSums$Boxes"
  | 2 => .object "FarSums$Polynomial"
  | 3 => .object "FarSums$Series"
  | 4 => .object "FarSums$Trail"
  | _ => .object "FarSums$Motion"
abbrev wsX60 : List Cond := u_ws RX6 TX6 6
theorem nmX6 : ∀ a, a < 6 → ∀ b, b < 6 → a ≠ b → (TX6 a).2.1 ≠ (TX6 b).2.1 := by decide +kernel
theorem tyX6_ok : ∀ k, k < 6 → parseFieldDescriptor (TX6 k).2.2.1 = some (tyX6 k) := by decide +kernel
abbrev cX6_init : ByteArray := prog_1_method_1_code
def yX6_init : MethodName := ⟨RX6, "<init>", "()V"⟩
abbrev cX6_point : ByteArray := prog_1_method_2_code
def yX6_point : MethodName := ⟨RX6, "point", "(III)I"⟩
abbrev cX6_take : ByteArray := prog_1_method_3_code
def yX6_take : MethodName := ⟨RX6, "take", "(I)I"⟩
abbrev cX6_move : ByteArray := prog_1_method_4_code
def yX6_move : MethodName := ⟨RX6, "move", "(III)I"⟩
abbrev cX6_weigh : ByteArray := prog_1_method_5_code
def yX6_weigh : MethodName := ⟨RX6, "weigh", "(II)I"⟩
abbrev cX6_pace : ByteArray := prog_1_method_6_code
def yX6_pace : MethodName := ⟨RX6, "pace", "(III)I"⟩
abbrev cX6_at : ByteArray := prog_1_method_7_code
def yX6_at : MethodName := ⟨RX6, "at", "(II)I"⟩
abbrev cX6_kernel : ByteArray := prog_1_method_8_code
def yX6_kernel : MethodName := ⟨RX6, "kernel", "(III)I"⟩
abbrev cX6_capacity : ByteArray := prog_1_method_9_code
def yX6_capacity : MethodName := ⟨RX6, "capacity", "(I)I"⟩
abbrev cX6_sum : ByteArray := prog_1_method_10_code
def yX6_sum : MethodName := ⟨RX6, "sum", "(II)J"⟩
abbrev cX6_across : ByteArray := prog_1_method_11_code
def yX6_across : MethodName := ⟨RX6, "across", "(IIIII)J"⟩
abbrev cX6_order : ByteArray := prog_1_method_12_code
def yX6_order : MethodName := ⟨RX6, "order", "(IIIJ)I"⟩
abbrev cX6_way : ByteArray := prog_1_method_13_code
def yX6_way : MethodName := ⟨RX6, "way", "(IIIII)I"⟩
abbrev cX6_box : ByteArray := prog_1_method_14_code
def yX6_box : MethodName := ⟨RX6, "box", "(IIII)I"⟩
abbrev cX6_moment : ByteArray := prog_1_method_15_code
def yX6_moment : MethodName := ⟨RX6, "moment", "(IIIII)J"⟩
abbrev cX6_leaf : ByteArray := prog_1_method_16_code
def yX6_leaf : MethodName := ⟨RX6, "leaf", "(II)I"⟩
abbrev cX6_nearest : ByteArray := prog_1_method_17_code
def yX6_nearest : MethodName := ⟨RX6, "nearest", "(III)I"⟩
abbrev cX6_step : ByteArray := prog_1_method_18_code
def yX6_step : MethodName := ⟨RX6, "step", "(I)I"⟩
abbrev cX6_count : ByteArray := prog_1_method_19_code
def yX6_count : MethodName := ⟨RX6, "count", "(I)I"⟩
abbrev cX6_digest : ByteArray := prog_1_method_20_code
def yX6_digest : MethodName := ⟨RX6, "digest", "()J"⟩
abbrev cX6_digestPoints : ByteArray := prog_1_method_21_code
def yX6_digestPoints : MethodName := ⟨RX6, "digestPoints", "(J)J"⟩
abbrev cX6_digestFactors : ByteArray := prog_1_method_22_code
def yX6_digestFactors : MethodName := ⟨RX6, "digestFactors", "(J)J"⟩
abbrev cX6_digestBoxes : ByteArray := prog_1_method_23_code
def yX6_digestBoxes : MethodName := ⟨RX6, "digestBoxes", "(J)J"⟩
abbrev cX6_digestMoments : ByteArray := prog_1_method_24_code
def yX6_digestMoments : MethodName := ⟨RX6, "digestMoments", "(JIII)J"⟩
abbrev cX6_pullOf : ByteArray := prog_1_method_25_code
def yX6_pullOf : MethodName := ⟨RX6, "pullOf", "(III)J"⟩
abbrev cX6_about : ByteArray := prog_1_method_26_code
def yX6_about : MethodName := ⟨RX6, "about", "(III)J"⟩
abbrev cX6_wholeEnd : ByteArray := prog_1_method_27_code
def yX6_wholeEnd : MethodName := ⟨RX6, "wholeEnd", "(III)J"⟩
abbrev cX6_termOf : ByteArray := prog_1_method_28_code
def yX6_termOf : MethodName := ⟨RX6, "termOf", "(IIII)J"⟩
abbrev cX6_endOf : ByteArray := prog_1_method_29_code
def yX6_endOf : MethodName := ⟨RX6, "endOf", "(IIII)J"⟩
abbrev cX6_isPlace : ByteArray := prog_1_method_30_code
def yX6_isPlace : MethodName := ⟨RX6, "isPlace", "(II)Z"⟩
abbrev cX6_isWeight : ByteArray := prog_1_method_31_code
def yX6_isWeight : MethodName := ⟨RX6, "isWeight", "(I)Z"⟩
abbrev cX6_isPaceNumber : ByteArray := prog_1_method_32_code
def yX6_isPaceNumber : MethodName := ⟨RX6, "isPaceNumber", "(I)Z"⟩
abbrev cX6_isDistance : ByteArray := prog_1_method_33_code
def yX6_isDistance : MethodName := ⟨RX6, "isDistance", "(I)Z"⟩
abbrev cX6_isPowers : ByteArray := prog_1_method_34_code
def yX6_isPowers : MethodName := ⟨RX6, "isPowers", "(II)Z"⟩
abbrev cX6_slot : ByteArray := prog_1_method_35_code
def yX6_slot : MethodName := ⟨RX6, "slot", "(II)I"⟩
abbrev cX6_sideOf : ByteArray := prog_1_method_36_code
def yX6_sideOf : MethodName := ⟨RX6, "sideOf", "(I)I"⟩
abbrev cX6_fromMiddle : ByteArray := prog_1_method_37_code
def yX6_fromMiddle : MethodName := ⟨RX6, "fromMiddle", "(III)I"⟩
abbrev cX6_wrapPace : ByteArray := prog_1_method_38_code
def yX6_wrapPace : MethodName := ⟨RX6, "wrapPace", "(J)I"⟩
abbrev cX6_wrapPlace : ByteArray := prog_1_method_39_code
def yX6_wrapPlace : MethodName := ⟨RX6, "wrapPlace", "(I)I"⟩
def RX7 : String := "FarSumsModel"
def TX7 : u_T := fun k => match k with
  | 0 => ("FarSumsModel", "there", "[Z", true)
  | 1 => ("FarSumsModel", "px", "[I", true)
  | 2 => ("FarSumsModel", "py", "[I", true)
  | 3 => ("FarSumsModel", "weight", "[I", true)
  | 4 => ("FarSumsModel", "vx", "[I", true)
  | 5 => ("FarSumsModel", "vy", "[I", true)
  | 6 => ("FarSumsModel", "kernel", "[I", true)
  | 7 => ("FarSumsModel", "most", "I", false)
  | 8 => ("FarSumsModel", "steps", "I", false)
  | 9 => ("FarSumsModel", "stackLevel", "[I", true)
  | 10 => ("FarSumsModel", "stackI", "[I", true)
  | 11 => ("FarSumsModel", "stackJ", "[I", true)
  | 12 => ("FarSumsModel", "wayLevel", "[I", true)
  | 13 => ("FarSumsModel", "wayI", "[I", true)
  | 14 => ("FarSumsModel", "wayJ", "[I", true)
  | 15 => ("FarSumsModel", "wayMany", "I", false)
  | 16 => ("FarSumsModel", "about", "J", false)
  | 17 => ("FarSumsModel", "end", "J", false)
  | 18 => ("FarSumsModel", "pushX", "[I", true)
  | _ => ("FarSumsModel", "pushY", "[I", true)
def tyX7 : Nat → FieldType := fun k => match k with
  | 0 => .array .boolean
  | 1 => .array .int
  | 2 => .array .int
  | 3 => .array .int
  | 4 => .array .int
  | 5 => .array .int
  | 6 => .array .int
  | 7 => .int
  | 8 => .int
  | 9 => .array .int
  | 10 => .array .int
  | 11 => .array .int
  | 12 => .array .int
  | 13 => .array .int
  | 14 => .array .int
  | 15 => .int
  | 16 => .long
  | 17 => .long
  | 18 => .array .int
  | _ => .array .int
abbrev wsX70 : List Cond := u_ws RX7 TX7 20
theorem nmX7 : ∀ a, a < 20 → ∀ b, b < 20 → a ≠ b → (TX7 a).2.1 ≠ (TX7 b).2.1 := by decide +kernel
theorem tyX7_ok : ∀ k, k < 20 → parseFieldDescriptor (TX7 k).2.2.1 = some (tyX7 k) := by decide +kernel
abbrev cX7_init : ByteArray := prog_9_method_1_code
def yX7_init : MethodName := ⟨RX7, "<init>", "()V"⟩
abbrev cX7_in : ByteArray := prog_9_method_3_code
def yX7_in : MethodName := ⟨RX7, "in", "(JJJ)Z"⟩
abbrev cX7_isPlace : ByteArray := prog_9_method_4_code
def yX7_isPlace : MethodName := ⟨RX7, "isPlace", "(II)Z"⟩
abbrev cX7_isPoint : ByteArray := prog_9_method_5_code
def yX7_isPoint : MethodName := ⟨RX7, "isPoint", "(I)Z"⟩
abbrev cX7_many : ByteArray := prog_9_method_6_code
def yX7_many : MethodName := ⟨RX7, "many", "()I"⟩
abbrev cX7_point : ByteArray := prog_9_method_7_code
def yX7_point : MethodName := ⟨RX7, "point", "(III)I"⟩
abbrev cX7_take : ByteArray := prog_9_method_8_code
def yX7_take : MethodName := ⟨RX7, "take", "(I)I"⟩
abbrev cX7_move : ByteArray := prog_9_method_9_code
def yX7_move : MethodName := ⟨RX7, "move", "(III)I"⟩
abbrev cX7_weigh : ByteArray := prog_9_method_10_code
def yX7_weigh : MethodName := ⟨RX7, "weigh", "(II)I"⟩
abbrev cX7_pace : ByteArray := prog_9_method_11_code
def yX7_pace : MethodName := ⟨RX7, "pace", "(III)I"⟩
abbrev cX7_at : ByteArray := prog_9_method_12_code
def yX7_at : MethodName := ⟨RX7, "at", "(II)I"⟩
abbrev cX7_isPair : ByteArray := prog_9_method_13_code
def yX7_isPair : MethodName := ⟨RX7, "isPair", "(II)Z"⟩
abbrev cX7_kernel : ByteArray := prog_9_method_14_code
def yX7_kernel : MethodName := ⟨RX7, "kernel", "(III)I"⟩
abbrev cX7_capacity : ByteArray := prog_9_method_15_code
def yX7_capacity : MethodName := ⟨RX7, "capacity", "(I)I"⟩
abbrev cX7_power : ByteArray := prog_9_method_16_code
def yX7_power : MethodName := ⟨RX7, "power", "(JI)J"⟩
abbrev cX7_pull : ByteArray := prog_9_method_17_code
def yX7_pull : MethodName := ⟨RX7, "pull", "(III)J"⟩
abbrev cX7_sumAt : ByteArray := prog_9_method_18_code
def yX7_sumAt : MethodName := ⟨RX7, "sumAt", "(II)J"⟩
abbrev cX7_sum : ByteArray := prog_9_method_19_code
def yX7_sum : MethodName := ⟨RX7, "sum", "(II)J"⟩
abbrev cX7_isIn : ByteArray := prog_9_method_20_code
def yX7_isIn : MethodName := ⟨RX7, "isIn", "(IIII)Z"⟩
abbrev cX7_pointsIn : ByteArray := prog_9_method_21_code
def yX7_pointsIn : MethodName := ⟨RX7, "pointsIn", "(III)I"⟩
abbrev cX7_bulk : ByteArray := prog_9_method_22_code
def yX7_bulk : MethodName := ⟨RX7, "bulk", "(III)J"⟩
abbrev cX7_isSplit : ByteArray := prog_9_method_23_code
def yX7_isSplit : MethodName := ⟨RX7, "isSplit", "(III)Z"⟩
abbrev cX7_isBox : ByteArray := prog_9_method_24_code
def yX7_isBox : MethodName := ⟨RX7, "isBox", "(III)Z"⟩
abbrev cX7_middle : ByteArray := prog_9_method_25_code
def yX7_middle : MethodName := ⟨RX7, "middle", "(II)I"⟩
abbrev cX7_momentOf : ByteArray := prog_9_method_26_code
def yX7_momentOf : MethodName := ⟨RX7, "momentOf", "(IIIII)J"⟩
abbrev cX7_box : ByteArray := prog_9_method_27_code
def yX7_box : MethodName := ⟨RX7, "box", "(IIII)I"⟩
abbrev cX7_moment : ByteArray := prog_9_method_28_code
def yX7_moment : MethodName := ⟨RX7, "moment", "(IIIII)J"⟩
abbrev cX7_leaf : ByteArray := prog_9_method_29_code
def yX7_leaf : MethodName := ⟨RX7, "leaf", "(II)I"⟩
abbrev cX7_choose : ByteArray := prog_9_method_30_code
def yX7_choose : MethodName := ⟨RX7, "choose", "(II)J"⟩
abbrev cX7_term : ByteArray := prog_9_method_31_code
def yX7_term : MethodName := ⟨RX7, "term", "(IIIIII)J"⟩
abbrev cX7_size : ByteArray := prog_9_method_32_code
def yX7_size : MethodName := ⟨RX7, "size", "(J)J"⟩
abbrev cX7_endOf : ByteArray := prog_9_method_33_code
def yX7_endOf : MethodName := ⟨RX7, "endOf", "(IIIIII)J"⟩
abbrev cX7_goes : ByteArray := prog_9_method_34_code
def yX7_goes : MethodName := ⟨RX7, "goes", "(III)V"⟩
abbrev cX7_goAcross : ByteArray := prog_9_method_35_code
def yX7_goAcross : MethodName := ⟨RX7, "goAcross", "(IIII)V"⟩
abbrev cX7_across : ByteArray := prog_9_method_36_code
def yX7_across : MethodName := ⟨RX7, "across", "(IIIII)J"⟩
abbrev cX7_order : ByteArray := prog_9_method_37_code
def yX7_order : MethodName := ⟨RX7, "order", "(IIIJ)I"⟩
abbrev cX7_way : ByteArray := prog_9_method_38_code
def yX7_way : MethodName := ⟨RX7, "way", "(IIIII)I"⟩
abbrev cX7_farOf : ByteArray := prog_9_method_39_code
def yX7_farOf : MethodName := ⟨RX7, "farOf", "(III)I"⟩
abbrev cX7_nearest : ByteArray := prog_9_method_40_code
def yX7_nearest : MethodName := ⟨RX7, "nearest", "(III)I"⟩
abbrev cX7_push : ByteArray := prog_9_method_41_code
def yX7_push : MethodName := ⟨RX7, "push", "(JJ)I"⟩
abbrev cX7_findPushes : ByteArray := prog_9_method_42_code
def yX7_findPushes : MethodName := ⟨RX7, "findPushes", "()V"⟩
abbrev cX7_brought : ByteArray := prog_9_method_43_code
def yX7_brought : MethodName := ⟨RX7, "brought", "(I)I"⟩
abbrev cX7_goOn : ByteArray := prog_9_method_44_code
def yX7_goOn : MethodName := ⟨RX7, "goOn", "()V"⟩
abbrev cX7_goBack : ByteArray := prog_9_method_45_code
def yX7_goBack : MethodName := ⟨RX7, "goBack", "()V"⟩
abbrev cX7_step : ByteArray := prog_9_method_46_code
def yX7_step : MethodName := ⟨RX7, "step", "(I)I"⟩
abbrev cX7_count : ByteArray := prog_9_method_47_code
def yX7_count : MethodName := ⟨RX7, "count", "(I)I"⟩
abbrev cX7_digest : ByteArray := prog_9_method_48_code
def yX7_digest : MethodName := ⟨RX7, "digest", "()J"⟩
def RJ9 : String := "java/lang/Math"
abbrev cJ9_abs_0f7a4 : ByteArray := prog_10_method_59_code
def yJ9_abs_0f7a4 : MethodName := ⟨RJ9, "abs", "(I)I"⟩
abbrev cJ9_abs_067f4 : ByteArray := prog_10_method_61_code
def yJ9_abs_067f4 : MethodName := ⟨RJ9, "abs", "(J)J"⟩
abbrev cJ9_max_7cf53 : ByteArray := prog_10_method_65_code
def yJ9_max_7cf53 : MethodName := ⟨RJ9, "max", "(II)I"⟩
def RL : String := "FarSumsLaw"
abbrev cL_law : ByteArray := code
def yL_law : MethodName := ⟨RL, "law", "([I)Z"⟩
abbrev vwCl : List vw_C := [(RX0, TX0, 5), (RX1, TX1, 6), (RX2, TX2, 7), (RX3, TX3, 1), (RX4, TX4, 2), (RX5, TX5, 9), (RX6, TX6, 6), (RX7, TX7, 20)]
end
section
/-- the abstract state: rows of ints and of longs by their numbers (a lone field is place 0 of its row) -/
abbrev St : Type := (Nat → Nat → Int32) × (Nat → Nat → Int64)
def sI (S : St) (k i : Nat) (v : Int32) : St := (fun a => if a = k then upd (S.1 k) i v else S.1 a, S.2)
def sJ (S : St) (k i : Nat) (v : Int64) : St := (S.1, fun a => if a = k then vp_updL (S.2 k) i v else S.2 a)
/-- what is fixed of the world: class table, addresses, array classes, which cells may change, the two static tables -/
abbrev Fx : Type := va_G × (Nat → Nat) × (ClassId × ClassId × ClassId) × (Nat → Prop) × (Nat × Nat)
def aD (w : Fx) (k : Nat) : Nat := w.2.1 k
def cyI (w : Fx) : ClassId := w.2.2.1.1
def cyJ (w : Fx) : ClassId := w.2.2.1.2.1
def cyZ (w : Fx) : ClassId := w.2.2.1.2.2
def fA (w : Fx) : Nat → Prop := w.2.2.2.1
def fT1 (w : Fx) : Nat := w.2.2.2.2.1
def fT2 (w : Fx) : Nat := w.2.2.2.2.2
def fty (w : Fx) : List (ClassId × FieldType) := [(cyI w, .int), (cyJ w, .long), (cyZ w, .boolean)]
def wS (w : Fx) (S : St) : va_W := [
  (aD w 0, .inr (6, [.ref (aD w 1), .ref (aD w 8), .ref (aD w 11), .ref (aD w 13), .ref (aD w 16), .ref (aD w 20)])),
  (aD w 1, .inr (2, [.ref (aD w 2), .ref (aD w 3), .ref (aD w 4), .ref (aD w 5), .ref (aD w 6), .ref (aD w 7), .int (S.1 6 0)])),
  (aD w 2, .inl (cyZ w, 40, .inl (S.1 0))),
  (aD w 3, .inl (cyI w, 40, .inl (S.1 1))),
  (aD w 4, .inl (cyI w, 40, .inl (S.1 2))),
  (aD w 5, .inl (cyI w, 40, .inl (S.1 3))),
  (aD w 6, .inl (cyI w, 40, .inl (S.1 4))),
  (aD w 7, .inl (cyI w, 40, .inl (S.1 5))),
  (aD w 8, .inr (0, [.ref (aD w 1), .ref (aD w 9), .int (S.1 8 0), .ref (aD w 10), .int (S.1 9 0)])),
  (aD w 9, .inl (cyI w, 1365, .inl (S.1 7))),
  (aD w 10, .inl (cyJ w, 25, .inr (.inl (S.2 0)))),
  (aD w 11, .inr (3, [.ref (aD w 12)])),
  (aD w 12, .inl (cyJ w, 25, .inr (.inl (S.2 1)))),
  (aD w 13, .inr (4, [.ref (aD w 11), .ref (aD w 14)])),
  (aD w 14, .inr (3, [.ref (aD w 15)])),
  (aD w 15, .inl (cyJ w, 25, .inr (.inl (S.2 2)))),
  (aD w 16, .inr (5, [.ref (aD w 1), .ref (aD w 8), .ref (aD w 17), .ref (aD w 18), .ref (aD w 19), .int (S.1 13 0), .int (S.1 14 0), .int (S.1 15 0), .int (S.1 16 0)])),
  (aD w 17, .inl (cyI w, 40, .inl (S.1 10))),
  (aD w 18, .inl (cyI w, 40, .inl (S.1 11))),
  (aD w 19, .inl (cyI w, 40, .inl (S.1 12))),
  (aD w 20, .inr (1, [.ref (aD w 1), .ref (aD w 8), .ref (aD w 13), .ref (aD w 21), .ref (aD w 22), .int (S.1 19 0)])),
  (aD w 21, .inl (cyI w, 40, .inl (S.1 17))),
  (aD w 22, .inl (cyI w, 40, .inl (S.1 18))),
  (aD w 23, .inr (7, [.ref (aD w 24), .ref (aD w 25), .ref (aD w 26), .ref (aD w 27), .ref (aD w 28), .ref (aD w 29), .ref (aD w 30), .int (S.1 27 0), .int (S.1 28 0), .ref (aD w 31), .ref (aD w 32), .ref (aD w 33), .ref (aD w 34), .ref (aD w 35), .ref (aD w 36), .int (S.1 35 0), .long (S.2 3 0), .long (S.2 4 0), .ref (aD w 37), .ref (aD w 38)])),
  (aD w 24, .inl (cyZ w, 40, .inl (S.1 20))),
  (aD w 25, .inl (cyI w, 40, .inl (S.1 21))),
  (aD w 26, .inl (cyI w, 40, .inl (S.1 22))),
  (aD w 27, .inl (cyI w, 40, .inl (S.1 23))),
  (aD w 28, .inl (cyI w, 40, .inl (S.1 24))),
  (aD w 29, .inl (cyI w, 40, .inl (S.1 25))),
  (aD w 30, .inl (cyI w, 25, .inl (S.1 26))),
  (aD w 31, .inl (cyI w, 40, .inl (S.1 29))),
  (aD w 32, .inl (cyI w, 40, .inl (S.1 30))),
  (aD w 33, .inl (cyI w, 40, .inl (S.1 31))),
  (aD w 34, .inl (cyI w, 80, .inl (S.1 32))),
  (aD w 35, .inl (cyI w, 80, .inl (S.1 33))),
  (aD w 36, .inl (cyI w, 80, .inl (S.1 34))),
  (aD w 37, .inl (cyI w, 40, .inl (S.1 36))),
  (aD w 38, .inl (cyI w, 40, .inl (S.1 37)))]
theorem pl_0 (w : Fx) (S : St) : (wS w S)[0]? = some (aD w 0, .inr (6, [.ref (aD w 1), .ref (aD w 8), .ref (aD w 11), .ref (aD w 13), .ref (aD w 16), .ref (aD w 20)])) := rfl
theorem pl_1 (w : Fx) (S : St) : (wS w S)[1]? = some (aD w 1, .inr (2, [.ref (aD w 2), .ref (aD w 3), .ref (aD w 4), .ref (aD w 5), .ref (aD w 6), .ref (aD w 7), .int (S.1 6 0)])) := rfl
theorem pl_2 (w : Fx) (S : St) : (wS w S)[2]? = some (aD w 2, .inl (cyZ w, 40, .inl (S.1 0))) := rfl
theorem pl_3 (w : Fx) (S : St) : (wS w S)[3]? = some (aD w 3, .inl (cyI w, 40, .inl (S.1 1))) := rfl
theorem pl_4 (w : Fx) (S : St) : (wS w S)[4]? = some (aD w 4, .inl (cyI w, 40, .inl (S.1 2))) := rfl
theorem pl_5 (w : Fx) (S : St) : (wS w S)[5]? = some (aD w 5, .inl (cyI w, 40, .inl (S.1 3))) := rfl
theorem pl_6 (w : Fx) (S : St) : (wS w S)[6]? = some (aD w 6, .inl (cyI w, 40, .inl (S.1 4))) := rfl
theorem pl_7 (w : Fx) (S : St) : (wS w S)[7]? = some (aD w 7, .inl (cyI w, 40, .inl (S.1 5))) := rfl
theorem pl_8 (w : Fx) (S : St) : (wS w S)[8]? = some (aD w 8, .inr (0, [.ref (aD w 1), .ref (aD w 9), .int (S.1 8 0), .ref (aD w 10), .int (S.1 9 0)])) := rfl
theorem pl_9 (w : Fx) (S : St) : (wS w S)[9]? = some (aD w 9, .inl (cyI w, 1365, .inl (S.1 7))) := rfl
theorem pl_10 (w : Fx) (S : St) : (wS w S)[10]? = some (aD w 10, .inl (cyJ w, 25, .inr (.inl (S.2 0)))) := rfl
theorem pl_11 (w : Fx) (S : St) : (wS w S)[11]? = some (aD w 11, .inr (3, [.ref (aD w 12)])) := rfl
theorem pl_12 (w : Fx) (S : St) : (wS w S)[12]? = some (aD w 12, .inl (cyJ w, 25, .inr (.inl (S.2 1)))) := rfl
theorem pl_13 (w : Fx) (S : St) : (wS w S)[13]? = some (aD w 13, .inr (4, [.ref (aD w 11), .ref (aD w 14)])) := rfl
theorem pl_14 (w : Fx) (S : St) : (wS w S)[14]? = some (aD w 14, .inr (3, [.ref (aD w 15)])) := rfl
theorem pl_15 (w : Fx) (S : St) : (wS w S)[15]? = some (aD w 15, .inl (cyJ w, 25, .inr (.inl (S.2 2)))) := rfl
theorem pl_16 (w : Fx) (S : St) : (wS w S)[16]? = some (aD w 16, .inr (5, [.ref (aD w 1), .ref (aD w 8), .ref (aD w 17), .ref (aD w 18), .ref (aD w 19), .int (S.1 13 0), .int (S.1 14 0), .int (S.1 15 0), .int (S.1 16 0)])) := rfl
theorem pl_17 (w : Fx) (S : St) : (wS w S)[17]? = some (aD w 17, .inl (cyI w, 40, .inl (S.1 10))) := rfl
theorem pl_18 (w : Fx) (S : St) : (wS w S)[18]? = some (aD w 18, .inl (cyI w, 40, .inl (S.1 11))) := rfl
theorem pl_19 (w : Fx) (S : St) : (wS w S)[19]? = some (aD w 19, .inl (cyI w, 40, .inl (S.1 12))) := rfl
theorem pl_20 (w : Fx) (S : St) : (wS w S)[20]? = some (aD w 20, .inr (1, [.ref (aD w 1), .ref (aD w 8), .ref (aD w 13), .ref (aD w 21), .ref (aD w 22), .int (S.1 19 0)])) := rfl
theorem pl_21 (w : Fx) (S : St) : (wS w S)[21]? = some (aD w 21, .inl (cyI w, 40, .inl (S.1 17))) := rfl
theorem pl_22 (w : Fx) (S : St) : (wS w S)[22]? = some (aD w 22, .inl (cyI w, 40, .inl (S.1 18))) := rfl
theorem pl_23 (w : Fx) (S : St) : (wS w S)[23]? = some (aD w 23, .inr (7, [.ref (aD w 24), .ref (aD w 25), .ref (aD w 26), .ref (aD w 27), .ref (aD w 28), .ref (aD w 29), .ref (aD w 30), .int (S.1 27 0), .int (S.1 28 0), .ref (aD w 31), .ref (aD w 32), .ref (aD w 33), .ref (aD w 34), .ref (aD w 35), .ref (aD w 36), .int (S.1 35 0), .long (S.2 3 0), .long (S.2 4 0), .ref (aD w 37), .ref (aD w 38)])) := rfl
theorem pl_24 (w : Fx) (S : St) : (wS w S)[24]? = some (aD w 24, .inl (cyZ w, 40, .inl (S.1 20))) := rfl
theorem pl_25 (w : Fx) (S : St) : (wS w S)[25]? = some (aD w 25, .inl (cyI w, 40, .inl (S.1 21))) := rfl
theorem pl_26 (w : Fx) (S : St) : (wS w S)[26]? = some (aD w 26, .inl (cyI w, 40, .inl (S.1 22))) := rfl
theorem pl_27 (w : Fx) (S : St) : (wS w S)[27]? = some (aD w 27, .inl (cyI w, 40, .inl (S.1 23))) := rfl
theorem pl_28 (w : Fx) (S : St) : (wS w S)[28]? = some (aD w 28, .inl (cyI w, 40, .inl (S.1 24))) := rfl
theorem pl_29 (w : Fx) (S : St) : (wS w S)[29]? = some (aD w 29, .inl (cyI w, 40, .inl (S.1 25))) := rfl
theorem pl_30 (w : Fx) (S : St) : (wS w S)[30]? = some (aD w 30, .inl (cyI w, 25, .inl (S.1 26))) := rfl
theorem pl_31 (w : Fx) (S : St) : (wS w S)[31]? = some (aD w 31, .inl (cyI w, 40, .inl (S.1 29))) := rfl
theorem pl_32 (w : Fx) (S : St) : (wS w S)[32]? = some (aD w 32, .inl (cyI w, 40, .inl (S.1 30))) := rfl
theorem pl_33 (w : Fx) (S : St) : (wS w S)[33]? = some (aD w 33, .inl (cyI w, 40, .inl (S.1 31))) := rfl
theorem pl_34 (w : Fx) (S : St) : (wS w S)[34]? = some (aD w 34, .inl (cyI w, 80, .inl (S.1 32))) := rfl
theorem pl_35 (w : Fx) (S : St) : (wS w S)[35]? = some (aD w 35, .inl (cyI w, 80, .inl (S.1 33))) := rfl
theorem pl_36 (w : Fx) (S : St) : (wS w S)[36]? = some (aD w 36, .inl (cyI w, 80, .inl (S.1 34))) := rfl
theorem pl_37 (w : Fx) (S : St) : (wS w S)[37]? = some (aD w 37, .inl (cyI w, 40, .inl (S.1 36))) := rfl
theorem pl_38 (w : Fx) (S : St) : (wS w S)[38]? = some (aD w 38, .inl (cyI w, 40, .inl (S.1 37))) := rfl
def isNest : Cond → Bool
  | .fieldLinkNest .. => true
  | .methodLinkNest .. => true
  | _ => false
/-- the words that hold all along; the words across the nest -/
def tb : List Cond := lw_tbl.filter goodWord
def nw : List Cond := lw_tbl.filter isNest
def tabF (j : Nat) : Int32 := ([0, 1, 5, 21, 85, 341] : List Int32).getD j 0
def tabC (j : Nat) : Int32 := ([1, 0, 0, 0, 0, 1, 1, 0, 0, 0, 1, 2, 1, 0, 0, 1, 3, 3, 1, 0, 1, 4, 6, 4, 1] : List Int32).getD j 0
def Bs (w : Fx) (U : State) : Prop := va_K w.1 vwCl (fty w) U ∧ (∀ c ∈ nw, va_Nw c U) ∧ (va_Z "FarSums" "FIRST_OF_LEVEL" "[I" (.ref (fT1 w)) (fA w) U U.heap ∧ va_T .int (fT1 w) 6 (fun j => .int (tabF j)) (fA w) U U.heap) ∧ (va_Z "FarSums" "CHOOSE" "[I" (.ref (fT2 w)) (fA w) U U.heap ∧ va_T .int (fT2 w) 25 (fun j => .int (tabC j)) (fA w) U U.heap) ∧ ∀ S, va_D (fA w) (wS w S)
theorem nw_warm {s U : State} (hW : s.WarmedH U.vm) (h : ∀ c ∈ nw, va_Nw c s) : ∀ c ∈ nw, va_Nw c U := by
  intro c hc
  have h1 := (List.mem_filter.mp hc).2
  have h2 := h c hc
  cases c <;> first | exact va_Nw.warmF hW h2 | exact va_Nw.warmM hW h2 | (simp [isNest] at h1; done)
theorem nw_same {s U : State} (hv : s.vm = U.vm) (h : ∀ c ∈ nw, va_Nw c s) : ∀ c ∈ nw, va_Nw c U := by
  intro c hc
  have h1 := (List.mem_filter.mp hc).2
  have h2 := h c hc
  cases c <;> first | exact va_Nw.same rfl hv h2 | (simp [isNest] at h1; done)
theorem Bs_move {w : Fx} {s U : State} {H : Heap} {locs : List Loc} (hS : va_S (fA w) s.heap H locs) (hU : U.heap = H) (hW : s.WarmedH U.vm) (h : Bs w s) : Bs w U := by
  obtain ⟨h1, h2, ⟨h3, h4⟩, ⟨h5, h6⟩, h7⟩ := h
  have hk : ∀ a : Nat, a < s.heap.size → ¬ fA w a → U.heap[a]? = s.heap[a]? := fun a q1 q2 => by rw [hU]; exact hS.2.1 a q1 q2
  exact ⟨va_K.moved hW.alike h1, nw_warm hW h2, ⟨(va_Z.moved hW.alike h3).kept hk, (va_T.moved hW.alike h4).kept hk⟩, ⟨(va_Z.moved hW.alike h5).kept hk, (va_T.moved hW.alike h6).kept hk⟩, h7⟩
theorem Bs_calling {w : Fx} {U : State} {g : JFrame} {mk : MethodId} {a : Array Value} (h : Bs w U) : Bs w (U.calling g mk a) := by
  obtain ⟨h1, h2, ⟨h3, h4⟩, ⟨h5, h6⟩, h7⟩ := h
  exact ⟨va_K.moved (u := U) (U := U.calling g mk a) (Vm.Alike.refl U.vm) h1, nw_same (s := U) (U := U.calling g mk a) rfl h2, ⟨va_Z.moved (u := U) (U := U.calling g mk a) (Vm.Alike.refl U.vm) h3, va_T.moved (u := U) (U := U.calling g mk a) (Vm.Alike.refl U.vm) h4⟩, ⟨va_Z.moved (u := U) (U := U.calling g mk a) (Vm.Alike.refl U.vm) h5, va_T.moved (u := U) (U := U.calling g mk a) (Vm.Alike.refl U.vm) h6⟩, h7⟩
/-! locals by position, .null: not known -/
def hL (ls : Array Slot) (n : Nat) (lv : List Value) : Prop := (ls.size = n ∧ lv.length ≤ n) ∧ lv_wf ls ∧ ∀ (i : Nat) (v : Value), lv[i]? = some v → v ≠ .null → ls[i]? = some (.val v)
def hLp (lv : List Value) (n : Nat) : List (Nat × Value) := (List.range n).filterMap (fun i => match (lv[i]? : Option Value) with
  | some Value.null => none
  | some v => some (i, v)
  | none => none)
theorem hLp_mem {lv : List Value} {n i : Nat} {v : Value} : (i, v) ∈ hLp lv n ↔ i < n ∧ lv[i]? = some v ∧ v ≠ .null := by
  unfold hLp
  rw [List.mem_filterMap]
  constructor
  · rintro ⟨a, ha, hb⟩
    have ha := List.mem_range.mp ha
    cases hc : lv[a]? with
    | none => rw [hc] at hb; cases hb
    | some u =>
      rw [hc] at hb
      cases u <;> first | (cases hb; done) | (cases hb; exact ⟨ha, hc, fun q => by cases q⟩)
  · rintro ⟨h1, h2, h3⟩
    refine ⟨i, List.mem_range.mpr h1, ?_⟩
    rw [h2]
    cases v <;> first | rfl | exact absurd rfl h3
theorem hL_has {ls : Array Slot} {n : Nat} {lv : List Value} (h : hL ls n lv) : lv_has ls n (hLp lv n) := by
  refine ⟨h.1.1, h.2.1, ?_⟩
  rintro ⟨i, v⟩ hq
  obtain ⟨-, h2, h3⟩ := hLp_mem.mp hq
  exact h.2.2 i v h2 h3
theorem hL_at {ls : Array Slot} {n : Nat} {lv : List Value} (h : hL ls n lv) {i : Nat} {v : Value} (hi : lv[i]? = some v) (hv : v ≠ .null) : ls[i]? = some (.val v) := h.2.2 i v hi hv
def kilA (lv : List Value) (j : Nat) : List Value := match (lv[j]? : Option Value) with
  | some (Value.long _) => lv.set j Value.null
  | some (Value.double _) => lv.set j Value.null
  | _ => lv
def kil (lv : List Value) : Nat → List Value
  | 0 => lv
  | j + 1 => kilA lv j
def zp1 (lv : List Value) (i : Nat) (v : Value) : List Value := (kil lv i).set i v
def zp2 (lv : List Value) (i : Nat) (v : Value) : List Value := ((kil lv i).set i v).set (i + 1) .null
theorem kil_mem {lv : List Value} {i j : Nat} {w : Value} (h : (kil lv i)[j]? = some w) (hn : w ≠ .null) : lv[j]? = some w ∧ ¬ (j + 1 = i ∧ w.category = 2) := by
  cases i with
  | zero => exact ⟨h, fun q => by omega⟩
  | succ k =>
    have h : (kilA lv k)[j]? = some w := h
    unfold kilA at h
    have key : ∀ u, lv[k]? = some u → u.category = 2 → (lv.set k .null)[j]? = some w → lv[j]? = some w ∧ ¬ (j + 1 = k + 1 ∧ w.category = 2) := by
      intro u hu hc hs
      by_cases hjk : j = k
      · subst hjk
        rw [List.getElem?_set] at hs
        simp only [if_true] at hs
        split at hs
        · cases hs; exact absurd rfl hn
        · cases hs
      · rw [List.getElem?_set_ne (Ne.symm hjk)] at hs
        exact ⟨hs, fun q => hjk (by omega)⟩
    have oth : lv[j]? = some w → (∀ u, lv[k]? = some u → u.category ≠ 2) → lv[j]? = some w ∧ ¬ (j + 1 = k + 1 ∧ w.category = 2) := by
      intro h1 h2
      refine ⟨h1, fun q => ?_⟩
      have : j = k := by omega
      subst this
      exact h2 w h1 q.2
    split at h
    · rename_i x hx
      exact key _ hx rfl h
    · rename_i x hx
      exact key _ hx rfl h
    · rename_i hx1 hx2
      refine oth h (fun u hu hc => ?_)
      cases u <;> first | exact hx1 _ hu | exact hx2 _ hu | (simp [Value.category] at hc; done)
theorem hL_lt {ls : Array Slot} {n : Nat} {lv : List Value} (h : hL ls n lv) {j : Nat} {w : Value} (hj : lv[j]? = some w) (hw : w ≠ .null) : j < n := by
  have := lv_lt (h.2.2 j w hj hw)
  rw [h.1.1] at this
  exact this
theorem kil_len (lv : List Value) (i : Nat) : (kil lv i).length = lv.length := by
  cases i with
  | zero => rfl
  | succ k =>
    show (kilA lv k).length = lv.length
    unfold kilA
    split <;> simp
theorem hL_set1 {ls ls' : Array Slot} {n : Nat} {lv : List Value} {i : Nat} {v : Value} (h : hL ls n lv) (h' : lv_has ls' n ((i, v) :: (hLp lv n).filter (fun q => !(q.1 == i) && !(q.1 + 1 == i && q.2.category == 2)))) : hL ls' n (zp1 lv i v) := by
  refine ⟨⟨h'.1, by unfold zp1; rw [List.length_set, kil_len]; exact h.1.2⟩, h'.2.1, fun j w hj hw => ?_⟩
  refine h'.2.2 (j, w) ?_
  unfold zp1 at hj
  by_cases hji : j = i
  · subst hji
    rw [List.getElem?_set] at hj
    simp only [if_true] at hj
    split at hj
    · cases hj; exact List.mem_cons_self
    · cases hj
  · rw [List.getElem?_set_ne (Ne.symm hji)] at hj
    obtain ⟨h1, h2⟩ := kil_mem hj hw
    refine List.mem_cons_of_mem _ (List.mem_filter.mpr ⟨hLp_mem.mpr ⟨hL_lt h h1 hw, h1, hw⟩, ?_⟩)
    simp only [Bool.and_eq_true, Bool.not_eq_true', beq_eq_false_iff_ne, Bool.and_eq_false_iff, beq_iff_eq]
    refine ⟨hji, ?_⟩
    by_cases q : j + 1 = i
    · exact Or.inr (fun z => h2 ⟨q, z⟩)
    · exact Or.inl q
theorem hL_set2 {ls ls' : Array Slot} {n : Nat} {lv : List Value} {i : Nat} {v : Value} (h : hL ls n lv) (h' : lv_has ls' n ((i, v) :: (hLp lv n).filter (fun q => !(q.1 == i) && (!(q.1 == i + 1) && !(q.1 + 1 == i && q.2.category == 2))))) : hL ls' n (zp2 lv i v) := by
  refine ⟨⟨h'.1, by unfold zp2; rw [List.length_set, List.length_set, kil_len]; exact h.1.2⟩, h'.2.1, fun j w hj hw => ?_⟩
  refine h'.2.2 (j, w) ?_
  unfold zp2 at hj
  by_cases hj1 : j = i + 1
  · subst hj1
    rw [List.getElem?_set] at hj
    simp only [if_true] at hj
    split at hj
    · cases hj; exact absurd rfl hw
    · cases hj
  · rw [List.getElem?_set_ne (Ne.symm hj1)] at hj
    by_cases hji : j = i
    · subst hji
      rw [List.getElem?_set] at hj
      simp only [if_true] at hj
      split at hj
      · cases hj; exact List.mem_cons_self
      · cases hj
    · rw [List.getElem?_set_ne (Ne.symm hji)] at hj
      obtain ⟨h1, h2⟩ := kil_mem hj hw
      refine List.mem_cons_of_mem _ (List.mem_filter.mpr ⟨hLp_mem.mpr ⟨hL_lt h h1 hw, h1, hw⟩, ?_⟩)
      simp only [Bool.and_eq_true, Bool.not_eq_true', beq_eq_false_iff_ne, Bool.and_eq_false_iff, beq_iff_eq]
      refine ⟨hji, hj1, ?_⟩
      by_cases q : j + 1 = i
      · exact Or.inr (fun z => h2 ⟨q, z⟩)
      · exact Or.inl q
/-- fewer known locals -/
def lle : List Value → List Value → Prop
  | [], _ => True
  | Value.null :: l, _ :: m => lle l m
  | v :: l, u :: m => v = u ∧ lle l m
  | _ :: _, [] => False
theorem lle_at : ∀ {l m : List Value}, lle l m → ∀ (i : Nat) (v : Value), l[i]? = some v → v ≠ .null → m[i]? = some v
  | [], _, _, i, v, h, _ => by simp at h
  | a :: l, [], hh, i, v, h, hn => by cases a <;> simp [lle] at hh
  | a :: l, u :: m, hh, i, v, h, hn => by
    cases i with
    | zero =>
      simp only [List.getElem?_cons_zero] at h ⊢
      have ea : a = v := by injection h
      rw [← ea] at hn ⊢
      cases a <;> first | exact absurd rfl hn | (simp only [lle] at hh; rw [hh.1])
    | succ i =>
      simp only [List.getElem?_cons_succ] at h ⊢
      refine lle_at (l := l) (m := m) ?_ i v h hn
      cases a <;> first | exact hh | exact hh.2
theorem lle_len : ∀ {l m : List Value}, lle l m → l.length ≤ m.length
  | [], _, _ => Nat.zero_le _
  | a :: l, [], hh => by cases a <;> simp [lle] at hh
  | a :: l, u :: m, hh => by
    have : lle l m := by cases a <;> first | exact hh | exact hh.2
    have := lle_len this
    simp only [List.length_cons]
    omega
theorem hL_weak {ls : Array Slot} {n : Nat} {lv lv' : List Value} (h : hL ls n lv) (hw : lle lv' lv) : hL ls n lv' := ⟨⟨h.1.1, Nat.le_trans (lle_len hw) h.1.2⟩, h.2.1, fun i v hi hv => h.2.2 i v (lle_at hw i v hi hv) hv⟩
def padL (n : Nat) (av : List Value) : List Value := let l := av.flatMap (fun v => if v.category = 2 then [v, .null] else [v]); l ++ List.replicate (n - l.length) .null
theorem lv_args_spec : ∀ (vs : List Value) (k i : Nat) (v : Value), (vs.flatMap (fun v => if v.category = 2 then [v, Value.null] else [v]))[i]? = some v → v ≠ .null → (k + i, v) ∈ lv_args k vs
  | [], k, i, v, h, _ => by simp at h
  | a :: vs, k, i, v, h, hn => by
    unfold lv_args
    rw [List.flatMap_cons] at h
    by_cases hc : a.category = 2
    · rw [if_pos hc] at h ⊢
      match i, h with
      | 0, h => simp at h; subst h; exact List.mem_cons_self
      | 1, h => simp at h; exact absurd h.symm hn
      | i + 2, h =>
        have := lv_args_spec vs (k + 2) i v (by simpa using h) hn
        refine List.mem_cons_of_mem _ ?_
        rw [show k + (i + 2) = k + 2 + i by omega]
        exact this
    · rw [if_neg hc] at h ⊢
      match i, h with
      | 0, h => simp at h; subst h; exact List.mem_cons_self
      | i + 1, h =>
        have := lv_args_spec vs (k + 1) i v (by simpa using h) hn
        refine List.mem_cons_of_mem _ ?_
        rw [show k + (i + 1) = k + 1 + i by omega]
        exact this
theorem padL_len (vs : List Value) {n : Nat} (h : (lg_sl vs).length ≤ n) : (padL n vs).length ≤ n := by
  have e : (lg_sl vs).length = (vs.flatMap (fun v => if v.category = 2 then [v, Value.null] else [v])).length := by
    unfold lg_sl
    rw [List.length_flatMap, List.length_flatMap]
    congr 1
    refine List.map_congr_left (fun v _ => ?_)
    by_cases hc : v.category = 2 <;> simp [hc]
  rw [e] at h
  unfold padL
  simp only [List.length_append, List.length_replicate]
  omega
theorem hL_entry (vs : List Value) {n : Nat} (h : (lg_sl vs).length ≤ n) : hL ((lg_sl vs ++ List.replicate (n - (lg_sl vs).length) Slot.unset).toArray) n (padL n vs) := by
  obtain ⟨h1, h2, h3⟩ := lv_entry vs h
  refine ⟨⟨h1, padL_len vs h⟩, h2, fun i v hi hv => ?_⟩
  unfold padL at hi
  dsimp only at hi
  rw [List.getElem?_append] at hi
  split at hi
  · have := lv_args_spec vs 0 i v hi hv
    rw [Nat.zero_add] at this
    exact h3 _ this
  · rw [List.getElem?_replicate] at hi
    split at hi
    · cases hi; exact absurd rfl hv
    · cases hi
/-! the frame of a walk -/
abbrev Fr : Type := Program × Launch × Env × Room × State × MethodId × Array Value × List Frame × Method × Code × (Nat × Nat) × (State → Prop) × Fx × Nat
def xp (X : Fr) := X.1
def xl (X : Fr) := X.2.1
def xe (X : Fr) := X.2.2.1
def xR (X : Fr) := X.2.2.2.1
def xs (X : Fr) := X.2.2.2.2.1
def xm (X : Fr) := X.2.2.2.2.2.1
def xa (X : Fr) := X.2.2.2.2.2.2.1
def xb (X : Fr) := X.2.2.2.2.2.2.2.1
def xme (X : Fr) := X.2.2.2.2.2.2.2.2.1
def xc (X : Fr) := X.2.2.2.2.2.2.2.2.2.1
def xk (X : Fr) := X.2.2.2.2.2.2.2.2.2.2.1
def xQ (X : Fr) := X.2.2.2.2.2.2.2.2.2.2.2.1
def xw (X : Fr) := X.2.2.2.2.2.2.2.2.2.2.2.2.1
def xn (X : Fr) := X.2.2.2.2.2.2.2.2.2.2.2.2.2
def Wx (X : Fr) (S : St) (pc : Nat) (lv st : List Value) : Prop := ∀ (H : Heap) (locs : List Loc) (ls : Array Slot), va_P (xw X).1 vwCl (wS (xw X) S) H → va_S (fA (xw X)) (xs X).heap H locs → hL ls (xn X) lv → W (xp X) (xl X) (xe X) (xR X) (xs X) (xm X) (xa X) (xb X) (xme X) (xc X) H locs (xk X).1 (xk X).2 (xQ X) (F0 (xm X) pc ls st)
def Ok (X : Fr) (cc : ByteArray) (own : String) (d : Nat) : Prop := (xp X).tables.exec = Jvm.exec ∧ (xc X).code = cc ∧ (xc X).maxLocals = xn X ∧ (xs X).vm.findClass own = some (xm X).cls ∧ (∀ w ∈ tb, w.before (xa X) (xs X) = true) ∧ (xme X).locks = false ∧ Bs (xw X) (xs X) ∧ (d ≤ (xR X).frames ∧ 40 * d ≤ (xR X).locals) ∧ (xk X).1 ≤ (xR X).cells ∧ (xk X).2 ≤ (xR X).slots
def QX (w : Fx) (post : Option Value → St → Prop) : Array Value → State → Outcome → State → Prop := fun _ st oc t => (∃ (v : Option Value) (S' : St), oc = .returned v ∧ post v S' ∧ va_P w.1 vwCl (wS w S') t.heap) ∧ va_F (fA w) st t
def Rt (X : Fr) (rt : Option FieldType) (post : Option Value → St → Prop) : Prop := (xme X).sig.returnType = rt ∧ xQ X = MQ (xb X) (QX (xw X) post) (xa X) (xs X) (xk X).1 (xk X).2 (fA (xw X))
abbrev rmD (d : Nat) : Room := { frames := d, cells := 0, slots := 0, locals := 40 * d }
/-- a method's contract over the one world: with these arguments and this state its end is as post says -/
def Ct (l : Launch) (y : MethodName) (cc : ByteArray) (mL : Nat) (rt : Option FieldType) (d : Nat) (w : Fx) (av : List Value) (S : St) (post : Option Value → St → Prop) : Prop := Met l y (.code y cc mL rt :: tb) (rmD d) (va_Pc av (fun U => va_P w.1 vwCl (wS w S) U.heap ∧ Bs w U)) (QX w post) 0 0 (fA w)
theorem Ct.of {l : Launch} {y : MethodName} {cc : ByteArray} {mL : Nat} {rt : Option FieldType} {d : Nat} {w : Fx} {av : List Value} {S : St} {post : Option Value → St → Prop} (hy : plainName y.cls = true) (hlen : (lg_sl av).length ≤ mL)
    (body : ∀ X : Fr, Ok X cc y.cls d → Rt X rt post → xl X = l → xw X = w → Wx X S 0 (padL mL av) []) : Ct l y cc mL rt d w av S post := by
  refine Met.ofW (cc := cc) (maxL := mL) (ret := rt) hy rfl ?_
  intro p e s m args below meth c s₁ B hml hv
  obtain ⟨rfl, hP, hB⟩ := hv
  have hts := atoms_spec (ws := .code y cc mL rt :: tb) B.pre
  rw [lg_entry_eq]
  exact body (p, l, e, rmD d, s, m, av.toArray, below, meth, c, (0, 0), MQ below (QX w post) av.toArray s 0 0 (fA w), w, mL) ⟨B.exec, B.bytes, hml, findClass_of_methodNamed B.named, fun q hq => hts q (List.mem_cons_of_mem _ hq), B.notSynchronized, hB, ⟨Nat.le_refl _, Nat.le_refl _⟩, Nat.le_refl _, Nat.le_refl _⟩ ⟨B.returns, rfl⟩ rfl rfl s.heap [] _ hP va_S.rf (hL_entry av hlen)
theorem Wx.weak {X : Fr} {S : St} {pc : Nat} {lv lv' st : List Value} (hw : lle lv' lv) (k : Wx X S pc lv' st) : Wx X S pc lv st := fun H locs ls hP hS hl => k H locs ls hP hS (hL_weak hl hw)
theorem tb_good : GoodIn tb tb := fun c hc => ⟨hc, good_of_word (List.mem_filter.mp hc).2⟩
theorem tb_mem {c : Cond} (h : c ∈ lw_tbl) (hg : goodWord c = true) : c ∈ tb := List.mem_filter.mpr ⟨h, hg⟩
theorem tb_at {c : Cond} (i : Nat) (h : tables_1[i]? = some c) (hg : goodWord c = true) : c ∈ tb := tb_mem (List.mem_append_right _ (List.mem_of_getElem? h)) hg
theorem nw_at {c : Cond} (i : Nat) (h : tables_1[i]? = some c) (hg : isNest c = true) : c ∈ nw := List.mem_filter.mpr ⟨List.mem_append_right _ (List.mem_of_getElem? h), hg⟩
end
section
section
variable {X : Fr} {cc : ByteArray} {own : String} {d : Nat} {S : St} {pc : Nat} {lv st : List Value}
theorem r_iconst {n : Int} (v : Int32) (h : Ok X cc own d) (dg : decode cc pc = .ok (.iconst n, 1)) (hv : Int32.ofInt n = v) (k : Wx X S (pc + 1) lv (.int v :: st)) : Wx X S pc lv (st) := fun H locs ls hP hS hl => lv_iconst h.1 h.2.1 dg hv (k H locs ls hP hS hl)
theorem r_bipush {n : Int} (v : Int32) (h : Ok X cc own d) (dg : decode cc pc = .ok (.bipush n, 2)) (hv : (Int8.ofInt n).toInt32 = v) (k : Wx X S (pc + 2) lv (.int v :: st)) : Wx X S pc lv (st) := fun H locs ls hP hS hl => lv_bipush h.1 h.2.1 dg hv (k H locs ls hP hS hl)
theorem r_sipush {n : Int} (v : Int32) (h : Ok X cc own d) (dg : decode cc pc = .ok (.sipush n, 3)) (hv : (Int16.ofInt n).toInt32 = v) (k : Wx X S (pc + 3) lv (.int v :: st)) : Wx X S pc lv (st) := fun H locs ls hP hS hl => lv_sipush h.1 h.2.1 dg hv (k H locs ls hP hS hl)
theorem r_lconst {n : Fin 2} (v : Int64) (h : Ok X cc own d) (dg : decode cc pc = .ok (.lconst n, 1)) (hv : Int64.ofNat (n : Nat) = v) (k : Wx X S (pc + 1) lv (.long v :: st)) : Wx X S pc lv (st) := fun H locs ls hP hS hl => lv_lconst h.1 h.2.1 dg hv (k H locs ls hP hS hl)
theorem r_iload_n {q : Fin 4} (i : Nat) {x : Int32} (h : Ok X cc own d) (dg : decode cc pc = .ok (.iload_n q, 1)) (hi : (q : Nat) = i) (hx : lv[i]? = some (.int x)) (k : Wx X S (pc + 1) lv (.int x :: st)) : Wx X S pc lv (st) := fun H locs ls hP hS hl => lv_iload_n h.1 h.2.1 dg hi (hL_at hl hx (fun z => by cases z)) (k H locs ls hP hS hl)
theorem r_iload {i : Nat} {x : Int32} (h : Ok X cc own d) (dg : decode cc pc = .ok (.iload i, 2)) (hx : lv[i]? = some (.int x)) (k : Wx X S (pc + 2) lv (.int x :: st)) : Wx X S pc lv (st) := fun H locs ls hP hS hl => lv_iload h.1 h.2.1 dg (hL_at hl hx (fun z => by cases z)) (k H locs ls hP hS hl)
theorem r_lload_n {q : Fin 4} (i : Nat) {x : Int64} (h : Ok X cc own d) (dg : decode cc pc = .ok (.lload_n q, 1)) (hi : (q : Nat) = i) (hx : lv[i]? = some (.long x)) (k : Wx X S (pc + 1) lv (.long x :: st)) : Wx X S pc lv (st) := fun H locs ls hP hS hl => lv_lload_n h.1 h.2.1 dg hi (hL_at hl hx (fun z => by cases z)) (k H locs ls hP hS hl)
theorem r_lload {i : Nat} {x : Int64} (h : Ok X cc own d) (dg : decode cc pc = .ok (.lload i, 2)) (hx : lv[i]? = some (.long x)) (k : Wx X S (pc + 2) lv (.long x :: st)) : Wx X S pc lv (st) := fun H locs ls hP hS hl => lv_lload h.1 h.2.1 dg (hL_at hl hx (fun z => by cases z)) (k H locs ls hP hS hl)
theorem r_aload_n {q : Fin 4} (i : Nat) {x : Nat} (h : Ok X cc own d) (dg : decode cc pc = .ok (.aload_n q, 1)) (hi : (q : Nat) = i) (hx : lv[i]? = some (.ref x)) (k : Wx X S (pc + 1) lv (.ref x :: st)) : Wx X S pc lv (st) := fun H locs ls hP hS hl => lv_aload_n h.1 h.2.1 dg hi (hL_at hl hx (fun z => by cases z)) (k H locs ls hP hS hl)
theorem r_aload {i : Nat} {x : Nat} (h : Ok X cc own d) (dg : decode cc pc = .ok (.aload i, 2)) (hx : lv[i]? = some (.ref x)) (k : Wx X S (pc + 2) lv (.ref x :: st)) : Wx X S pc lv (st) := fun H locs ls hP hS hl => lv_aload h.1 h.2.1 dg (hL_at hl hx (fun z => by cases z)) (k H locs ls hP hS hl)
theorem r_istore_n {q : Fin 4} (i : Nat) {x : Int32} (h : Ok X cc own d) (dg : decode cc pc = .ok (.istore_n q, 1)) (hi : (q : Nat) = i) (hn : i < lv.length) (k : Wx X S (pc + 1) (zp1 lv i (.int x)) st) : Wx X S pc lv (.int x :: st) := fun H locs ls hP hS hl => lv_istore_n h.1 h.2.1 dg hi (hL_has hl) (Nat.lt_of_lt_of_le hn hl.1.2) rfl (fun ls' hl' => k H locs ls' hP hS (hL_set1 hl hl'))
theorem r_istore {i : Nat} {x : Int32} (h : Ok X cc own d) (dg : decode cc pc = .ok (.istore i, 2)) (hn : i < lv.length) (k : Wx X S (pc + 2) (zp1 lv i (.int x)) st) : Wx X S pc lv (.int x :: st) := fun H locs ls hP hS hl => lv_istore h.1 h.2.1 dg (hL_has hl) (Nat.lt_of_lt_of_le hn hl.1.2) rfl (fun ls' hl' => k H locs ls' hP hS (hL_set1 hl hl'))
theorem r_lstore_n {q : Fin 4} (i : Nat) {x : Int64} (h : Ok X cc own d) (dg : decode cc pc = .ok (.lstore_n q, 1)) (hi : (q : Nat) = i) (hn : i + 1 < lv.length) (k : Wx X S (pc + 1) (zp2 lv i (.long x)) st) : Wx X S pc lv (.long x :: st) := fun H locs ls hP hS hl => lv_lstore_n h.1 h.2.1 dg hi (hL_has hl) (Nat.lt_of_lt_of_le hn hl.1.2) rfl (fun ls' hl' => k H locs ls' hP hS (hL_set2 hl hl'))
theorem r_lstore {i : Nat} {x : Int64} (h : Ok X cc own d) (dg : decode cc pc = .ok (.lstore i, 2)) (hn : i + 1 < lv.length) (k : Wx X S (pc + 2) (zp2 lv i (.long x)) st) : Wx X S pc lv (.long x :: st) := fun H locs ls hP hS hl => lv_lstore h.1 h.2.1 dg (hL_has hl) (Nat.lt_of_lt_of_le hn hl.1.2) rfl (fun ls' hl' => k H locs ls' hP hS (hL_set2 hl hl'))
theorem hL_pair {ls : Array Slot} {n : Nat} {lv : List Value} (h : hL ls n lv) {i : Nat} {v : Value} (hi : lv[i]? = some v) (hv : v ≠ .null) : ∃ k : Nat, (hLp lv n)[k]? = some (i, v) := List.getElem?_of_mem (hLp_mem.mpr ⟨hL_lt h hi hv, hi, hv⟩)
theorem r_iinc {i : Nat} {n : Int} {x : Int32} (c : Int32) (h : Ok X cc own d) (dg : decode cc pc = .ok (.iinc i n, 3)) (hc : Int32.ofInt n = c) (hx : lv[i]? = some (.int x)) (k : Wx X S (pc + 3) (zp1 lv i (.int (x + c))) st) : Wx X S pc lv st := by
  intro H locs ls hP hS hl
  have hnn : Value.int x ≠ .null := fun z => by cases z
  obtain ⟨kk, hkk⟩ := hL_pair hl hx hnn
  exact lv_iinc h.1 h.2.1 dg (hL_has hl) hkk (by rw [hc]) (hL_lt hl hx hnn) rfl (fun ls' hl' => k H locs ls' hP hS (hL_set1 hl hl'))
/-- a counter that is a natural -/
theorem r_iincN {i : Nat} {a : Nat} (h : Ok X cc own d) (dg : decode cc pc = .ok (.iinc i 1, 3)) (hx : lv[i]? = some (.int (nI a))) (k : Wx X S (pc + 3) (zp1 lv i (.int (nI (a + 1)))) st) : Wx X S pc lv st := by
  refine r_iinc 1 h dg (by decide) hx ?_
  rw [nI_1]
  exact k
theorem r_iadd {x y : Int32} (h : Ok X cc own d) (dg : decode cc pc = .ok (.iadd, 1)) (k : Wx X S (pc + 1) lv (.int (x + y) :: st)) : Wx X S pc lv (.int y :: .int x :: st) := fun H locs ls hP hS hl => lv_iadd h.1 h.2.1 dg (k H locs ls hP hS hl)
theorem r_isub {x y : Int32} (h : Ok X cc own d) (dg : decode cc pc = .ok (.isub, 1)) (k : Wx X S (pc + 1) lv (.int (x - y) :: st)) : Wx X S pc lv (.int y :: .int x :: st) := fun H locs ls hP hS hl => lv_isub h.1 h.2.1 dg (k H locs ls hP hS hl)
theorem r_imul {x y : Int32} (h : Ok X cc own d) (dg : decode cc pc = .ok (.imul, 1)) (k : Wx X S (pc + 1) lv (.int (x * y) :: st)) : Wx X S pc lv (.int y :: .int x :: st) := fun H locs ls hP hS hl => lv_imul h.1 h.2.1 dg (k H locs ls hP hS hl)
theorem r_iand {x y : Int32} (h : Ok X cc own d) (dg : decode cc pc = .ok (.iand, 1)) (k : Wx X S (pc + 1) lv (.int (x &&& y) :: st)) : Wx X S pc lv (.int y :: .int x :: st) := fun H locs ls hP hS hl => lv_iand h.1 h.2.1 dg (k H locs ls hP hS hl)
theorem r_ior {x y : Int32} (h : Ok X cc own d) (dg : decode cc pc = .ok (.ior, 1)) (k : Wx X S (pc + 1) lv (.int (x ||| y) :: st)) : Wx X S pc lv (.int y :: .int x :: st) := fun H locs ls hP hS hl => lv_ior h.1 h.2.1 dg (k H locs ls hP hS hl)
theorem r_ishl {x y : Int32} (h : Ok X cc own d) (dg : decode cc pc = .ok (.ishl, 1)) (k : Wx X S (pc + 1) lv (.int (x <<< (y &&& 31)) :: st)) : Wx X S pc lv (.int y :: .int x :: st) := fun H locs ls hP hS hl => lv_ishl h.1 h.2.1 dg (k H locs ls hP hS hl)
theorem r_ishr {x y : Int32} (h : Ok X cc own d) (dg : decode cc pc = .ok (.ishr, 1)) (k : Wx X S (pc + 1) lv (.int (x >>> (y &&& 31)) :: st)) : Wx X S pc lv (.int y :: .int x :: st) := fun H locs ls hP hS hl => lv_ishr h.1 h.2.1 dg (k H locs ls hP hS hl)
theorem r_idiv {x y : Int32} (h : Ok X cc own d) (dg : decode cc pc = .ok (.idiv, 1)) (hne : ¬ y = 0) (k : Wx X S (pc + 1) lv (.int (x / y) :: st)) : Wx X S pc lv (.int y :: .int x :: st) := fun H locs ls hP hS hl => lv_idiv h.1 h.2.1 dg hne (k H locs ls hP hS hl)
theorem r_irem {x y : Int32} (h : Ok X cc own d) (dg : decode cc pc = .ok (.irem, 1)) (hne : ¬ y = 0) (k : Wx X S (pc + 1) lv (.int (x - x / y * y) :: st)) : Wx X S pc lv (.int y :: .int x :: st) := fun H locs ls hP hS hl => lv_irem h.1 h.2.1 dg hne (k H locs ls hP hS hl)
theorem r_ineg {x : Int32} (h : Ok X cc own d) (dg : decode cc pc = .ok (.ineg, 1)) (k : Wx X S (pc + 1) lv (.int (-x) :: st)) : Wx X S pc lv (.int x :: st) := fun H locs ls hP hS hl => lv_ineg h.1 h.2.1 dg (k H locs ls hP hS hl)
theorem r_ladd {x y : Int64} (h : Ok X cc own d) (dg : decode cc pc = .ok (.ladd, 1)) (k : Wx X S (pc + 1) lv (.long (x + y) :: st)) : Wx X S pc lv (.long y :: .long x :: st) := fun H locs ls hP hS hl => lv_ladd h.1 h.2.1 dg (k H locs ls hP hS hl)
theorem r_lsub {x y : Int64} (h : Ok X cc own d) (dg : decode cc pc = .ok (.lsub, 1)) (k : Wx X S (pc + 1) lv (.long (x - y) :: st)) : Wx X S pc lv (.long y :: .long x :: st) := fun H locs ls hP hS hl => lv_lsub h.1 h.2.1 dg (k H locs ls hP hS hl)
theorem r_lmul {x y : Int64} (h : Ok X cc own d) (dg : decode cc pc = .ok (.lmul, 1)) (k : Wx X S (pc + 1) lv (.long (x * y) :: st)) : Wx X S pc lv (.long y :: .long x :: st) := fun H locs ls hP hS hl => lv_lmul h.1 h.2.1 dg (k H locs ls hP hS hl)
theorem r_land {x y : Int64} (h : Ok X cc own d) (dg : decode cc pc = .ok (.land, 1)) (k : Wx X S (pc + 1) lv (.long (x &&& y) :: st)) : Wx X S pc lv (.long y :: .long x :: st) := fun H locs ls hP hS hl => lv_land h.1 h.2.1 dg (k H locs ls hP hS hl)
theorem r_lor {x y : Int64} (h : Ok X cc own d) (dg : decode cc pc = .ok (.lor, 1)) (k : Wx X S (pc + 1) lv (.long (x ||| y) :: st)) : Wx X S pc lv (.long y :: .long x :: st) := fun H locs ls hP hS hl => lv_lor h.1 h.2.1 dg (k H locs ls hP hS hl)
theorem r_ldiv {x y : Int64} (h : Ok X cc own d) (dg : decode cc pc = .ok (.ldiv, 1)) (hne : ¬ y = 0) (k : Wx X S (pc + 1) lv (.long (x / y) :: st)) : Wx X S pc lv (.long y :: .long x :: st) := fun H locs ls hP hS hl => lv_ldiv h.1 h.2.1 dg hne (k H locs ls hP hS hl)
theorem r_lneg {x : Int64} (h : Ok X cc own d) (dg : decode cc pc = .ok (.lneg, 1)) (k : Wx X S (pc + 1) lv (.long (-x) :: st)) : Wx X S pc lv (.long x :: st) := fun H locs ls hP hS hl => lv_lneg h.1 h.2.1 dg (k H locs ls hP hS hl)
theorem r_lshl {x : Int64} {y : Int32} (h : Ok X cc own d) (dg : decode cc pc = .ok (.lshl, 1))  (k : Wx X S (pc + 1) lv (.long (x <<< (y.toInt64 &&& 63)) :: st)) : Wx X S pc lv (.int y :: .long x :: st) := fun H locs ls hP hS hl => lv_lshl h.1 h.2.1 dg rfl (k H locs ls hP hS hl)
theorem r_lshr {x : Int64} {y : Int32} (h : Ok X cc own d) (dg : decode cc pc = .ok (.lshr, 1))  (k : Wx X S (pc + 1) lv (.long (x >>> (y.toInt64 &&& 63)) :: st)) : Wx X S pc lv (.int y :: .long x :: st) := fun H locs ls hP hS hl => lv_lshr h.1 h.2.1 dg rfl (k H locs ls hP hS hl)
theorem r_i2l {x : Int32} (h : Ok X cc own d) (dg : decode cc pc = .ok (.i2l, 1))  (k : Wx X S (pc + 1) lv (.long x.toInt64 :: st)) : Wx X S pc lv (.int x :: st) := fun H locs ls hP hS hl => lv_i2l h.1 h.2.1 dg rfl (k H locs ls hP hS hl)
theorem r_l2i {x : Int64} (h : Ok X cc own d) (dg : decode cc pc = .ok (.l2i, 1))  (k : Wx X S (pc + 1) lv (.int x.toInt32 :: st)) : Wx X S pc lv (.long x :: st) := fun H locs ls hP hS hl => lv_l2i h.1 h.2.1 dg rfl (k H locs ls hP hS hl)
theorem r_dup {a : Value} (h : Ok X cc own d) (dg : decode cc pc = .ok (.dup, 1)) (ha : a.category = 1) (k : Wx X S (pc + 1) lv (a :: a :: st)) : Wx X S pc lv (a :: st) := fun H locs ls hP hS hl => lv_dup h.1 h.2.1 dg ha (k H locs ls hP hS hl)
theorem r_pop {a : Value} (h : Ok X cc own d) (dg : decode cc pc = .ok (.pop, 1)) (ha : a.category = 1) (k : Wx X S (pc + 1) lv (st)) : Wx X S pc lv (a :: st) := fun H locs ls hP hS hl => lv_pop h.1 h.2.1 dg ha (k H locs ls hP hS hl)
theorem r_dup2 {a b : Value} (h : Ok X cc own d) (dg : decode cc pc = .ok (.dup2, 1)) (ha : a.category = 1) (hb : b.category = 1) (k : Wx X S (pc + 1) lv (a :: b :: a :: b :: st)) : Wx X S pc lv (a :: b :: st) := fun H locs ls hP hS hl => lv_dup2_11 h.1 h.2.1 dg ha hb (k H locs ls hP hS hl)
theorem r_topi {x : Int32} (k : ∀ y : Int32, y = x → Wx X S pc lv (.int y :: st)) : Wx X S pc lv (.int x :: st) := k x rfl
theorem r_topl {x : Int64} (k : ∀ y : Int64, y = x → Wx X S pc lv (.long y :: st)) : Wx X S pc lv (.long x :: st) := k x rfl
theorem r_ldc2 {index : Nat} {v : Int64} (h : Ok X cc own d) (hc : Cond.constantLong own index v ∈ tb) (dg : decode cc pc = .ok (.ldc2_w index, 3)) (k : Wx X S (pc + 3) lv (.long v :: st)) : Wx X S pc lv st := fun H locs ls hP hS hl => lv_ldc2 h.1 h.2.1 h.2.2.2.1 (h.2.2.2.2.1 _ hc) dg (k H locs ls hP hS hl)
theorem r_goto (tgt : Nat) {off : Int} (h : Ok X cc own d) (dg : decode cc pc = .ok (.goto off, 3)) (ht : (pc : Int) + off = (tgt : Int)) (k : Wx X S tgt lv st) : Wx X S pc lv st := fun H locs ls hP hS hl => lv_goto h.1 h.2.1 dg ht (k H locs ls hP hS hl)
theorem r_if_eq (tgt : Nat) {x : Int32} {off : Int} (h : Ok X cc own d) (dg : decode cc pc = .ok (.ifCond .eq off, 3)) (ht : (pc : Int) + off = (tgt : Int)) (kt : x = 0 → Wx X S tgt lv st) (kf : ¬ x = 0 → Wx X S (pc + 3) lv st) : Wx X S pc lv (.int x :: st) := fun H locs ls hP hS hl => lv_if_eq h.1 h.2.1 dg ht (fun q => kt q H locs ls hP hS hl) (fun q => kf q H locs ls hP hS hl)
theorem r_if_eq_t (tgt : Nat) {x : Int32} {off : Int} (h : Ok X cc own d) (dg : decode cc pc = .ok (.ifCond .eq off, 3)) (ht : (pc : Int) + off = (tgt : Int)) (q : x = 0) (k : Wx X S tgt lv st) : Wx X S pc lv (.int x :: st) := r_if_eq tgt h dg ht (fun _ => k) (fun z => absurd q z)
theorem r_if_eq_f (tgt : Nat) {x : Int32} {off : Int} (h : Ok X cc own d) (dg : decode cc pc = .ok (.ifCond .eq off, 3)) (ht : (pc : Int) + off = (tgt : Int)) (q : ¬ x = 0) (k : Wx X S (pc + 3) lv st) : Wx X S pc lv (.int x :: st) := r_if_eq tgt h dg ht (fun z => absurd z q) (fun _ => k)
theorem r_icmp_eq (tgt : Nat) {x y : Int32} {off : Int} (h : Ok X cc own d) (dg : decode cc pc = .ok (.if_icmp .eq off, 3)) (ht : (pc : Int) + off = (tgt : Int)) (kt : x = y → Wx X S tgt lv st) (kf : ¬ x = y → Wx X S (pc + 3) lv st) : Wx X S pc lv (.int y :: .int x :: st) := fun H locs ls hP hS hl => lv_icmp_eq h.1 h.2.1 dg ht (fun q => kt q H locs ls hP hS hl) (fun q => kf q H locs ls hP hS hl)
theorem r_icmp_eq_t (tgt : Nat) {x y : Int32} {off : Int} (h : Ok X cc own d) (dg : decode cc pc = .ok (.if_icmp .eq off, 3)) (ht : (pc : Int) + off = (tgt : Int)) (q : x = y) (k : Wx X S tgt lv st) : Wx X S pc lv (.int y :: .int x :: st) := r_icmp_eq tgt h dg ht (fun _ => k) (fun z => absurd q z)
theorem r_icmp_eq_f (tgt : Nat) {x y : Int32} {off : Int} (h : Ok X cc own d) (dg : decode cc pc = .ok (.if_icmp .eq off, 3)) (ht : (pc : Int) + off = (tgt : Int)) (q : ¬ x = y) (k : Wx X S (pc + 3) lv st) : Wx X S pc lv (.int y :: .int x :: st) := r_icmp_eq tgt h dg ht (fun z => absurd z q) (fun _ => k)
theorem r_if_ne (tgt : Nat) {x : Int32} {off : Int} (h : Ok X cc own d) (dg : decode cc pc = .ok (.ifCond .ne off, 3)) (ht : (pc : Int) + off = (tgt : Int)) (kt : ¬ x = 0 → Wx X S tgt lv st) (kf : x = 0 → Wx X S (pc + 3) lv st) : Wx X S pc lv (.int x :: st) := fun H locs ls hP hS hl => lv_if_ne h.1 h.2.1 dg ht (fun q => kt q H locs ls hP hS hl) (fun q => kf q H locs ls hP hS hl)
theorem r_if_ne_t (tgt : Nat) {x : Int32} {off : Int} (h : Ok X cc own d) (dg : decode cc pc = .ok (.ifCond .ne off, 3)) (ht : (pc : Int) + off = (tgt : Int)) (q : ¬ x = 0) (k : Wx X S tgt lv st) : Wx X S pc lv (.int x :: st) := r_if_ne tgt h dg ht (fun _ => k) (fun z => absurd z q)
theorem r_if_ne_f (tgt : Nat) {x : Int32} {off : Int} (h : Ok X cc own d) (dg : decode cc pc = .ok (.ifCond .ne off, 3)) (ht : (pc : Int) + off = (tgt : Int)) (q : x = 0) (k : Wx X S (pc + 3) lv st) : Wx X S pc lv (.int x :: st) := r_if_ne tgt h dg ht (fun z => absurd q z) (fun _ => k)
theorem r_icmp_ne (tgt : Nat) {x y : Int32} {off : Int} (h : Ok X cc own d) (dg : decode cc pc = .ok (.if_icmp .ne off, 3)) (ht : (pc : Int) + off = (tgt : Int)) (kt : ¬ x = y → Wx X S tgt lv st) (kf : x = y → Wx X S (pc + 3) lv st) : Wx X S pc lv (.int y :: .int x :: st) := fun H locs ls hP hS hl => lv_icmp_ne h.1 h.2.1 dg ht (fun q => kt q H locs ls hP hS hl) (fun q => kf q H locs ls hP hS hl)
theorem r_icmp_ne_t (tgt : Nat) {x y : Int32} {off : Int} (h : Ok X cc own d) (dg : decode cc pc = .ok (.if_icmp .ne off, 3)) (ht : (pc : Int) + off = (tgt : Int)) (q : ¬ x = y) (k : Wx X S tgt lv st) : Wx X S pc lv (.int y :: .int x :: st) := r_icmp_ne tgt h dg ht (fun _ => k) (fun z => absurd z q)
theorem r_icmp_ne_f (tgt : Nat) {x y : Int32} {off : Int} (h : Ok X cc own d) (dg : decode cc pc = .ok (.if_icmp .ne off, 3)) (ht : (pc : Int) + off = (tgt : Int)) (q : x = y) (k : Wx X S (pc + 3) lv st) : Wx X S pc lv (.int y :: .int x :: st) := r_icmp_ne tgt h dg ht (fun z => absurd q z) (fun _ => k)
theorem r_if_lt (tgt : Nat) {x : Int32} {off : Int} (h : Ok X cc own d) (dg : decode cc pc = .ok (.ifCond .lt off, 3)) (ht : (pc : Int) + off = (tgt : Int)) (kt : x < 0 → Wx X S tgt lv st) (kf : ¬ x < 0 → Wx X S (pc + 3) lv st) : Wx X S pc lv (.int x :: st) := fun H locs ls hP hS hl => lv_if_lt h.1 h.2.1 dg ht (fun q => kt q H locs ls hP hS hl) (fun q => kf q H locs ls hP hS hl)
theorem r_if_lt_t (tgt : Nat) {x : Int32} {off : Int} (h : Ok X cc own d) (dg : decode cc pc = .ok (.ifCond .lt off, 3)) (ht : (pc : Int) + off = (tgt : Int)) (q : x < 0) (k : Wx X S tgt lv st) : Wx X S pc lv (.int x :: st) := r_if_lt tgt h dg ht (fun _ => k) (fun z => absurd q z)
theorem r_if_lt_f (tgt : Nat) {x : Int32} {off : Int} (h : Ok X cc own d) (dg : decode cc pc = .ok (.ifCond .lt off, 3)) (ht : (pc : Int) + off = (tgt : Int)) (q : ¬ x < 0) (k : Wx X S (pc + 3) lv st) : Wx X S pc lv (.int x :: st) := r_if_lt tgt h dg ht (fun z => absurd z q) (fun _ => k)
theorem r_icmp_lt (tgt : Nat) {x y : Int32} {off : Int} (h : Ok X cc own d) (dg : decode cc pc = .ok (.if_icmp .lt off, 3)) (ht : (pc : Int) + off = (tgt : Int)) (kt : x < y → Wx X S tgt lv st) (kf : ¬ x < y → Wx X S (pc + 3) lv st) : Wx X S pc lv (.int y :: .int x :: st) := fun H locs ls hP hS hl => lv_icmp_lt h.1 h.2.1 dg ht (fun q => kt q H locs ls hP hS hl) (fun q => kf q H locs ls hP hS hl)
theorem r_icmp_lt_t (tgt : Nat) {x y : Int32} {off : Int} (h : Ok X cc own d) (dg : decode cc pc = .ok (.if_icmp .lt off, 3)) (ht : (pc : Int) + off = (tgt : Int)) (q : x < y) (k : Wx X S tgt lv st) : Wx X S pc lv (.int y :: .int x :: st) := r_icmp_lt tgt h dg ht (fun _ => k) (fun z => absurd q z)
theorem r_icmp_lt_f (tgt : Nat) {x y : Int32} {off : Int} (h : Ok X cc own d) (dg : decode cc pc = .ok (.if_icmp .lt off, 3)) (ht : (pc : Int) + off = (tgt : Int)) (q : ¬ x < y) (k : Wx X S (pc + 3) lv st) : Wx X S pc lv (.int y :: .int x :: st) := r_icmp_lt tgt h dg ht (fun z => absurd z q) (fun _ => k)
theorem r_if_ge (tgt : Nat) {x : Int32} {off : Int} (h : Ok X cc own d) (dg : decode cc pc = .ok (.ifCond .ge off, 3)) (ht : (pc : Int) + off = (tgt : Int)) (kt : 0 ≤ x → Wx X S tgt lv st) (kf : ¬ 0 ≤ x → Wx X S (pc + 3) lv st) : Wx X S pc lv (.int x :: st) := fun H locs ls hP hS hl => lv_if_ge h.1 h.2.1 dg ht (fun q => kt q H locs ls hP hS hl) (fun q => kf q H locs ls hP hS hl)
theorem r_if_ge_t (tgt : Nat) {x : Int32} {off : Int} (h : Ok X cc own d) (dg : decode cc pc = .ok (.ifCond .ge off, 3)) (ht : (pc : Int) + off = (tgt : Int)) (q : 0 ≤ x) (k : Wx X S tgt lv st) : Wx X S pc lv (.int x :: st) := r_if_ge tgt h dg ht (fun _ => k) (fun z => absurd q z)
theorem r_if_ge_f (tgt : Nat) {x : Int32} {off : Int} (h : Ok X cc own d) (dg : decode cc pc = .ok (.ifCond .ge off, 3)) (ht : (pc : Int) + off = (tgt : Int)) (q : ¬ 0 ≤ x) (k : Wx X S (pc + 3) lv st) : Wx X S pc lv (.int x :: st) := r_if_ge tgt h dg ht (fun z => absurd z q) (fun _ => k)
theorem r_icmp_ge (tgt : Nat) {x y : Int32} {off : Int} (h : Ok X cc own d) (dg : decode cc pc = .ok (.if_icmp .ge off, 3)) (ht : (pc : Int) + off = (tgt : Int)) (kt : y ≤ x → Wx X S tgt lv st) (kf : ¬ y ≤ x → Wx X S (pc + 3) lv st) : Wx X S pc lv (.int y :: .int x :: st) := fun H locs ls hP hS hl => lv_icmp_ge h.1 h.2.1 dg ht (fun q => kt q H locs ls hP hS hl) (fun q => kf q H locs ls hP hS hl)
theorem r_icmp_ge_t (tgt : Nat) {x y : Int32} {off : Int} (h : Ok X cc own d) (dg : decode cc pc = .ok (.if_icmp .ge off, 3)) (ht : (pc : Int) + off = (tgt : Int)) (q : y ≤ x) (k : Wx X S tgt lv st) : Wx X S pc lv (.int y :: .int x :: st) := r_icmp_ge tgt h dg ht (fun _ => k) (fun z => absurd q z)
theorem r_icmp_ge_f (tgt : Nat) {x y : Int32} {off : Int} (h : Ok X cc own d) (dg : decode cc pc = .ok (.if_icmp .ge off, 3)) (ht : (pc : Int) + off = (tgt : Int)) (q : ¬ y ≤ x) (k : Wx X S (pc + 3) lv st) : Wx X S pc lv (.int y :: .int x :: st) := r_icmp_ge tgt h dg ht (fun z => absurd z q) (fun _ => k)
theorem r_if_gt (tgt : Nat) {x : Int32} {off : Int} (h : Ok X cc own d) (dg : decode cc pc = .ok (.ifCond .gt off, 3)) (ht : (pc : Int) + off = (tgt : Int)) (kt : 0 < x → Wx X S tgt lv st) (kf : ¬ 0 < x → Wx X S (pc + 3) lv st) : Wx X S pc lv (.int x :: st) := fun H locs ls hP hS hl => lv_if_gt h.1 h.2.1 dg ht (fun q => kt q H locs ls hP hS hl) (fun q => kf q H locs ls hP hS hl)
theorem r_if_gt_t (tgt : Nat) {x : Int32} {off : Int} (h : Ok X cc own d) (dg : decode cc pc = .ok (.ifCond .gt off, 3)) (ht : (pc : Int) + off = (tgt : Int)) (q : 0 < x) (k : Wx X S tgt lv st) : Wx X S pc lv (.int x :: st) := r_if_gt tgt h dg ht (fun _ => k) (fun z => absurd q z)
theorem r_if_gt_f (tgt : Nat) {x : Int32} {off : Int} (h : Ok X cc own d) (dg : decode cc pc = .ok (.ifCond .gt off, 3)) (ht : (pc : Int) + off = (tgt : Int)) (q : ¬ 0 < x) (k : Wx X S (pc + 3) lv st) : Wx X S pc lv (.int x :: st) := r_if_gt tgt h dg ht (fun z => absurd z q) (fun _ => k)
theorem r_icmp_gt (tgt : Nat) {x y : Int32} {off : Int} (h : Ok X cc own d) (dg : decode cc pc = .ok (.if_icmp .gt off, 3)) (ht : (pc : Int) + off = (tgt : Int)) (kt : y < x → Wx X S tgt lv st) (kf : ¬ y < x → Wx X S (pc + 3) lv st) : Wx X S pc lv (.int y :: .int x :: st) := fun H locs ls hP hS hl => lv_icmp_gt h.1 h.2.1 dg ht (fun q => kt q H locs ls hP hS hl) (fun q => kf q H locs ls hP hS hl)
theorem r_icmp_gt_t (tgt : Nat) {x y : Int32} {off : Int} (h : Ok X cc own d) (dg : decode cc pc = .ok (.if_icmp .gt off, 3)) (ht : (pc : Int) + off = (tgt : Int)) (q : y < x) (k : Wx X S tgt lv st) : Wx X S pc lv (.int y :: .int x :: st) := r_icmp_gt tgt h dg ht (fun _ => k) (fun z => absurd q z)
theorem r_icmp_gt_f (tgt : Nat) {x y : Int32} {off : Int} (h : Ok X cc own d) (dg : decode cc pc = .ok (.if_icmp .gt off, 3)) (ht : (pc : Int) + off = (tgt : Int)) (q : ¬ y < x) (k : Wx X S (pc + 3) lv st) : Wx X S pc lv (.int y :: .int x :: st) := r_icmp_gt tgt h dg ht (fun z => absurd z q) (fun _ => k)
theorem r_if_le (tgt : Nat) {x : Int32} {off : Int} (h : Ok X cc own d) (dg : decode cc pc = .ok (.ifCond .le off, 3)) (ht : (pc : Int) + off = (tgt : Int)) (kt : x ≤ 0 → Wx X S tgt lv st) (kf : ¬ x ≤ 0 → Wx X S (pc + 3) lv st) : Wx X S pc lv (.int x :: st) := fun H locs ls hP hS hl => lv_if_le h.1 h.2.1 dg ht (fun q => kt q H locs ls hP hS hl) (fun q => kf q H locs ls hP hS hl)
theorem r_if_le_t (tgt : Nat) {x : Int32} {off : Int} (h : Ok X cc own d) (dg : decode cc pc = .ok (.ifCond .le off, 3)) (ht : (pc : Int) + off = (tgt : Int)) (q : x ≤ 0) (k : Wx X S tgt lv st) : Wx X S pc lv (.int x :: st) := r_if_le tgt h dg ht (fun _ => k) (fun z => absurd q z)
theorem r_if_le_f (tgt : Nat) {x : Int32} {off : Int} (h : Ok X cc own d) (dg : decode cc pc = .ok (.ifCond .le off, 3)) (ht : (pc : Int) + off = (tgt : Int)) (q : ¬ x ≤ 0) (k : Wx X S (pc + 3) lv st) : Wx X S pc lv (.int x :: st) := r_if_le tgt h dg ht (fun z => absurd z q) (fun _ => k)
theorem r_icmp_le (tgt : Nat) {x y : Int32} {off : Int} (h : Ok X cc own d) (dg : decode cc pc = .ok (.if_icmp .le off, 3)) (ht : (pc : Int) + off = (tgt : Int)) (kt : x ≤ y → Wx X S tgt lv st) (kf : ¬ x ≤ y → Wx X S (pc + 3) lv st) : Wx X S pc lv (.int y :: .int x :: st) := fun H locs ls hP hS hl => lv_icmp_le h.1 h.2.1 dg ht (fun q => kt q H locs ls hP hS hl) (fun q => kf q H locs ls hP hS hl)
theorem r_icmp_le_t (tgt : Nat) {x y : Int32} {off : Int} (h : Ok X cc own d) (dg : decode cc pc = .ok (.if_icmp .le off, 3)) (ht : (pc : Int) + off = (tgt : Int)) (q : x ≤ y) (k : Wx X S tgt lv st) : Wx X S pc lv (.int y :: .int x :: st) := r_icmp_le tgt h dg ht (fun _ => k) (fun z => absurd q z)
theorem r_icmp_le_f (tgt : Nat) {x y : Int32} {off : Int} (h : Ok X cc own d) (dg : decode cc pc = .ok (.if_icmp .le off, 3)) (ht : (pc : Int) + off = (tgt : Int)) (q : ¬ x ≤ y) (k : Wx X S (pc + 3) lv st) : Wx X S pc lv (.int y :: .int x :: st) := r_icmp_le tgt h dg ht (fun z => absurd z q) (fun _ => k)
theorem r_lcmp {x y : Int64} (h : Ok X cc own d) (dg : decode cc pc = .ok (.lcmp, 1)) (k : Wx X S (pc + 1) lv (.int (lg_cmp x y) :: st)) : Wx X S pc lv (.long y :: .long x :: st) := fun H locs ls hP hS hl => W.lcmp h.1 h.2.1 dg (k H locs ls hP hS hl)
theorem lgc_eq {x y : Int64} : lg_cmp x y = 0 ↔ x = y := by
  unfold lg_cmp
  by_cases h1 : x > y
  · rw [if_pos h1]
    exact ⟨fun q => absurd q (by decide), fun q => absurd h1 (by rw [q]; exact Int64.lt_irrefl)⟩
  · rw [if_neg h1]
    by_cases h2 : x = y
    · rw [if_pos h2]; exact ⟨fun _ => h2, fun _ => rfl⟩
    · rw [if_neg h2]; exact ⟨fun q => absurd q (by decide), fun q => absurd q h2⟩
theorem lgc_gt {x y : Int64} : 0 < lg_cmp x y ↔ y < x := by
  unfold lg_cmp
  by_cases h1 : x > y
  · rw [if_pos h1]; exact ⟨fun _ => h1, fun _ => by decide⟩
  · rw [if_neg h1]
    by_cases h2 : x = y
    · rw [if_pos h2]; exact ⟨fun q => absurd q (by decide), fun q => absurd q h1⟩
    · rw [if_neg h2]; exact ⟨fun q => absurd q (by decide), fun q => absurd q h1⟩
theorem lgc_lt {x y : Int64} : lg_cmp x y < 0 ↔ x < y := by
  unfold lg_cmp
  by_cases h1 : x > y
  · rw [if_pos h1]; exact ⟨fun q => absurd q (by decide), fun q => absurd (Int64.lt_trans q h1) Int64.lt_irrefl⟩
  · rw [if_neg h1]
    by_cases h2 : x = y
    · rw [if_pos h2]; exact ⟨fun q => absurd q (by decide), fun q => absurd q (by rw [h2]; exact Int64.lt_irrefl)⟩
    · rw [if_neg h2]
      refine ⟨fun _ => ?_, fun _ => by decide⟩
      have h3 : x ≤ y := Int64.not_lt.mp h1
      rcases Int64.lt_or_eq_of_le h3 with q | q
      · exact q
      · exact absurd q h2
theorem lgc_le {x y : Int64} : lg_cmp x y ≤ 0 ↔ x ≤ y := by
  rw [← Int32.not_lt, ← Int64.not_lt]
  exact not_congr lgc_gt
theorem lgc_ge {x y : Int64} : 0 ≤ lg_cmp x y ↔ y ≤ x := by
  rw [← Int32.not_lt, ← Int64.not_lt]
  exact not_congr lgc_lt
theorem r_lc_eq (tgt : Nat) {x y : Int64} {off : Int} (h : Ok X cc own d) (dl : decode cc pc = .ok (.lcmp, 1)) (dg : decode cc (pc + 1) = .ok (.ifCond .eq off, 3)) (ht : ((pc + 1 : Nat) : Int) + off = (tgt : Int)) (kt : x = y → Wx X S tgt lv st) (kf : ¬ x = y → Wx X S (pc + 4) lv st) : Wx X S pc lv (.long y :: .long x :: st) := r_lcmp h dl (r_if_eq tgt h dg ht (fun q => kt (lgc_eq.mp q)) (fun q => kf (fun z => q (lgc_eq.mpr z))))
theorem r_lc_eq_t (tgt : Nat) {x y : Int64} {off : Int} (h : Ok X cc own d) (dl : decode cc pc = .ok (.lcmp, 1)) (dg : decode cc (pc + 1) = .ok (.ifCond .eq off, 3)) (ht : ((pc + 1 : Nat) : Int) + off = (tgt : Int)) (q : x = y) (k : Wx X S tgt lv st) : Wx X S pc lv (.long y :: .long x :: st) := r_lc_eq tgt h dl dg ht (fun _ => k) (fun z => absurd q z)
theorem r_lc_eq_f (tgt : Nat) {x y : Int64} {off : Int} (h : Ok X cc own d) (dl : decode cc pc = .ok (.lcmp, 1)) (dg : decode cc (pc + 1) = .ok (.ifCond .eq off, 3)) (ht : ((pc + 1 : Nat) : Int) + off = (tgt : Int)) (q : ¬ x = y) (k : Wx X S (pc + 4) lv st) : Wx X S pc lv (.long y :: .long x :: st) := r_lc_eq tgt h dl dg ht (fun z => absurd z q) (fun _ => k)
theorem r_lc_ne (tgt : Nat) {x y : Int64} {off : Int} (h : Ok X cc own d) (dl : decode cc pc = .ok (.lcmp, 1)) (dg : decode cc (pc + 1) = .ok (.ifCond .ne off, 3)) (ht : ((pc + 1 : Nat) : Int) + off = (tgt : Int)) (kt : ¬ x = y → Wx X S tgt lv st) (kf : x = y → Wx X S (pc + 4) lv st) : Wx X S pc lv (.long y :: .long x :: st) := r_lcmp h dl (r_if_ne tgt h dg ht (fun q => kt (fun z => q (lgc_eq.mpr z))) (fun q => kf (lgc_eq.mp q)))
theorem r_lc_ne_t (tgt : Nat) {x y : Int64} {off : Int} (h : Ok X cc own d) (dl : decode cc pc = .ok (.lcmp, 1)) (dg : decode cc (pc + 1) = .ok (.ifCond .ne off, 3)) (ht : ((pc + 1 : Nat) : Int) + off = (tgt : Int)) (q : ¬ x = y) (k : Wx X S tgt lv st) : Wx X S pc lv (.long y :: .long x :: st) := r_lc_ne tgt h dl dg ht (fun _ => k) (fun z => absurd z q)
theorem r_lc_ne_f (tgt : Nat) {x y : Int64} {off : Int} (h : Ok X cc own d) (dl : decode cc pc = .ok (.lcmp, 1)) (dg : decode cc (pc + 1) = .ok (.ifCond .ne off, 3)) (ht : ((pc + 1 : Nat) : Int) + off = (tgt : Int)) (q : x = y) (k : Wx X S (pc + 4) lv st) : Wx X S pc lv (.long y :: .long x :: st) := r_lc_ne tgt h dl dg ht (fun z => absurd q z) (fun _ => k)
theorem r_lc_lt (tgt : Nat) {x y : Int64} {off : Int} (h : Ok X cc own d) (dl : decode cc pc = .ok (.lcmp, 1)) (dg : decode cc (pc + 1) = .ok (.ifCond .lt off, 3)) (ht : ((pc + 1 : Nat) : Int) + off = (tgt : Int)) (kt : x < y → Wx X S tgt lv st) (kf : ¬ x < y → Wx X S (pc + 4) lv st) : Wx X S pc lv (.long y :: .long x :: st) := r_lcmp h dl (r_if_lt tgt h dg ht (fun q => kt (lgc_lt.mp q)) (fun q => kf (fun z => q (lgc_lt.mpr z))))
theorem r_lc_lt_t (tgt : Nat) {x y : Int64} {off : Int} (h : Ok X cc own d) (dl : decode cc pc = .ok (.lcmp, 1)) (dg : decode cc (pc + 1) = .ok (.ifCond .lt off, 3)) (ht : ((pc + 1 : Nat) : Int) + off = (tgt : Int)) (q : x < y) (k : Wx X S tgt lv st) : Wx X S pc lv (.long y :: .long x :: st) := r_lc_lt tgt h dl dg ht (fun _ => k) (fun z => absurd q z)
theorem r_lc_lt_f (tgt : Nat) {x y : Int64} {off : Int} (h : Ok X cc own d) (dl : decode cc pc = .ok (.lcmp, 1)) (dg : decode cc (pc + 1) = .ok (.ifCond .lt off, 3)) (ht : ((pc + 1 : Nat) : Int) + off = (tgt : Int)) (q : ¬ x < y) (k : Wx X S (pc + 4) lv st) : Wx X S pc lv (.long y :: .long x :: st) := r_lc_lt tgt h dl dg ht (fun z => absurd z q) (fun _ => k)
theorem r_lc_ge (tgt : Nat) {x y : Int64} {off : Int} (h : Ok X cc own d) (dl : decode cc pc = .ok (.lcmp, 1)) (dg : decode cc (pc + 1) = .ok (.ifCond .ge off, 3)) (ht : ((pc + 1 : Nat) : Int) + off = (tgt : Int)) (kt : y ≤ x → Wx X S tgt lv st) (kf : ¬ y ≤ x → Wx X S (pc + 4) lv st) : Wx X S pc lv (.long y :: .long x :: st) := r_lcmp h dl (r_if_ge tgt h dg ht (fun q => kt (lgc_ge.mp q)) (fun q => kf (fun z => q (lgc_ge.mpr z))))
theorem r_lc_ge_t (tgt : Nat) {x y : Int64} {off : Int} (h : Ok X cc own d) (dl : decode cc pc = .ok (.lcmp, 1)) (dg : decode cc (pc + 1) = .ok (.ifCond .ge off, 3)) (ht : ((pc + 1 : Nat) : Int) + off = (tgt : Int)) (q : y ≤ x) (k : Wx X S tgt lv st) : Wx X S pc lv (.long y :: .long x :: st) := r_lc_ge tgt h dl dg ht (fun _ => k) (fun z => absurd q z)
theorem r_lc_ge_f (tgt : Nat) {x y : Int64} {off : Int} (h : Ok X cc own d) (dl : decode cc pc = .ok (.lcmp, 1)) (dg : decode cc (pc + 1) = .ok (.ifCond .ge off, 3)) (ht : ((pc + 1 : Nat) : Int) + off = (tgt : Int)) (q : ¬ y ≤ x) (k : Wx X S (pc + 4) lv st) : Wx X S pc lv (.long y :: .long x :: st) := r_lc_ge tgt h dl dg ht (fun z => absurd z q) (fun _ => k)
theorem r_lc_gt (tgt : Nat) {x y : Int64} {off : Int} (h : Ok X cc own d) (dl : decode cc pc = .ok (.lcmp, 1)) (dg : decode cc (pc + 1) = .ok (.ifCond .gt off, 3)) (ht : ((pc + 1 : Nat) : Int) + off = (tgt : Int)) (kt : y < x → Wx X S tgt lv st) (kf : ¬ y < x → Wx X S (pc + 4) lv st) : Wx X S pc lv (.long y :: .long x :: st) := r_lcmp h dl (r_if_gt tgt h dg ht (fun q => kt (lgc_gt.mp q)) (fun q => kf (fun z => q (lgc_gt.mpr z))))
theorem r_lc_gt_t (tgt : Nat) {x y : Int64} {off : Int} (h : Ok X cc own d) (dl : decode cc pc = .ok (.lcmp, 1)) (dg : decode cc (pc + 1) = .ok (.ifCond .gt off, 3)) (ht : ((pc + 1 : Nat) : Int) + off = (tgt : Int)) (q : y < x) (k : Wx X S tgt lv st) : Wx X S pc lv (.long y :: .long x :: st) := r_lc_gt tgt h dl dg ht (fun _ => k) (fun z => absurd q z)
theorem r_lc_gt_f (tgt : Nat) {x y : Int64} {off : Int} (h : Ok X cc own d) (dl : decode cc pc = .ok (.lcmp, 1)) (dg : decode cc (pc + 1) = .ok (.ifCond .gt off, 3)) (ht : ((pc + 1 : Nat) : Int) + off = (tgt : Int)) (q : ¬ y < x) (k : Wx X S (pc + 4) lv st) : Wx X S pc lv (.long y :: .long x :: st) := r_lc_gt tgt h dl dg ht (fun z => absurd z q) (fun _ => k)
theorem r_lc_le (tgt : Nat) {x y : Int64} {off : Int} (h : Ok X cc own d) (dl : decode cc pc = .ok (.lcmp, 1)) (dg : decode cc (pc + 1) = .ok (.ifCond .le off, 3)) (ht : ((pc + 1 : Nat) : Int) + off = (tgt : Int)) (kt : x ≤ y → Wx X S tgt lv st) (kf : ¬ x ≤ y → Wx X S (pc + 4) lv st) : Wx X S pc lv (.long y :: .long x :: st) := r_lcmp h dl (r_if_le tgt h dg ht (fun q => kt (lgc_le.mp q)) (fun q => kf (fun z => q (lgc_le.mpr z))))
theorem r_lc_le_t (tgt : Nat) {x y : Int64} {off : Int} (h : Ok X cc own d) (dl : decode cc pc = .ok (.lcmp, 1)) (dg : decode cc (pc + 1) = .ok (.ifCond .le off, 3)) (ht : ((pc + 1 : Nat) : Int) + off = (tgt : Int)) (q : x ≤ y) (k : Wx X S tgt lv st) : Wx X S pc lv (.long y :: .long x :: st) := r_lc_le tgt h dl dg ht (fun _ => k) (fun z => absurd q z)
theorem r_lc_le_f (tgt : Nat) {x y : Int64} {off : Int} (h : Ok X cc own d) (dl : decode cc pc = .ok (.lcmp, 1)) (dg : decode cc (pc + 1) = .ok (.ifCond .le off, 3)) (ht : ((pc + 1 : Nat) : Int) + off = (tgt : Int)) (q : ¬ x ≤ y) (k : Wx X S (pc + 4) lv st) : Wx X S pc lv (.long y :: .long x :: st) := r_lc_le tgt h dl dg ht (fun z => absurd z q) (fun _ => k)
theorem r_swOut (tgt : Nat) {dflt lo hi : Int} {offs : Array Int} {len : Nat} {x : Int32} (h : Ok X cc own d) (dg : decode cc pc = .ok (.tableswitch dflt lo hi offs, len)) (q : x.toInt < lo ∨ hi < x.toInt) (ht : (pc : Int) + dflt = (tgt : Int)) (k : Wx X S tgt lv st) : Wx X S pc lv (.int x :: st) := fun H locs ls hP hS hl => lv_tableOut h.1 h.2.1 dg q ht (k H locs ls hP hS hl)
theorem r_swIn (tgt : Nat) {dflt lo hi : Int} {offs : Array Int} {len : Nat} {x : Int32} {off : Int} (h : Ok X cc own d) (dg : decode cc pc = .ok (.tableswitch dflt lo hi offs, len)) (h1 : ¬ x.toInt < lo) (h2 : ¬ hi < x.toInt) (ho : offs[(x.toInt - lo).toNat]? = some off) (ht : (pc : Int) + off = (tgt : Int)) (k : Wx X S tgt lv st) : Wx X S pc lv (.int x :: st) := fun H locs ls hP hS hl => lv_tableIn h.1 h.2.1 dg h1 h2 ho ht (k H locs ls hP hS hl)
theorem r_look (tgt : Nat) {dflt : Int} {ps : Array (Int × Int)} {len : Nat} {x : Int32} {off : Int} (h : Ok X cc own d) (dg : decode cc pc = .ok (.lookupswitch dflt ps, len)) (hp : (ps.toList.zip (ps.toList.drop 1)).all (fun (a, next) => a.1 < next.1) = true) (ho : Op.lookupswitch.offset ps.toList dflt x.toInt = off) (ht : (pc : Int) + off = (tgt : Int)) (k : Wx X S tgt lv st) : Wx X S pc lv (.int x :: st) := fun H locs ls hP hS hl => lv_lookup h.1 h.2.1 dg hp ho ht (k H locs ls hP hS hl)
theorem r_get {ref C : String} {T : u_T} {N ci index a : Nat} {fs : List Value} {v : Value} (h : Ok X cc own d) (q0 : Nat) (he : (wS (xw X) S)[q0]? = some (a, .inr (ci, fs))) (hc : vwCl[ci]? = some (C, T, N)) (hin : ∀ w ∈ u_ws C T N, w ∈ tb) (i : Nat) (hi : i < N) (hlink : Cond.fieldLink own index ref (T i).2.1 (T i).2.2.1 ∈ tb) (hr : (T i).1 = ref) (hv : fs[i]? = some v) (dg : decode cc pc = .ok (.getfield index, 3)) (k : Wx X S (pc + 3) lv (v :: st)) : Wx X S pc lv (.ref a :: st) := fun H locs ls hP hS hl => va_get h.1 h.2.1 h.2.2.2.2.1 hin h.2.2.2.1 h.2.2.2.2.2.2.1.1 hP q0 he hc i hi (h.2.2.2.2.1 _ hlink) (fun _ z => hr ▸ z) hv dg (k H locs ls hP hS hl)
theorem r_put {ref C : String} {T : u_T} {N ci index a : Nat} {fs : List Value} {v : Value} {ty : FieldType} (S' : St) (h : Ok X cc own d) (q0 : Nat) (he : (wS (xw X) S)[q0]? = some (a, .inr (ci, fs))) (hc : vwCl[ci]? = some (C, T, N)) (hin : ∀ w ∈ u_ws C T N, w ∈ tb) (ty0 : Nat → FieldType) (hty : ∀ k, k < N → parseFieldDescriptor (T k).2.2.1 = some (ty0 k)) (hnm : ∀ a, a < N → ∀ b, b < N → a ≠ b → (T a).2.1 ≠ (T b).2.1) (i : Nat) (hi : i < N) (hlink : Cond.fieldLink own index ref (T i).2.1 (T i).2.2.1 ∈ tb) (hr : (T i).1 = ref) (hfin : (T i).2.2.2 = false) (hd : parseFieldDescriptor (T i).2.2.1 = some ty) (hn : narrow ty v = v) (hfit : fits ty v = true) (hl0 : i < fs.length) (hset : (wS (xw X) S).set q0 (a, .inr (ci, fs.set i v)) = wS (xw X) S') (dg : decode cc pc = .ok (.putfield index, 3)) (k : Wx X S' (pc + 3) lv st) : Wx X S pc lv (v :: .ref a :: st) := fun H locs ls hP hS hl => va_put h.1 h.2.1 h.2.2.2.2.1 hin ty0 hty hnm h.2.2.2.1 h.2.2.2.2.2.2.1.1 hP (h.2.2.2.2.2.2.1.2.2.2.2 S) hS q0 he hc i hi (h.2.2.2.2.1 _ hlink) (fun _ z => hr ▸ z) hfin hd hn hfit hl0 dg (fun H1 locs1 hP1 _ hS1 => k H1 locs1 ls (hset ▸ hP1) hS1 hl)
end
theorem inT0 : ∀ w ∈ wsX00, w ∈ tb := by decide +kernel
theorem inT1 : ∀ w ∈ wsX10, w ∈ tb := by decide +kernel
theorem inT2 : ∀ w ∈ wsX20, w ∈ tb := by decide +kernel
theorem inT3 : ∀ w ∈ wsX30, w ∈ tb := by decide +kernel
theorem inT4 : ∀ w ∈ wsX40, w ∈ tb := by decide +kernel
theorem inT5 : ∀ w ∈ wsX50, w ∈ tb := by decide +kernel
theorem inT6 : ∀ w ∈ wsX60, w ∈ tb := by decide +kernel
theorem inT7 : ∀ w ∈ wsX70, w ∈ tb := by decide +kernel
section
variable {X : Fr} {cc : ByteArray} {own : String} {d : Nat} {S : St} {pc : Nat} {lv st : List Value} {index : Nat}
theorem g0_0 (h : Ok X cc own d) (hlink : Cond.fieldLink own index "FarSums" "points" "LFarSums$Points;" ∈ tb) (dg : decode cc pc = .ok (.getfield index, 3)) (k : Wx X S (pc + 3) lv (.ref (aD (xw X) 1) :: st)) : Wx X S pc lv (.ref (aD (xw X) 0) :: st) := r_get h 0 (pl_0 _ _) rfl inT6 0 (by decide) hlink rfl rfl dg k
theorem g0_1 (h : Ok X cc own d) (hlink : Cond.fieldLink own index "FarSums" "boxes" "LFarSums$Boxes;" ∈ tb) (dg : decode cc pc = .ok (.getfield index, 3)) (k : Wx X S (pc + 3) lv (.ref (aD (xw X) 8) :: st)) : Wx X S pc lv (.ref (aD (xw X) 0) :: st) := r_get h 0 (pl_0 _ _) rfl inT6 1 (by decide) hlink rfl rfl dg k
theorem g0_2 (h : Ok X cc own d) (hlink : Cond.fieldLink own index "FarSums" "factors" "LFarSums$Polynomial;" ∈ tb) (dg : decode cc pc = .ok (.getfield index, 3)) (k : Wx X S (pc + 3) lv (.ref (aD (xw X) 11) :: st)) : Wx X S pc lv (.ref (aD (xw X) 0) :: st) := r_get h 0 (pl_0 _ _) rfl inT6 2 (by decide) hlink rfl rfl dg k
theorem g0_3 (h : Ok X cc own d) (hlink : Cond.fieldLink own index "FarSums" "series" "LFarSums$Series;" ∈ tb) (dg : decode cc pc = .ok (.getfield index, 3)) (k : Wx X S (pc + 3) lv (.ref (aD (xw X) 13) :: st)) : Wx X S pc lv (.ref (aD (xw X) 0) :: st) := r_get h 0 (pl_0 _ _) rfl inT6 3 (by decide) hlink rfl rfl dg k
theorem g0_4 (h : Ok X cc own d) (hlink : Cond.fieldLink own index "FarSums" "trail" "LFarSums$Trail;" ∈ tb) (dg : decode cc pc = .ok (.getfield index, 3)) (k : Wx X S (pc + 3) lv (.ref (aD (xw X) 16) :: st)) : Wx X S pc lv (.ref (aD (xw X) 0) :: st) := r_get h 0 (pl_0 _ _) rfl inT6 4 (by decide) hlink rfl rfl dg k
theorem g0_5 (h : Ok X cc own d) (hlink : Cond.fieldLink own index "FarSums" "motion" "LFarSums$Motion;" ∈ tb) (dg : decode cc pc = .ok (.getfield index, 3)) (k : Wx X S (pc + 3) lv (.ref (aD (xw X) 20) :: st)) : Wx X S pc lv (.ref (aD (xw X) 0) :: st) := r_get h 0 (pl_0 _ _) rfl inT6 5 (by decide) hlink rfl rfl dg k
theorem g1_0 (h : Ok X cc own d) (hlink : Cond.fieldLink own index "FarSums$Points" "here" "[Z" ∈ tb) (dg : decode cc pc = .ok (.getfield index, 3)) (k : Wx X S (pc + 3) lv (.ref (aD (xw X) 2) :: st)) : Wx X S pc lv (.ref (aD (xw X) 1) :: st) := r_get h 1 (pl_1 _ _) rfl inT2 0 (by decide) hlink rfl rfl dg k
theorem g1_1 (h : Ok X cc own d) (hlink : Cond.fieldLink own index "FarSums$Points" "x" "[I" ∈ tb) (dg : decode cc pc = .ok (.getfield index, 3)) (k : Wx X S (pc + 3) lv (.ref (aD (xw X) 3) :: st)) : Wx X S pc lv (.ref (aD (xw X) 1) :: st) := r_get h 1 (pl_1 _ _) rfl inT2 1 (by decide) hlink rfl rfl dg k
theorem g1_2 (h : Ok X cc own d) (hlink : Cond.fieldLink own index "FarSums$Points" "y" "[I" ∈ tb) (dg : decode cc pc = .ok (.getfield index, 3)) (k : Wx X S (pc + 3) lv (.ref (aD (xw X) 4) :: st)) : Wx X S pc lv (.ref (aD (xw X) 1) :: st) := r_get h 1 (pl_1 _ _) rfl inT2 2 (by decide) hlink rfl rfl dg k
theorem g1_3 (h : Ok X cc own d) (hlink : Cond.fieldLink own index "FarSums$Points" "weight" "[I" ∈ tb) (dg : decode cc pc = .ok (.getfield index, 3)) (k : Wx X S (pc + 3) lv (.ref (aD (xw X) 5) :: st)) : Wx X S pc lv (.ref (aD (xw X) 1) :: st) := r_get h 1 (pl_1 _ _) rfl inT2 3 (by decide) hlink rfl rfl dg k
theorem g1_4 (h : Ok X cc own d) (hlink : Cond.fieldLink own index "FarSums$Points" "paceX" "[I" ∈ tb) (dg : decode cc pc = .ok (.getfield index, 3)) (k : Wx X S (pc + 3) lv (.ref (aD (xw X) 6) :: st)) : Wx X S pc lv (.ref (aD (xw X) 1) :: st) := r_get h 1 (pl_1 _ _) rfl inT2 4 (by decide) hlink rfl rfl dg k
theorem g1_5 (h : Ok X cc own d) (hlink : Cond.fieldLink own index "FarSums$Points" "paceY" "[I" ∈ tb) (dg : decode cc pc = .ok (.getfield index, 3)) (k : Wx X S (pc + 3) lv (.ref (aD (xw X) 7) :: st)) : Wx X S pc lv (.ref (aD (xw X) 1) :: st) := r_get h 1 (pl_1 _ _) rfl inT2 5 (by decide) hlink rfl rfl dg k
theorem g1_6 (h : Ok X cc own d) (hlink : Cond.fieldLink own index "FarSums$Points" "number" "I" ∈ tb) (dg : decode cc pc = .ok (.getfield index, 3)) (k : Wx X S (pc + 3) lv (.int (S.1 6 0) :: st)) : Wx X S pc lv (.ref (aD (xw X) 1) :: st) := r_get h 1 (pl_1 _ _) rfl inT2 6 (by decide) hlink rfl rfl dg k
theorem p1_6 {v : Int32} (h : Ok X cc own d) (hlink : Cond.fieldLink own index "FarSums$Points" "number" "I" ∈ tb) (dg : decode cc pc = .ok (.putfield index, 3)) (k : Wx X (sI S 6 0 v) (pc + 3) lv st) : Wx X S pc lv (.int v :: .ref (aD (xw X) 1) :: st) := r_put (ty := .int) (sI S 6 0 v) h 1 (pl_1 _ _) rfl inT2 tyX2 tyX2_ok nmX2 6 (by decide) hlink rfl rfl (by decide +kernel) rfl rfl (Nat.le_of_ble_eq_true rfl) rfl dg k
theorem g8_0 (h : Ok X cc own d) (hlink : Cond.fieldLink own index "FarSums$Boxes" "points" "LFarSums$Points;" ∈ tb) (dg : decode cc pc = .ok (.getfield index, 3)) (k : Wx X S (pc + 3) lv (.ref (aD (xw X) 1) :: st)) : Wx X S pc lv (.ref (aD (xw X) 8) :: st) := r_get h 8 (pl_8 _ _) rfl inT0 0 (by decide) hlink rfl rfl dg k
theorem g8_1 (h : Ok X cc own d) (hlink : Cond.fieldLink own index "FarSums$Boxes" "tally" "[I" ∈ tb) (dg : decode cc pc = .ok (.getfield index, 3)) (k : Wx X S (pc + 3) lv (.ref (aD (xw X) 9) :: st)) : Wx X S pc lv (.ref (aD (xw X) 8) :: st) := r_get h 8 (pl_8 _ _) rfl inT0 1 (by decide) hlink rfl rfl dg k
theorem g8_2 (h : Ok X cc own d) (hlink : Cond.fieldLink own index "FarSums$Boxes" "room" "I" ∈ tb) (dg : decode cc pc = .ok (.getfield index, 3)) (k : Wx X S (pc + 3) lv (.int (S.1 8 0) :: st)) : Wx X S pc lv (.ref (aD (xw X) 8) :: st) := r_get h 8 (pl_8 _ _) rfl inT0 2 (by decide) hlink rfl rfl dg k
theorem p8_2 {v : Int32} (h : Ok X cc own d) (hlink : Cond.fieldLink own index "FarSums$Boxes" "room" "I" ∈ tb) (dg : decode cc pc = .ok (.putfield index, 3)) (k : Wx X (sI S 8 0 v) (pc + 3) lv st) : Wx X S pc lv (.int v :: .ref (aD (xw X) 8) :: st) := r_put (ty := .int) (sI S 8 0 v) h 8 (pl_8 _ _) rfl inT0 tyX0 tyX0_ok nmX0 2 (by decide) hlink rfl rfl (by decide +kernel) rfl rfl (Nat.le_of_ble_eq_true rfl) rfl dg k
theorem g8_3 (h : Ok X cc own d) (hlink : Cond.fieldLink own index "FarSums$Boxes" "moments" "[J" ∈ tb) (dg : decode cc pc = .ok (.getfield index, 3)) (k : Wx X S (pc + 3) lv (.ref (aD (xw X) 10) :: st)) : Wx X S pc lv (.ref (aD (xw X) 8) :: st) := r_get h 8 (pl_8 _ _) rfl inT0 3 (by decide) hlink rfl rfl dg k
theorem g8_4 (h : Ok X cc own d) (hlink : Cond.fieldLink own index "FarSums$Boxes" "bulk" "I" ∈ tb) (dg : decode cc pc = .ok (.getfield index, 3)) (k : Wx X S (pc + 3) lv (.int (S.1 9 0) :: st)) : Wx X S pc lv (.ref (aD (xw X) 8) :: st) := r_get h 8 (pl_8 _ _) rfl inT0 4 (by decide) hlink rfl rfl dg k
theorem p8_4 {v : Int32} (h : Ok X cc own d) (hlink : Cond.fieldLink own index "FarSums$Boxes" "bulk" "I" ∈ tb) (dg : decode cc pc = .ok (.putfield index, 3)) (k : Wx X (sI S 9 0 v) (pc + 3) lv st) : Wx X S pc lv (.int v :: .ref (aD (xw X) 8) :: st) := r_put (ty := .int) (sI S 9 0 v) h 8 (pl_8 _ _) rfl inT0 tyX0 tyX0_ok nmX0 4 (by decide) hlink rfl rfl (by decide +kernel) rfl rfl (Nat.le_of_ble_eq_true rfl) rfl dg k
theorem g11_0 (h : Ok X cc own d) (hlink : Cond.fieldLink own index "FarSums$Polynomial" "numbers" "[J" ∈ tb) (dg : decode cc pc = .ok (.getfield index, 3)) (k : Wx X S (pc + 3) lv (.ref (aD (xw X) 12) :: st)) : Wx X S pc lv (.ref (aD (xw X) 11) :: st) := r_get h 11 (pl_11 _ _) rfl inT3 0 (by decide) hlink rfl rfl dg k
theorem g13_0 (h : Ok X cc own d) (hlink : Cond.fieldLink own index "FarSums$Series" "factors" "LFarSums$Polynomial;" ∈ tb) (dg : decode cc pc = .ok (.getfield index, 3)) (k : Wx X S (pc + 3) lv (.ref (aD (xw X) 11) :: st)) : Wx X S pc lv (.ref (aD (xw X) 13) :: st) := r_get h 13 (pl_13 _ _) rfl inT4 0 (by decide) hlink rfl rfl dg k
theorem g13_1 (h : Ok X cc own d) (hlink : Cond.fieldLink own index "FarSums$Series" "result" "LFarSums$Polynomial;" ∈ tb) (dg : decode cc pc = .ok (.getfield index, 3)) (k : Wx X S (pc + 3) lv (.ref (aD (xw X) 14) :: st)) : Wx X S pc lv (.ref (aD (xw X) 13) :: st) := r_get h 13 (pl_13 _ _) rfl inT4 1 (by decide) hlink rfl rfl dg k
theorem g14_0 (h : Ok X cc own d) (hlink : Cond.fieldLink own index "FarSums$Polynomial" "numbers" "[J" ∈ tb) (dg : decode cc pc = .ok (.getfield index, 3)) (k : Wx X S (pc + 3) lv (.ref (aD (xw X) 15) :: st)) : Wx X S pc lv (.ref (aD (xw X) 14) :: st) := r_get h 14 (pl_14 _ _) rfl inT3 0 (by decide) hlink rfl rfl dg k
theorem g16_0 (h : Ok X cc own d) (hlink : Cond.fieldLink own index "FarSums$Trail" "points" "LFarSums$Points;" ∈ tb) (dg : decode cc pc = .ok (.getfield index, 3)) (k : Wx X S (pc + 3) lv (.ref (aD (xw X) 1) :: st)) : Wx X S pc lv (.ref (aD (xw X) 16) :: st) := r_get h 16 (pl_16 _ _) rfl inT5 0 (by decide) hlink rfl rfl dg k
theorem g16_1 (h : Ok X cc own d) (hlink : Cond.fieldLink own index "FarSums$Trail" "boxes" "LFarSums$Boxes;" ∈ tb) (dg : decode cc pc = .ok (.getfield index, 3)) (k : Wx X S (pc + 3) lv (.ref (aD (xw X) 8) :: st)) : Wx X S pc lv (.ref (aD (xw X) 16) :: st) := r_get h 16 (pl_16 _ _) rfl inT5 1 (by decide) hlink rfl rfl dg k
theorem g16_2 (h : Ok X cc own d) (hlink : Cond.fieldLink own index "FarSums$Trail" "level" "[I" ∈ tb) (dg : decode cc pc = .ok (.getfield index, 3)) (k : Wx X S (pc + 3) lv (.ref (aD (xw X) 17) :: st)) : Wx X S pc lv (.ref (aD (xw X) 16) :: st) := r_get h 16 (pl_16 _ _) rfl inT5 2 (by decide) hlink rfl rfl dg k
theorem g16_3 (h : Ok X cc own d) (hlink : Cond.fieldLink own index "FarSums$Trail" "first" "[I" ∈ tb) (dg : decode cc pc = .ok (.getfield index, 3)) (k : Wx X S (pc + 3) lv (.ref (aD (xw X) 18) :: st)) : Wx X S pc lv (.ref (aD (xw X) 16) :: st) := r_get h 16 (pl_16 _ _) rfl inT5 3 (by decide) hlink rfl rfl dg k
theorem g16_4 (h : Ok X cc own d) (hlink : Cond.fieldLink own index "FarSums$Trail" "second" "[I" ∈ tb) (dg : decode cc pc = .ok (.getfield index, 3)) (k : Wx X S (pc + 3) lv (.ref (aD (xw X) 19) :: st)) : Wx X S pc lv (.ref (aD (xw X) 16) :: st) := r_get h 16 (pl_16 _ _) rfl inT5 4 (by decide) hlink rfl rfl dg k
theorem g16_5 (h : Ok X cc own d) (hlink : Cond.fieldLink own index "FarSums$Trail" "length" "I" ∈ tb) (dg : decode cc pc = .ok (.getfield index, 3)) (k : Wx X S (pc + 3) lv (.int (S.1 13 0) :: st)) : Wx X S pc lv (.ref (aD (xw X) 16) :: st) := r_get h 16 (pl_16 _ _) rfl inT5 5 (by decide) hlink rfl rfl dg k
theorem p16_5 {v : Int32} (h : Ok X cc own d) (hlink : Cond.fieldLink own index "FarSums$Trail" "length" "I" ∈ tb) (dg : decode cc pc = .ok (.putfield index, 3)) (k : Wx X (sI S 13 0 v) (pc + 3) lv st) : Wx X S pc lv (.int v :: .ref (aD (xw X) 16) :: st) := r_put (ty := .int) (sI S 13 0 v) h 16 (pl_16 _ _) rfl inT5 tyX5 tyX5_ok nmX5 5 (by decide) hlink rfl rfl (by decide +kernel) rfl rfl (Nat.le_of_ble_eq_true rfl) rfl dg k
theorem g16_6 (h : Ok X cc own d) (hlink : Cond.fieldLink own index "FarSums$Trail" "placeX" "I" ∈ tb) (dg : decode cc pc = .ok (.getfield index, 3)) (k : Wx X S (pc + 3) lv (.int (S.1 14 0) :: st)) : Wx X S pc lv (.ref (aD (xw X) 16) :: st) := r_get h 16 (pl_16 _ _) rfl inT5 6 (by decide) hlink rfl rfl dg k
theorem p16_6 {v : Int32} (h : Ok X cc own d) (hlink : Cond.fieldLink own index "FarSums$Trail" "placeX" "I" ∈ tb) (dg : decode cc pc = .ok (.putfield index, 3)) (k : Wx X (sI S 14 0 v) (pc + 3) lv st) : Wx X S pc lv (.int v :: .ref (aD (xw X) 16) :: st) := r_put (ty := .int) (sI S 14 0 v) h 16 (pl_16 _ _) rfl inT5 tyX5 tyX5_ok nmX5 6 (by decide) hlink rfl rfl (by decide +kernel) rfl rfl (Nat.le_of_ble_eq_true rfl) rfl dg k
theorem g16_7 (h : Ok X cc own d) (hlink : Cond.fieldLink own index "FarSums$Trail" "placeY" "I" ∈ tb) (dg : decode cc pc = .ok (.getfield index, 3)) (k : Wx X S (pc + 3) lv (.int (S.1 15 0) :: st)) : Wx X S pc lv (.ref (aD (xw X) 16) :: st) := r_get h 16 (pl_16 _ _) rfl inT5 7 (by decide) hlink rfl rfl dg k
theorem p16_7 {v : Int32} (h : Ok X cc own d) (hlink : Cond.fieldLink own index "FarSums$Trail" "placeY" "I" ∈ tb) (dg : decode cc pc = .ok (.putfield index, 3)) (k : Wx X (sI S 15 0 v) (pc + 3) lv st) : Wx X S pc lv (.int v :: .ref (aD (xw X) 16) :: st) := r_put (ty := .int) (sI S 15 0 v) h 16 (pl_16 _ _) rfl inT5 tyX5 tyX5_ok nmX5 7 (by decide) hlink rfl rfl (by decide +kernel) rfl rfl (Nat.le_of_ble_eq_true rfl) rfl dg k
theorem g16_8 (h : Ok X cc own d) (hlink : Cond.fieldLink own index "FarSums$Trail" "distance" "I" ∈ tb) (dg : decode cc pc = .ok (.getfield index, 3)) (k : Wx X S (pc + 3) lv (.int (S.1 16 0) :: st)) : Wx X S pc lv (.ref (aD (xw X) 16) :: st) := r_get h 16 (pl_16 _ _) rfl inT5 8 (by decide) hlink rfl rfl dg k
theorem p16_8 {v : Int32} (h : Ok X cc own d) (hlink : Cond.fieldLink own index "FarSums$Trail" "distance" "I" ∈ tb) (dg : decode cc pc = .ok (.putfield index, 3)) (k : Wx X (sI S 16 0 v) (pc + 3) lv st) : Wx X S pc lv (.int v :: .ref (aD (xw X) 16) :: st) := r_put (ty := .int) (sI S 16 0 v) h 16 (pl_16 _ _) rfl inT5 tyX5 tyX5_ok nmX5 8 (by decide) hlink rfl rfl (by decide +kernel) rfl rfl (Nat.le_of_ble_eq_true rfl) rfl dg k
theorem g20_0 (h : Ok X cc own d) (hlink : Cond.fieldLink own index "FarSums$Motion" "points" "LFarSums$Points;" ∈ tb) (dg : decode cc pc = .ok (.getfield index, 3)) (k : Wx X S (pc + 3) lv (.ref (aD (xw X) 1) :: st)) : Wx X S pc lv (.ref (aD (xw X) 20) :: st) := r_get h 20 (pl_20 _ _) rfl inT1 0 (by decide) hlink rfl rfl dg k
theorem g20_1 (h : Ok X cc own d) (hlink : Cond.fieldLink own index "FarSums$Motion" "boxes" "LFarSums$Boxes;" ∈ tb) (dg : decode cc pc = .ok (.getfield index, 3)) (k : Wx X S (pc + 3) lv (.ref (aD (xw X) 8) :: st)) : Wx X S pc lv (.ref (aD (xw X) 20) :: st) := r_get h 20 (pl_20 _ _) rfl inT1 1 (by decide) hlink rfl rfl dg k
theorem g20_2 (h : Ok X cc own d) (hlink : Cond.fieldLink own index "FarSums$Motion" "series" "LFarSums$Series;" ∈ tb) (dg : decode cc pc = .ok (.getfield index, 3)) (k : Wx X S (pc + 3) lv (.ref (aD (xw X) 13) :: st)) : Wx X S pc lv (.ref (aD (xw X) 20) :: st) := r_get h 20 (pl_20 _ _) rfl inT1 2 (by decide) hlink rfl rfl dg k
theorem g20_3 (h : Ok X cc own d) (hlink : Cond.fieldLink own index "FarSums$Motion" "pushX" "[I" ∈ tb) (dg : decode cc pc = .ok (.getfield index, 3)) (k : Wx X S (pc + 3) lv (.ref (aD (xw X) 21) :: st)) : Wx X S pc lv (.ref (aD (xw X) 20) :: st) := r_get h 20 (pl_20 _ _) rfl inT1 3 (by decide) hlink rfl rfl dg k
theorem g20_4 (h : Ok X cc own d) (hlink : Cond.fieldLink own index "FarSums$Motion" "pushY" "[I" ∈ tb) (dg : decode cc pc = .ok (.getfield index, 3)) (k : Wx X S (pc + 3) lv (.ref (aD (xw X) 22) :: st)) : Wx X S pc lv (.ref (aD (xw X) 20) :: st) := r_get h 20 (pl_20 _ _) rfl inT1 4 (by decide) hlink rfl rfl dg k
theorem g20_5 (h : Ok X cc own d) (hlink : Cond.fieldLink own index "FarSums$Motion" "steps" "I" ∈ tb) (dg : decode cc pc = .ok (.getfield index, 3)) (k : Wx X S (pc + 3) lv (.int (S.1 19 0) :: st)) : Wx X S pc lv (.ref (aD (xw X) 20) :: st) := r_get h 20 (pl_20 _ _) rfl inT1 5 (by decide) hlink rfl rfl dg k
theorem p20_5 {v : Int32} (h : Ok X cc own d) (hlink : Cond.fieldLink own index "FarSums$Motion" "steps" "I" ∈ tb) (dg : decode cc pc = .ok (.putfield index, 3)) (k : Wx X (sI S 19 0 v) (pc + 3) lv st) : Wx X S pc lv (.int v :: .ref (aD (xw X) 20) :: st) := r_put (ty := .int) (sI S 19 0 v) h 20 (pl_20 _ _) rfl inT1 tyX1 tyX1_ok nmX1 5 (by decide) hlink rfl rfl (by decide +kernel) rfl rfl (Nat.le_of_ble_eq_true rfl) rfl dg k
theorem g23_0 (h : Ok X cc own d) (hlink : Cond.fieldLink own index "FarSumsModel" "there" "[Z" ∈ tb) (dg : decode cc pc = .ok (.getfield index, 3)) (k : Wx X S (pc + 3) lv (.ref (aD (xw X) 24) :: st)) : Wx X S pc lv (.ref (aD (xw X) 23) :: st) := r_get h 23 (pl_23 _ _) rfl inT7 0 (by decide) hlink rfl rfl dg k
theorem g23_1 (h : Ok X cc own d) (hlink : Cond.fieldLink own index "FarSumsModel" "px" "[I" ∈ tb) (dg : decode cc pc = .ok (.getfield index, 3)) (k : Wx X S (pc + 3) lv (.ref (aD (xw X) 25) :: st)) : Wx X S pc lv (.ref (aD (xw X) 23) :: st) := r_get h 23 (pl_23 _ _) rfl inT7 1 (by decide) hlink rfl rfl dg k
theorem g23_2 (h : Ok X cc own d) (hlink : Cond.fieldLink own index "FarSumsModel" "py" "[I" ∈ tb) (dg : decode cc pc = .ok (.getfield index, 3)) (k : Wx X S (pc + 3) lv (.ref (aD (xw X) 26) :: st)) : Wx X S pc lv (.ref (aD (xw X) 23) :: st) := r_get h 23 (pl_23 _ _) rfl inT7 2 (by decide) hlink rfl rfl dg k
theorem g23_3 (h : Ok X cc own d) (hlink : Cond.fieldLink own index "FarSumsModel" "weight" "[I" ∈ tb) (dg : decode cc pc = .ok (.getfield index, 3)) (k : Wx X S (pc + 3) lv (.ref (aD (xw X) 27) :: st)) : Wx X S pc lv (.ref (aD (xw X) 23) :: st) := r_get h 23 (pl_23 _ _) rfl inT7 3 (by decide) hlink rfl rfl dg k
theorem g23_4 (h : Ok X cc own d) (hlink : Cond.fieldLink own index "FarSumsModel" "vx" "[I" ∈ tb) (dg : decode cc pc = .ok (.getfield index, 3)) (k : Wx X S (pc + 3) lv (.ref (aD (xw X) 28) :: st)) : Wx X S pc lv (.ref (aD (xw X) 23) :: st) := r_get h 23 (pl_23 _ _) rfl inT7 4 (by decide) hlink rfl rfl dg k
theorem g23_5 (h : Ok X cc own d) (hlink : Cond.fieldLink own index "FarSumsModel" "vy" "[I" ∈ tb) (dg : decode cc pc = .ok (.getfield index, 3)) (k : Wx X S (pc + 3) lv (.ref (aD (xw X) 29) :: st)) : Wx X S pc lv (.ref (aD (xw X) 23) :: st) := r_get h 23 (pl_23 _ _) rfl inT7 5 (by decide) hlink rfl rfl dg k
theorem g23_6 (h : Ok X cc own d) (hlink : Cond.fieldLink own index "FarSumsModel" "kernel" "[I" ∈ tb) (dg : decode cc pc = .ok (.getfield index, 3)) (k : Wx X S (pc + 3) lv (.ref (aD (xw X) 30) :: st)) : Wx X S pc lv (.ref (aD (xw X) 23) :: st) := r_get h 23 (pl_23 _ _) rfl inT7 6 (by decide) hlink rfl rfl dg k
theorem g23_7 (h : Ok X cc own d) (hlink : Cond.fieldLink own index "FarSumsModel" "most" "I" ∈ tb) (dg : decode cc pc = .ok (.getfield index, 3)) (k : Wx X S (pc + 3) lv (.int (S.1 27 0) :: st)) : Wx X S pc lv (.ref (aD (xw X) 23) :: st) := r_get h 23 (pl_23 _ _) rfl inT7 7 (by decide) hlink rfl rfl dg k
theorem p23_7 {v : Int32} (h : Ok X cc own d) (hlink : Cond.fieldLink own index "FarSumsModel" "most" "I" ∈ tb) (dg : decode cc pc = .ok (.putfield index, 3)) (k : Wx X (sI S 27 0 v) (pc + 3) lv st) : Wx X S pc lv (.int v :: .ref (aD (xw X) 23) :: st) := r_put (ty := .int) (sI S 27 0 v) h 23 (pl_23 _ _) rfl inT7 tyX7 tyX7_ok nmX7 7 (by decide) hlink rfl rfl (by decide +kernel) rfl rfl (Nat.le_of_ble_eq_true rfl) rfl dg k
theorem g23_8 (h : Ok X cc own d) (hlink : Cond.fieldLink own index "FarSumsModel" "steps" "I" ∈ tb) (dg : decode cc pc = .ok (.getfield index, 3)) (k : Wx X S (pc + 3) lv (.int (S.1 28 0) :: st)) : Wx X S pc lv (.ref (aD (xw X) 23) :: st) := r_get h 23 (pl_23 _ _) rfl inT7 8 (by decide) hlink rfl rfl dg k
theorem p23_8 {v : Int32} (h : Ok X cc own d) (hlink : Cond.fieldLink own index "FarSumsModel" "steps" "I" ∈ tb) (dg : decode cc pc = .ok (.putfield index, 3)) (k : Wx X (sI S 28 0 v) (pc + 3) lv st) : Wx X S pc lv (.int v :: .ref (aD (xw X) 23) :: st) := r_put (ty := .int) (sI S 28 0 v) h 23 (pl_23 _ _) rfl inT7 tyX7 tyX7_ok nmX7 8 (by decide) hlink rfl rfl (by decide +kernel) rfl rfl (Nat.le_of_ble_eq_true rfl) rfl dg k
theorem g23_9 (h : Ok X cc own d) (hlink : Cond.fieldLink own index "FarSumsModel" "stackLevel" "[I" ∈ tb) (dg : decode cc pc = .ok (.getfield index, 3)) (k : Wx X S (pc + 3) lv (.ref (aD (xw X) 31) :: st)) : Wx X S pc lv (.ref (aD (xw X) 23) :: st) := r_get h 23 (pl_23 _ _) rfl inT7 9 (by decide) hlink rfl rfl dg k
theorem g23_10 (h : Ok X cc own d) (hlink : Cond.fieldLink own index "FarSumsModel" "stackI" "[I" ∈ tb) (dg : decode cc pc = .ok (.getfield index, 3)) (k : Wx X S (pc + 3) lv (.ref (aD (xw X) 32) :: st)) : Wx X S pc lv (.ref (aD (xw X) 23) :: st) := r_get h 23 (pl_23 _ _) rfl inT7 10 (by decide) hlink rfl rfl dg k
theorem g23_11 (h : Ok X cc own d) (hlink : Cond.fieldLink own index "FarSumsModel" "stackJ" "[I" ∈ tb) (dg : decode cc pc = .ok (.getfield index, 3)) (k : Wx X S (pc + 3) lv (.ref (aD (xw X) 33) :: st)) : Wx X S pc lv (.ref (aD (xw X) 23) :: st) := r_get h 23 (pl_23 _ _) rfl inT7 11 (by decide) hlink rfl rfl dg k
theorem g23_12 (h : Ok X cc own d) (hlink : Cond.fieldLink own index "FarSumsModel" "wayLevel" "[I" ∈ tb) (dg : decode cc pc = .ok (.getfield index, 3)) (k : Wx X S (pc + 3) lv (.ref (aD (xw X) 34) :: st)) : Wx X S pc lv (.ref (aD (xw X) 23) :: st) := r_get h 23 (pl_23 _ _) rfl inT7 12 (by decide) hlink rfl rfl dg k
theorem g23_13 (h : Ok X cc own d) (hlink : Cond.fieldLink own index "FarSumsModel" "wayI" "[I" ∈ tb) (dg : decode cc pc = .ok (.getfield index, 3)) (k : Wx X S (pc + 3) lv (.ref (aD (xw X) 35) :: st)) : Wx X S pc lv (.ref (aD (xw X) 23) :: st) := r_get h 23 (pl_23 _ _) rfl inT7 13 (by decide) hlink rfl rfl dg k
theorem g23_14 (h : Ok X cc own d) (hlink : Cond.fieldLink own index "FarSumsModel" "wayJ" "[I" ∈ tb) (dg : decode cc pc = .ok (.getfield index, 3)) (k : Wx X S (pc + 3) lv (.ref (aD (xw X) 36) :: st)) : Wx X S pc lv (.ref (aD (xw X) 23) :: st) := r_get h 23 (pl_23 _ _) rfl inT7 14 (by decide) hlink rfl rfl dg k
theorem g23_15 (h : Ok X cc own d) (hlink : Cond.fieldLink own index "FarSumsModel" "wayMany" "I" ∈ tb) (dg : decode cc pc = .ok (.getfield index, 3)) (k : Wx X S (pc + 3) lv (.int (S.1 35 0) :: st)) : Wx X S pc lv (.ref (aD (xw X) 23) :: st) := r_get h 23 (pl_23 _ _) rfl inT7 15 (by decide) hlink rfl rfl dg k
theorem p23_15 {v : Int32} (h : Ok X cc own d) (hlink : Cond.fieldLink own index "FarSumsModel" "wayMany" "I" ∈ tb) (dg : decode cc pc = .ok (.putfield index, 3)) (k : Wx X (sI S 35 0 v) (pc + 3) lv st) : Wx X S pc lv (.int v :: .ref (aD (xw X) 23) :: st) := r_put (ty := .int) (sI S 35 0 v) h 23 (pl_23 _ _) rfl inT7 tyX7 tyX7_ok nmX7 15 (by decide) hlink rfl rfl (by decide +kernel) rfl rfl (Nat.le_of_ble_eq_true rfl) rfl dg k
theorem g23_16 (h : Ok X cc own d) (hlink : Cond.fieldLink own index "FarSumsModel" "about" "J" ∈ tb) (dg : decode cc pc = .ok (.getfield index, 3)) (k : Wx X S (pc + 3) lv (.long (S.2 3 0) :: st)) : Wx X S pc lv (.ref (aD (xw X) 23) :: st) := r_get h 23 (pl_23 _ _) rfl inT7 16 (by decide) hlink rfl rfl dg k
theorem p23_16 {v : Int64} (h : Ok X cc own d) (hlink : Cond.fieldLink own index "FarSumsModel" "about" "J" ∈ tb) (dg : decode cc pc = .ok (.putfield index, 3)) (k : Wx X (sJ S 3 0 v) (pc + 3) lv st) : Wx X S pc lv (.long v :: .ref (aD (xw X) 23) :: st) := r_put (ty := .long) (sJ S 3 0 v) h 23 (pl_23 _ _) rfl inT7 tyX7 tyX7_ok nmX7 16 (by decide) hlink rfl rfl (by decide +kernel) rfl rfl (Nat.le_of_ble_eq_true rfl) rfl dg k
theorem g23_17 (h : Ok X cc own d) (hlink : Cond.fieldLink own index "FarSumsModel" "end" "J" ∈ tb) (dg : decode cc pc = .ok (.getfield index, 3)) (k : Wx X S (pc + 3) lv (.long (S.2 4 0) :: st)) : Wx X S pc lv (.ref (aD (xw X) 23) :: st) := r_get h 23 (pl_23 _ _) rfl inT7 17 (by decide) hlink rfl rfl dg k
theorem p23_17 {v : Int64} (h : Ok X cc own d) (hlink : Cond.fieldLink own index "FarSumsModel" "end" "J" ∈ tb) (dg : decode cc pc = .ok (.putfield index, 3)) (k : Wx X (sJ S 4 0 v) (pc + 3) lv st) : Wx X S pc lv (.long v :: .ref (aD (xw X) 23) :: st) := r_put (ty := .long) (sJ S 4 0 v) h 23 (pl_23 _ _) rfl inT7 tyX7 tyX7_ok nmX7 17 (by decide) hlink rfl rfl (by decide +kernel) rfl rfl (Nat.le_of_ble_eq_true rfl) rfl dg k
theorem g23_18 (h : Ok X cc own d) (hlink : Cond.fieldLink own index "FarSumsModel" "pushX" "[I" ∈ tb) (dg : decode cc pc = .ok (.getfield index, 3)) (k : Wx X S (pc + 3) lv (.ref (aD (xw X) 37) :: st)) : Wx X S pc lv (.ref (aD (xw X) 23) :: st) := r_get h 23 (pl_23 _ _) rfl inT7 18 (by decide) hlink rfl rfl dg k
theorem g23_19 (h : Ok X cc own d) (hlink : Cond.fieldLink own index "FarSumsModel" "pushY" "[I" ∈ tb) (dg : decode cc pc = .ok (.getfield index, 3)) (k : Wx X S (pc + 3) lv (.ref (aD (xw X) 38) :: st)) : Wx X S pc lv (.ref (aD (xw X) 23) :: st) := r_get h 23 (pl_23 _ _) rfl inT7 19 (by decide) hlink rfl rfl dg k
theorem al_2 {i : Int32} (h : Ok X cc own d) (hin : vp_in i 40) (dg : decode cc pc = .ok (.baload, 1)) (k : Wx X S (pc + 1) lv (.int (S.1 0 i.toNatClampNeg) :: st)) : Wx X S pc lv (.int i :: .ref (aD (xw X) 2) :: st) := fun H locs ls hP hS hl => va_zald h.1 h.2.1 h.2.2.2.2.2.2.1.1 hP 2 2 (pl_2 _ _) rfl hin dg (k H locs ls hP hS hl)
theorem as_2 {i : Int32} {x : Int32} (h : Ok X cc own d) (hin : vp_in i 40) (dg : decode cc pc = .ok (.bastore, 1)) (k : Wx X (sI S 0 i.toNatClampNeg (vp_nar .boolean x)) (pc + 1) lv st) : Wx X S pc lv (.int x :: .int i :: .ref (aD (xw X) 2) :: st) := fun H locs ls hP hS hl => va_zast h.1 h.2.1 h.2.2.2.2.2.2.1.1 hP (h.2.2.2.2.2.2.1.2.2.2.2 S) hS 2 2 (pl_2 _ _) rfl hin dg (fun H1 locs1 hP1 _ hS1 => k H1 locs1 ls hP1 hS1 hl)
theorem al_3 {i : Int32} (h : Ok X cc own d) (hin : vp_in i 40) (dg : decode cc pc = .ok (.iaload, 1)) (k : Wx X S (pc + 1) lv (.int (S.1 1 i.toNatClampNeg) :: st)) : Wx X S pc lv (.int i :: .ref (aD (xw X) 3) :: st) := fun H locs ls hP hS hl => va_iald h.1 h.2.1 h.2.2.2.2.2.2.1.1 hP 3 0 (pl_3 _ _) rfl hin dg (k H locs ls hP hS hl)
theorem as_3 {i : Int32} {x : Int32} (h : Ok X cc own d) (hin : vp_in i 40) (dg : decode cc pc = .ok (.iastore, 1)) (k : Wx X (sI S 1 i.toNatClampNeg x) (pc + 1) lv st) : Wx X S pc lv (.int x :: .int i :: .ref (aD (xw X) 3) :: st) := fun H locs ls hP hS hl => va_iast h.1 h.2.1 h.2.2.2.2.2.2.1.1 hP (h.2.2.2.2.2.2.1.2.2.2.2 S) hS 3 0 (pl_3 _ _) rfl hin dg (fun H1 locs1 hP1 _ hS1 => k H1 locs1 ls hP1 hS1 hl)
theorem al_4 {i : Int32} (h : Ok X cc own d) (hin : vp_in i 40) (dg : decode cc pc = .ok (.iaload, 1)) (k : Wx X S (pc + 1) lv (.int (S.1 2 i.toNatClampNeg) :: st)) : Wx X S pc lv (.int i :: .ref (aD (xw X) 4) :: st) := fun H locs ls hP hS hl => va_iald h.1 h.2.1 h.2.2.2.2.2.2.1.1 hP 4 0 (pl_4 _ _) rfl hin dg (k H locs ls hP hS hl)
theorem as_4 {i : Int32} {x : Int32} (h : Ok X cc own d) (hin : vp_in i 40) (dg : decode cc pc = .ok (.iastore, 1)) (k : Wx X (sI S 2 i.toNatClampNeg x) (pc + 1) lv st) : Wx X S pc lv (.int x :: .int i :: .ref (aD (xw X) 4) :: st) := fun H locs ls hP hS hl => va_iast h.1 h.2.1 h.2.2.2.2.2.2.1.1 hP (h.2.2.2.2.2.2.1.2.2.2.2 S) hS 4 0 (pl_4 _ _) rfl hin dg (fun H1 locs1 hP1 _ hS1 => k H1 locs1 ls hP1 hS1 hl)
theorem al_5 {i : Int32} (h : Ok X cc own d) (hin : vp_in i 40) (dg : decode cc pc = .ok (.iaload, 1)) (k : Wx X S (pc + 1) lv (.int (S.1 3 i.toNatClampNeg) :: st)) : Wx X S pc lv (.int i :: .ref (aD (xw X) 5) :: st) := fun H locs ls hP hS hl => va_iald h.1 h.2.1 h.2.2.2.2.2.2.1.1 hP 5 0 (pl_5 _ _) rfl hin dg (k H locs ls hP hS hl)
theorem as_5 {i : Int32} {x : Int32} (h : Ok X cc own d) (hin : vp_in i 40) (dg : decode cc pc = .ok (.iastore, 1)) (k : Wx X (sI S 3 i.toNatClampNeg x) (pc + 1) lv st) : Wx X S pc lv (.int x :: .int i :: .ref (aD (xw X) 5) :: st) := fun H locs ls hP hS hl => va_iast h.1 h.2.1 h.2.2.2.2.2.2.1.1 hP (h.2.2.2.2.2.2.1.2.2.2.2 S) hS 5 0 (pl_5 _ _) rfl hin dg (fun H1 locs1 hP1 _ hS1 => k H1 locs1 ls hP1 hS1 hl)
theorem al_6 {i : Int32} (h : Ok X cc own d) (hin : vp_in i 40) (dg : decode cc pc = .ok (.iaload, 1)) (k : Wx X S (pc + 1) lv (.int (S.1 4 i.toNatClampNeg) :: st)) : Wx X S pc lv (.int i :: .ref (aD (xw X) 6) :: st) := fun H locs ls hP hS hl => va_iald h.1 h.2.1 h.2.2.2.2.2.2.1.1 hP 6 0 (pl_6 _ _) rfl hin dg (k H locs ls hP hS hl)
theorem as_6 {i : Int32} {x : Int32} (h : Ok X cc own d) (hin : vp_in i 40) (dg : decode cc pc = .ok (.iastore, 1)) (k : Wx X (sI S 4 i.toNatClampNeg x) (pc + 1) lv st) : Wx X S pc lv (.int x :: .int i :: .ref (aD (xw X) 6) :: st) := fun H locs ls hP hS hl => va_iast h.1 h.2.1 h.2.2.2.2.2.2.1.1 hP (h.2.2.2.2.2.2.1.2.2.2.2 S) hS 6 0 (pl_6 _ _) rfl hin dg (fun H1 locs1 hP1 _ hS1 => k H1 locs1 ls hP1 hS1 hl)
theorem al_7 {i : Int32} (h : Ok X cc own d) (hin : vp_in i 40) (dg : decode cc pc = .ok (.iaload, 1)) (k : Wx X S (pc + 1) lv (.int (S.1 5 i.toNatClampNeg) :: st)) : Wx X S pc lv (.int i :: .ref (aD (xw X) 7) :: st) := fun H locs ls hP hS hl => va_iald h.1 h.2.1 h.2.2.2.2.2.2.1.1 hP 7 0 (pl_7 _ _) rfl hin dg (k H locs ls hP hS hl)
theorem as_7 {i : Int32} {x : Int32} (h : Ok X cc own d) (hin : vp_in i 40) (dg : decode cc pc = .ok (.iastore, 1)) (k : Wx X (sI S 5 i.toNatClampNeg x) (pc + 1) lv st) : Wx X S pc lv (.int x :: .int i :: .ref (aD (xw X) 7) :: st) := fun H locs ls hP hS hl => va_iast h.1 h.2.1 h.2.2.2.2.2.2.1.1 hP (h.2.2.2.2.2.2.1.2.2.2.2 S) hS 7 0 (pl_7 _ _) rfl hin dg (fun H1 locs1 hP1 _ hS1 => k H1 locs1 ls hP1 hS1 hl)
theorem al_9 {i : Int32} (h : Ok X cc own d) (hin : vp_in i 1365) (dg : decode cc pc = .ok (.iaload, 1)) (k : Wx X S (pc + 1) lv (.int (S.1 7 i.toNatClampNeg) :: st)) : Wx X S pc lv (.int i :: .ref (aD (xw X) 9) :: st) := fun H locs ls hP hS hl => va_iald h.1 h.2.1 h.2.2.2.2.2.2.1.1 hP 9 0 (pl_9 _ _) rfl hin dg (k H locs ls hP hS hl)
theorem as_9 {i : Int32} {x : Int32} (h : Ok X cc own d) (hin : vp_in i 1365) (dg : decode cc pc = .ok (.iastore, 1)) (k : Wx X (sI S 7 i.toNatClampNeg x) (pc + 1) lv st) : Wx X S pc lv (.int x :: .int i :: .ref (aD (xw X) 9) :: st) := fun H locs ls hP hS hl => va_iast h.1 h.2.1 h.2.2.2.2.2.2.1.1 hP (h.2.2.2.2.2.2.1.2.2.2.2 S) hS 9 0 (pl_9 _ _) rfl hin dg (fun H1 locs1 hP1 _ hS1 => k H1 locs1 ls hP1 hS1 hl)
theorem al_10 {i : Int32} (h : Ok X cc own d) (hin : vp_in i 25) (dg : decode cc pc = .ok (.laload, 1)) (k : Wx X S (pc + 1) lv (.long (S.2 0 i.toNatClampNeg) :: st)) : Wx X S pc lv (.int i :: .ref (aD (xw X) 10) :: st) := fun H locs ls hP hS hl => va_lald h.1 h.2.1 h.2.2.2.2.2.2.1.1 hP 10 1 (pl_10 _ _) rfl hin dg (k H locs ls hP hS hl)
theorem as_10 {i : Int32} {x : Int64} (h : Ok X cc own d) (hin : vp_in i 25) (dg : decode cc pc = .ok (.lastore, 1)) (k : Wx X (sJ S 0 i.toNatClampNeg x) (pc + 1) lv st) : Wx X S pc lv (.long x :: .int i :: .ref (aD (xw X) 10) :: st) := fun H locs ls hP hS hl => va_last h.1 h.2.1 h.2.2.2.2.2.2.1.1 hP (h.2.2.2.2.2.2.1.2.2.2.2 S) hS 10 1 (pl_10 _ _) rfl hin dg (fun H1 locs1 hP1 _ hS1 => k H1 locs1 ls hP1 hS1 hl)
theorem al_12 {i : Int32} (h : Ok X cc own d) (hin : vp_in i 25) (dg : decode cc pc = .ok (.laload, 1)) (k : Wx X S (pc + 1) lv (.long (S.2 1 i.toNatClampNeg) :: st)) : Wx X S pc lv (.int i :: .ref (aD (xw X) 12) :: st) := fun H locs ls hP hS hl => va_lald h.1 h.2.1 h.2.2.2.2.2.2.1.1 hP 12 1 (pl_12 _ _) rfl hin dg (k H locs ls hP hS hl)
theorem as_12 {i : Int32} {x : Int64} (h : Ok X cc own d) (hin : vp_in i 25) (dg : decode cc pc = .ok (.lastore, 1)) (k : Wx X (sJ S 1 i.toNatClampNeg x) (pc + 1) lv st) : Wx X S pc lv (.long x :: .int i :: .ref (aD (xw X) 12) :: st) := fun H locs ls hP hS hl => va_last h.1 h.2.1 h.2.2.2.2.2.2.1.1 hP (h.2.2.2.2.2.2.1.2.2.2.2 S) hS 12 1 (pl_12 _ _) rfl hin dg (fun H1 locs1 hP1 _ hS1 => k H1 locs1 ls hP1 hS1 hl)
theorem al_15 {i : Int32} (h : Ok X cc own d) (hin : vp_in i 25) (dg : decode cc pc = .ok (.laload, 1)) (k : Wx X S (pc + 1) lv (.long (S.2 2 i.toNatClampNeg) :: st)) : Wx X S pc lv (.int i :: .ref (aD (xw X) 15) :: st) := fun H locs ls hP hS hl => va_lald h.1 h.2.1 h.2.2.2.2.2.2.1.1 hP 15 1 (pl_15 _ _) rfl hin dg (k H locs ls hP hS hl)
theorem as_15 {i : Int32} {x : Int64} (h : Ok X cc own d) (hin : vp_in i 25) (dg : decode cc pc = .ok (.lastore, 1)) (k : Wx X (sJ S 2 i.toNatClampNeg x) (pc + 1) lv st) : Wx X S pc lv (.long x :: .int i :: .ref (aD (xw X) 15) :: st) := fun H locs ls hP hS hl => va_last h.1 h.2.1 h.2.2.2.2.2.2.1.1 hP (h.2.2.2.2.2.2.1.2.2.2.2 S) hS 15 1 (pl_15 _ _) rfl hin dg (fun H1 locs1 hP1 _ hS1 => k H1 locs1 ls hP1 hS1 hl)
theorem al_17 {i : Int32} (h : Ok X cc own d) (hin : vp_in i 40) (dg : decode cc pc = .ok (.iaload, 1)) (k : Wx X S (pc + 1) lv (.int (S.1 10 i.toNatClampNeg) :: st)) : Wx X S pc lv (.int i :: .ref (aD (xw X) 17) :: st) := fun H locs ls hP hS hl => va_iald h.1 h.2.1 h.2.2.2.2.2.2.1.1 hP 17 0 (pl_17 _ _) rfl hin dg (k H locs ls hP hS hl)
theorem as_17 {i : Int32} {x : Int32} (h : Ok X cc own d) (hin : vp_in i 40) (dg : decode cc pc = .ok (.iastore, 1)) (k : Wx X (sI S 10 i.toNatClampNeg x) (pc + 1) lv st) : Wx X S pc lv (.int x :: .int i :: .ref (aD (xw X) 17) :: st) := fun H locs ls hP hS hl => va_iast h.1 h.2.1 h.2.2.2.2.2.2.1.1 hP (h.2.2.2.2.2.2.1.2.2.2.2 S) hS 17 0 (pl_17 _ _) rfl hin dg (fun H1 locs1 hP1 _ hS1 => k H1 locs1 ls hP1 hS1 hl)
theorem al_18 {i : Int32} (h : Ok X cc own d) (hin : vp_in i 40) (dg : decode cc pc = .ok (.iaload, 1)) (k : Wx X S (pc + 1) lv (.int (S.1 11 i.toNatClampNeg) :: st)) : Wx X S pc lv (.int i :: .ref (aD (xw X) 18) :: st) := fun H locs ls hP hS hl => va_iald h.1 h.2.1 h.2.2.2.2.2.2.1.1 hP 18 0 (pl_18 _ _) rfl hin dg (k H locs ls hP hS hl)
theorem as_18 {i : Int32} {x : Int32} (h : Ok X cc own d) (hin : vp_in i 40) (dg : decode cc pc = .ok (.iastore, 1)) (k : Wx X (sI S 11 i.toNatClampNeg x) (pc + 1) lv st) : Wx X S pc lv (.int x :: .int i :: .ref (aD (xw X) 18) :: st) := fun H locs ls hP hS hl => va_iast h.1 h.2.1 h.2.2.2.2.2.2.1.1 hP (h.2.2.2.2.2.2.1.2.2.2.2 S) hS 18 0 (pl_18 _ _) rfl hin dg (fun H1 locs1 hP1 _ hS1 => k H1 locs1 ls hP1 hS1 hl)
theorem al_19 {i : Int32} (h : Ok X cc own d) (hin : vp_in i 40) (dg : decode cc pc = .ok (.iaload, 1)) (k : Wx X S (pc + 1) lv (.int (S.1 12 i.toNatClampNeg) :: st)) : Wx X S pc lv (.int i :: .ref (aD (xw X) 19) :: st) := fun H locs ls hP hS hl => va_iald h.1 h.2.1 h.2.2.2.2.2.2.1.1 hP 19 0 (pl_19 _ _) rfl hin dg (k H locs ls hP hS hl)
theorem as_19 {i : Int32} {x : Int32} (h : Ok X cc own d) (hin : vp_in i 40) (dg : decode cc pc = .ok (.iastore, 1)) (k : Wx X (sI S 12 i.toNatClampNeg x) (pc + 1) lv st) : Wx X S pc lv (.int x :: .int i :: .ref (aD (xw X) 19) :: st) := fun H locs ls hP hS hl => va_iast h.1 h.2.1 h.2.2.2.2.2.2.1.1 hP (h.2.2.2.2.2.2.1.2.2.2.2 S) hS 19 0 (pl_19 _ _) rfl hin dg (fun H1 locs1 hP1 _ hS1 => k H1 locs1 ls hP1 hS1 hl)
theorem al_21 {i : Int32} (h : Ok X cc own d) (hin : vp_in i 40) (dg : decode cc pc = .ok (.iaload, 1)) (k : Wx X S (pc + 1) lv (.int (S.1 17 i.toNatClampNeg) :: st)) : Wx X S pc lv (.int i :: .ref (aD (xw X) 21) :: st) := fun H locs ls hP hS hl => va_iald h.1 h.2.1 h.2.2.2.2.2.2.1.1 hP 21 0 (pl_21 _ _) rfl hin dg (k H locs ls hP hS hl)
theorem as_21 {i : Int32} {x : Int32} (h : Ok X cc own d) (hin : vp_in i 40) (dg : decode cc pc = .ok (.iastore, 1)) (k : Wx X (sI S 17 i.toNatClampNeg x) (pc + 1) lv st) : Wx X S pc lv (.int x :: .int i :: .ref (aD (xw X) 21) :: st) := fun H locs ls hP hS hl => va_iast h.1 h.2.1 h.2.2.2.2.2.2.1.1 hP (h.2.2.2.2.2.2.1.2.2.2.2 S) hS 21 0 (pl_21 _ _) rfl hin dg (fun H1 locs1 hP1 _ hS1 => k H1 locs1 ls hP1 hS1 hl)
theorem al_22 {i : Int32} (h : Ok X cc own d) (hin : vp_in i 40) (dg : decode cc pc = .ok (.iaload, 1)) (k : Wx X S (pc + 1) lv (.int (S.1 18 i.toNatClampNeg) :: st)) : Wx X S pc lv (.int i :: .ref (aD (xw X) 22) :: st) := fun H locs ls hP hS hl => va_iald h.1 h.2.1 h.2.2.2.2.2.2.1.1 hP 22 0 (pl_22 _ _) rfl hin dg (k H locs ls hP hS hl)
theorem as_22 {i : Int32} {x : Int32} (h : Ok X cc own d) (hin : vp_in i 40) (dg : decode cc pc = .ok (.iastore, 1)) (k : Wx X (sI S 18 i.toNatClampNeg x) (pc + 1) lv st) : Wx X S pc lv (.int x :: .int i :: .ref (aD (xw X) 22) :: st) := fun H locs ls hP hS hl => va_iast h.1 h.2.1 h.2.2.2.2.2.2.1.1 hP (h.2.2.2.2.2.2.1.2.2.2.2 S) hS 22 0 (pl_22 _ _) rfl hin dg (fun H1 locs1 hP1 _ hS1 => k H1 locs1 ls hP1 hS1 hl)
theorem al_24 {i : Int32} (h : Ok X cc own d) (hin : vp_in i 40) (dg : decode cc pc = .ok (.baload, 1)) (k : Wx X S (pc + 1) lv (.int (S.1 20 i.toNatClampNeg) :: st)) : Wx X S pc lv (.int i :: .ref (aD (xw X) 24) :: st) := fun H locs ls hP hS hl => va_zald h.1 h.2.1 h.2.2.2.2.2.2.1.1 hP 24 2 (pl_24 _ _) rfl hin dg (k H locs ls hP hS hl)
theorem as_24 {i : Int32} {x : Int32} (h : Ok X cc own d) (hin : vp_in i 40) (dg : decode cc pc = .ok (.bastore, 1)) (k : Wx X (sI S 20 i.toNatClampNeg (vp_nar .boolean x)) (pc + 1) lv st) : Wx X S pc lv (.int x :: .int i :: .ref (aD (xw X) 24) :: st) := fun H locs ls hP hS hl => va_zast h.1 h.2.1 h.2.2.2.2.2.2.1.1 hP (h.2.2.2.2.2.2.1.2.2.2.2 S) hS 24 2 (pl_24 _ _) rfl hin dg (fun H1 locs1 hP1 _ hS1 => k H1 locs1 ls hP1 hS1 hl)
theorem al_25 {i : Int32} (h : Ok X cc own d) (hin : vp_in i 40) (dg : decode cc pc = .ok (.iaload, 1)) (k : Wx X S (pc + 1) lv (.int (S.1 21 i.toNatClampNeg) :: st)) : Wx X S pc lv (.int i :: .ref (aD (xw X) 25) :: st) := fun H locs ls hP hS hl => va_iald h.1 h.2.1 h.2.2.2.2.2.2.1.1 hP 25 0 (pl_25 _ _) rfl hin dg (k H locs ls hP hS hl)
theorem as_25 {i : Int32} {x : Int32} (h : Ok X cc own d) (hin : vp_in i 40) (dg : decode cc pc = .ok (.iastore, 1)) (k : Wx X (sI S 21 i.toNatClampNeg x) (pc + 1) lv st) : Wx X S pc lv (.int x :: .int i :: .ref (aD (xw X) 25) :: st) := fun H locs ls hP hS hl => va_iast h.1 h.2.1 h.2.2.2.2.2.2.1.1 hP (h.2.2.2.2.2.2.1.2.2.2.2 S) hS 25 0 (pl_25 _ _) rfl hin dg (fun H1 locs1 hP1 _ hS1 => k H1 locs1 ls hP1 hS1 hl)
theorem al_26 {i : Int32} (h : Ok X cc own d) (hin : vp_in i 40) (dg : decode cc pc = .ok (.iaload, 1)) (k : Wx X S (pc + 1) lv (.int (S.1 22 i.toNatClampNeg) :: st)) : Wx X S pc lv (.int i :: .ref (aD (xw X) 26) :: st) := fun H locs ls hP hS hl => va_iald h.1 h.2.1 h.2.2.2.2.2.2.1.1 hP 26 0 (pl_26 _ _) rfl hin dg (k H locs ls hP hS hl)
theorem as_26 {i : Int32} {x : Int32} (h : Ok X cc own d) (hin : vp_in i 40) (dg : decode cc pc = .ok (.iastore, 1)) (k : Wx X (sI S 22 i.toNatClampNeg x) (pc + 1) lv st) : Wx X S pc lv (.int x :: .int i :: .ref (aD (xw X) 26) :: st) := fun H locs ls hP hS hl => va_iast h.1 h.2.1 h.2.2.2.2.2.2.1.1 hP (h.2.2.2.2.2.2.1.2.2.2.2 S) hS 26 0 (pl_26 _ _) rfl hin dg (fun H1 locs1 hP1 _ hS1 => k H1 locs1 ls hP1 hS1 hl)
theorem al_27 {i : Int32} (h : Ok X cc own d) (hin : vp_in i 40) (dg : decode cc pc = .ok (.iaload, 1)) (k : Wx X S (pc + 1) lv (.int (S.1 23 i.toNatClampNeg) :: st)) : Wx X S pc lv (.int i :: .ref (aD (xw X) 27) :: st) := fun H locs ls hP hS hl => va_iald h.1 h.2.1 h.2.2.2.2.2.2.1.1 hP 27 0 (pl_27 _ _) rfl hin dg (k H locs ls hP hS hl)
theorem as_27 {i : Int32} {x : Int32} (h : Ok X cc own d) (hin : vp_in i 40) (dg : decode cc pc = .ok (.iastore, 1)) (k : Wx X (sI S 23 i.toNatClampNeg x) (pc + 1) lv st) : Wx X S pc lv (.int x :: .int i :: .ref (aD (xw X) 27) :: st) := fun H locs ls hP hS hl => va_iast h.1 h.2.1 h.2.2.2.2.2.2.1.1 hP (h.2.2.2.2.2.2.1.2.2.2.2 S) hS 27 0 (pl_27 _ _) rfl hin dg (fun H1 locs1 hP1 _ hS1 => k H1 locs1 ls hP1 hS1 hl)
theorem al_28 {i : Int32} (h : Ok X cc own d) (hin : vp_in i 40) (dg : decode cc pc = .ok (.iaload, 1)) (k : Wx X S (pc + 1) lv (.int (S.1 24 i.toNatClampNeg) :: st)) : Wx X S pc lv (.int i :: .ref (aD (xw X) 28) :: st) := fun H locs ls hP hS hl => va_iald h.1 h.2.1 h.2.2.2.2.2.2.1.1 hP 28 0 (pl_28 _ _) rfl hin dg (k H locs ls hP hS hl)
theorem as_28 {i : Int32} {x : Int32} (h : Ok X cc own d) (hin : vp_in i 40) (dg : decode cc pc = .ok (.iastore, 1)) (k : Wx X (sI S 24 i.toNatClampNeg x) (pc + 1) lv st) : Wx X S pc lv (.int x :: .int i :: .ref (aD (xw X) 28) :: st) := fun H locs ls hP hS hl => va_iast h.1 h.2.1 h.2.2.2.2.2.2.1.1 hP (h.2.2.2.2.2.2.1.2.2.2.2 S) hS 28 0 (pl_28 _ _) rfl hin dg (fun H1 locs1 hP1 _ hS1 => k H1 locs1 ls hP1 hS1 hl)
theorem al_29 {i : Int32} (h : Ok X cc own d) (hin : vp_in i 40) (dg : decode cc pc = .ok (.iaload, 1)) (k : Wx X S (pc + 1) lv (.int (S.1 25 i.toNatClampNeg) :: st)) : Wx X S pc lv (.int i :: .ref (aD (xw X) 29) :: st) := fun H locs ls hP hS hl => va_iald h.1 h.2.1 h.2.2.2.2.2.2.1.1 hP 29 0 (pl_29 _ _) rfl hin dg (k H locs ls hP hS hl)
theorem as_29 {i : Int32} {x : Int32} (h : Ok X cc own d) (hin : vp_in i 40) (dg : decode cc pc = .ok (.iastore, 1)) (k : Wx X (sI S 25 i.toNatClampNeg x) (pc + 1) lv st) : Wx X S pc lv (.int x :: .int i :: .ref (aD (xw X) 29) :: st) := fun H locs ls hP hS hl => va_iast h.1 h.2.1 h.2.2.2.2.2.2.1.1 hP (h.2.2.2.2.2.2.1.2.2.2.2 S) hS 29 0 (pl_29 _ _) rfl hin dg (fun H1 locs1 hP1 _ hS1 => k H1 locs1 ls hP1 hS1 hl)
theorem al_30 {i : Int32} (h : Ok X cc own d) (hin : vp_in i 25) (dg : decode cc pc = .ok (.iaload, 1)) (k : Wx X S (pc + 1) lv (.int (S.1 26 i.toNatClampNeg) :: st)) : Wx X S pc lv (.int i :: .ref (aD (xw X) 30) :: st) := fun H locs ls hP hS hl => va_iald h.1 h.2.1 h.2.2.2.2.2.2.1.1 hP 30 0 (pl_30 _ _) rfl hin dg (k H locs ls hP hS hl)
theorem as_30 {i : Int32} {x : Int32} (h : Ok X cc own d) (hin : vp_in i 25) (dg : decode cc pc = .ok (.iastore, 1)) (k : Wx X (sI S 26 i.toNatClampNeg x) (pc + 1) lv st) : Wx X S pc lv (.int x :: .int i :: .ref (aD (xw X) 30) :: st) := fun H locs ls hP hS hl => va_iast h.1 h.2.1 h.2.2.2.2.2.2.1.1 hP (h.2.2.2.2.2.2.1.2.2.2.2 S) hS 30 0 (pl_30 _ _) rfl hin dg (fun H1 locs1 hP1 _ hS1 => k H1 locs1 ls hP1 hS1 hl)
theorem al_31 {i : Int32} (h : Ok X cc own d) (hin : vp_in i 40) (dg : decode cc pc = .ok (.iaload, 1)) (k : Wx X S (pc + 1) lv (.int (S.1 29 i.toNatClampNeg) :: st)) : Wx X S pc lv (.int i :: .ref (aD (xw X) 31) :: st) := fun H locs ls hP hS hl => va_iald h.1 h.2.1 h.2.2.2.2.2.2.1.1 hP 31 0 (pl_31 _ _) rfl hin dg (k H locs ls hP hS hl)
theorem as_31 {i : Int32} {x : Int32} (h : Ok X cc own d) (hin : vp_in i 40) (dg : decode cc pc = .ok (.iastore, 1)) (k : Wx X (sI S 29 i.toNatClampNeg x) (pc + 1) lv st) : Wx X S pc lv (.int x :: .int i :: .ref (aD (xw X) 31) :: st) := fun H locs ls hP hS hl => va_iast h.1 h.2.1 h.2.2.2.2.2.2.1.1 hP (h.2.2.2.2.2.2.1.2.2.2.2 S) hS 31 0 (pl_31 _ _) rfl hin dg (fun H1 locs1 hP1 _ hS1 => k H1 locs1 ls hP1 hS1 hl)
theorem al_32 {i : Int32} (h : Ok X cc own d) (hin : vp_in i 40) (dg : decode cc pc = .ok (.iaload, 1)) (k : Wx X S (pc + 1) lv (.int (S.1 30 i.toNatClampNeg) :: st)) : Wx X S pc lv (.int i :: .ref (aD (xw X) 32) :: st) := fun H locs ls hP hS hl => va_iald h.1 h.2.1 h.2.2.2.2.2.2.1.1 hP 32 0 (pl_32 _ _) rfl hin dg (k H locs ls hP hS hl)
theorem as_32 {i : Int32} {x : Int32} (h : Ok X cc own d) (hin : vp_in i 40) (dg : decode cc pc = .ok (.iastore, 1)) (k : Wx X (sI S 30 i.toNatClampNeg x) (pc + 1) lv st) : Wx X S pc lv (.int x :: .int i :: .ref (aD (xw X) 32) :: st) := fun H locs ls hP hS hl => va_iast h.1 h.2.1 h.2.2.2.2.2.2.1.1 hP (h.2.2.2.2.2.2.1.2.2.2.2 S) hS 32 0 (pl_32 _ _) rfl hin dg (fun H1 locs1 hP1 _ hS1 => k H1 locs1 ls hP1 hS1 hl)
theorem al_33 {i : Int32} (h : Ok X cc own d) (hin : vp_in i 40) (dg : decode cc pc = .ok (.iaload, 1)) (k : Wx X S (pc + 1) lv (.int (S.1 31 i.toNatClampNeg) :: st)) : Wx X S pc lv (.int i :: .ref (aD (xw X) 33) :: st) := fun H locs ls hP hS hl => va_iald h.1 h.2.1 h.2.2.2.2.2.2.1.1 hP 33 0 (pl_33 _ _) rfl hin dg (k H locs ls hP hS hl)
theorem as_33 {i : Int32} {x : Int32} (h : Ok X cc own d) (hin : vp_in i 40) (dg : decode cc pc = .ok (.iastore, 1)) (k : Wx X (sI S 31 i.toNatClampNeg x) (pc + 1) lv st) : Wx X S pc lv (.int x :: .int i :: .ref (aD (xw X) 33) :: st) := fun H locs ls hP hS hl => va_iast h.1 h.2.1 h.2.2.2.2.2.2.1.1 hP (h.2.2.2.2.2.2.1.2.2.2.2 S) hS 33 0 (pl_33 _ _) rfl hin dg (fun H1 locs1 hP1 _ hS1 => k H1 locs1 ls hP1 hS1 hl)
theorem al_34 {i : Int32} (h : Ok X cc own d) (hin : vp_in i 80) (dg : decode cc pc = .ok (.iaload, 1)) (k : Wx X S (pc + 1) lv (.int (S.1 32 i.toNatClampNeg) :: st)) : Wx X S pc lv (.int i :: .ref (aD (xw X) 34) :: st) := fun H locs ls hP hS hl => va_iald h.1 h.2.1 h.2.2.2.2.2.2.1.1 hP 34 0 (pl_34 _ _) rfl hin dg (k H locs ls hP hS hl)
theorem as_34 {i : Int32} {x : Int32} (h : Ok X cc own d) (hin : vp_in i 80) (dg : decode cc pc = .ok (.iastore, 1)) (k : Wx X (sI S 32 i.toNatClampNeg x) (pc + 1) lv st) : Wx X S pc lv (.int x :: .int i :: .ref (aD (xw X) 34) :: st) := fun H locs ls hP hS hl => va_iast h.1 h.2.1 h.2.2.2.2.2.2.1.1 hP (h.2.2.2.2.2.2.1.2.2.2.2 S) hS 34 0 (pl_34 _ _) rfl hin dg (fun H1 locs1 hP1 _ hS1 => k H1 locs1 ls hP1 hS1 hl)
theorem al_35 {i : Int32} (h : Ok X cc own d) (hin : vp_in i 80) (dg : decode cc pc = .ok (.iaload, 1)) (k : Wx X S (pc + 1) lv (.int (S.1 33 i.toNatClampNeg) :: st)) : Wx X S pc lv (.int i :: .ref (aD (xw X) 35) :: st) := fun H locs ls hP hS hl => va_iald h.1 h.2.1 h.2.2.2.2.2.2.1.1 hP 35 0 (pl_35 _ _) rfl hin dg (k H locs ls hP hS hl)
theorem as_35 {i : Int32} {x : Int32} (h : Ok X cc own d) (hin : vp_in i 80) (dg : decode cc pc = .ok (.iastore, 1)) (k : Wx X (sI S 33 i.toNatClampNeg x) (pc + 1) lv st) : Wx X S pc lv (.int x :: .int i :: .ref (aD (xw X) 35) :: st) := fun H locs ls hP hS hl => va_iast h.1 h.2.1 h.2.2.2.2.2.2.1.1 hP (h.2.2.2.2.2.2.1.2.2.2.2 S) hS 35 0 (pl_35 _ _) rfl hin dg (fun H1 locs1 hP1 _ hS1 => k H1 locs1 ls hP1 hS1 hl)
theorem al_36 {i : Int32} (h : Ok X cc own d) (hin : vp_in i 80) (dg : decode cc pc = .ok (.iaload, 1)) (k : Wx X S (pc + 1) lv (.int (S.1 34 i.toNatClampNeg) :: st)) : Wx X S pc lv (.int i :: .ref (aD (xw X) 36) :: st) := fun H locs ls hP hS hl => va_iald h.1 h.2.1 h.2.2.2.2.2.2.1.1 hP 36 0 (pl_36 _ _) rfl hin dg (k H locs ls hP hS hl)
theorem as_36 {i : Int32} {x : Int32} (h : Ok X cc own d) (hin : vp_in i 80) (dg : decode cc pc = .ok (.iastore, 1)) (k : Wx X (sI S 34 i.toNatClampNeg x) (pc + 1) lv st) : Wx X S pc lv (.int x :: .int i :: .ref (aD (xw X) 36) :: st) := fun H locs ls hP hS hl => va_iast h.1 h.2.1 h.2.2.2.2.2.2.1.1 hP (h.2.2.2.2.2.2.1.2.2.2.2 S) hS 36 0 (pl_36 _ _) rfl hin dg (fun H1 locs1 hP1 _ hS1 => k H1 locs1 ls hP1 hS1 hl)
theorem al_37 {i : Int32} (h : Ok X cc own d) (hin : vp_in i 40) (dg : decode cc pc = .ok (.iaload, 1)) (k : Wx X S (pc + 1) lv (.int (S.1 36 i.toNatClampNeg) :: st)) : Wx X S pc lv (.int i :: .ref (aD (xw X) 37) :: st) := fun H locs ls hP hS hl => va_iald h.1 h.2.1 h.2.2.2.2.2.2.1.1 hP 37 0 (pl_37 _ _) rfl hin dg (k H locs ls hP hS hl)
theorem as_37 {i : Int32} {x : Int32} (h : Ok X cc own d) (hin : vp_in i 40) (dg : decode cc pc = .ok (.iastore, 1)) (k : Wx X (sI S 36 i.toNatClampNeg x) (pc + 1) lv st) : Wx X S pc lv (.int x :: .int i :: .ref (aD (xw X) 37) :: st) := fun H locs ls hP hS hl => va_iast h.1 h.2.1 h.2.2.2.2.2.2.1.1 hP (h.2.2.2.2.2.2.1.2.2.2.2 S) hS 37 0 (pl_37 _ _) rfl hin dg (fun H1 locs1 hP1 _ hS1 => k H1 locs1 ls hP1 hS1 hl)
theorem al_38 {i : Int32} (h : Ok X cc own d) (hin : vp_in i 40) (dg : decode cc pc = .ok (.iaload, 1)) (k : Wx X S (pc + 1) lv (.int (S.1 37 i.toNatClampNeg) :: st)) : Wx X S pc lv (.int i :: .ref (aD (xw X) 38) :: st) := fun H locs ls hP hS hl => va_iald h.1 h.2.1 h.2.2.2.2.2.2.1.1 hP 38 0 (pl_38 _ _) rfl hin dg (k H locs ls hP hS hl)
theorem as_38 {i : Int32} {x : Int32} (h : Ok X cc own d) (hin : vp_in i 40) (dg : decode cc pc = .ok (.iastore, 1)) (k : Wx X (sI S 37 i.toNatClampNeg x) (pc + 1) lv st) : Wx X S pc lv (.int x :: .int i :: .ref (aD (xw X) 38) :: st) := fun H locs ls hP hS hl => va_iast h.1 h.2.1 h.2.2.2.2.2.2.1.1 hP (h.2.2.2.2.2.2.1.2.2.2.2 S) hS 38 0 (pl_38 _ _) rfl hin dg (fun H1 locs1 hP1 _ hS1 => k H1 locs1 ls hP1 hS1 hl)
theorem gs_1 (h : Ok X cc own d) (hl0 : Cond.fieldLinkNest own index "FarSums" "FIRST_OF_LEVEL" "[I" "FarSums" ∈ nw) (dg : decode cc pc = .ok (.getstatic index, 3)) (k : Wx X S (pc + 3) lv (.ref (fT1 (xw X)) :: st)) : Wx X S pc lv st := fun H locs ls hP hS hl => va_getsN h.1 h.2.1 h.2.2.2.2.2.2.1.2.2.1.1 hS h.2.2.2.1 (va_Nw.use rfl (h.2.2.2.2.2.2.1.2.1 _ hl0)) (fun _ z => z) dg (k H locs ls hP hS hl)
theorem at_1 {i : Int32} (h : Ok X cc own d) (hin : vp_in i 6) (dg : decode cc pc = .ok (.iaload, 1)) (k : Wx X S (pc + 1) lv (.int (tabF i.toNatClampNeg) :: st)) : Wx X S pc lv (.int i :: .ref (fT1 (xw X)) :: st) := fun H locs ls hP hS hl => va_ti h.1 h.2.1 h.2.2.2.2.2.2.1.2.2.1.2 hS hin rfl dg (k H locs ls hP hS hl)
theorem gs_2 (h : Ok X cc own d) (hl0 : Cond.fieldLinkNest own index "FarSums" "CHOOSE" "[I" "FarSums" ∈ nw) (dg : decode cc pc = .ok (.getstatic index, 3)) (k : Wx X S (pc + 3) lv (.ref (fT2 (xw X)) :: st)) : Wx X S pc lv st := fun H locs ls hP hS hl => va_getsN h.1 h.2.1 h.2.2.2.2.2.2.1.2.2.2.1.1 hS h.2.2.2.1 (va_Nw.use rfl (h.2.2.2.2.2.2.1.2.1 _ hl0)) (fun _ z => z) dg (k H locs ls hP hS hl)
theorem at_2 {i : Int32} (h : Ok X cc own d) (hin : vp_in i 25) (dg : decode cc pc = .ok (.iaload, 1)) (k : Wx X S (pc + 1) lv (.int (tabC i.toNatClampNeg) :: st)) : Wx X S pc lv (.int i :: .ref (fT2 (xw X)) :: st) := fun H locs ls hP hS hl => va_ti h.1 h.2.1 h.2.2.2.2.2.2.1.2.2.2.1.2 hS hin rfl dg (k H locs ls hP hS hl)
end
section
variable {X : Fr} {cc : ByteArray} {own : String} {d : Nat} {S : St} {pc : Nat} {lv st : List Value} {post : Option Value → St → Prop}
theorem r_iret {v : Int32} (h : Ok X cc own d) (hr : Rt X (some .int) post) (dg : decode cc pc = .ok (.ireturn, 1)) (hp : post (some (.int v)) S) : Wx X S pc lv [.int v] := by
  intro H locs ls hP hS hl
  rw [hr.2]
  exact W.iret (Qc := QX (xw X) post) (free := fA (xw X)) h.1 h.2.1 hr.1 (fun t ht hW => ⟨⟨some (.int v), S, rfl, hp, by rw [ht]; exact hP⟩, hS.F ht⟩) hS.2.2 dg h.2.2.2.2.2.1
theorem r_zret {v : Int32} (h : Ok X cc own d) (hr : Rt X (some .boolean) post) (dg : decode cc pc = .ok (.ireturn, 1)) (hn : narrow .boolean (.int v) = .int v) (hp : post (some (.int v)) S) : Wx X S pc lv [.int v] := by
  intro H locs ls hP hS hl
  rw [hr.2]
  exact W.zret (Qc := QX (xw X) post) (free := fA (xw X)) h.1 h.2.1 hr.1 hn (fun t ht hW => ⟨⟨some (.int v), S, rfl, hp, by rw [ht]; exact hP⟩, hS.F ht⟩) hS.2.2 dg h.2.2.2.2.2.1
theorem r_lret {v : Int64} (h : Ok X cc own d) (hr : Rt X (some .long) post) (dg : decode cc pc = .ok (.lreturn, 1)) (hp : post (some (.long v)) S) : Wx X S pc lv [.long v] := by
  intro H locs ls hP hS hl
  rw [hr.2]
  exact W.lret (Qc := QX (xw X) post) (free := fA (xw X)) h.1 h.2.1 hr.1 (fun t ht hW => ⟨⟨some (.long v), S, rfl, hp, by rw [ht]; exact hP⟩, hS.F ht⟩) hS.2.2 dg h.2.2.2.2.2.1
theorem r_vret (h : Ok X cc own d) (hr : Rt X none post) (dg : decode cc pc = .ok (.return_, 1)) (hp : post none S) : Wx X S pc lv [] := by
  intro H locs ls hP hS hl
  rw [hr.2]
  exact W.vret (Qc := QX (xw X) post) (free := fA (xw X)) h.1 h.2.1 hr.1 (fun t ht hW => ⟨⟨none, S, rfl, hp, by rw [ht]; exact hP⟩, hS.F ht⟩) hS.2.2 dg h.2.2.2.2.2.1
end
/-! calls -/
def Cal0 (y : MethodName) (cc : ByteArray) (mL : Nat) (rt : Option FieldType) (n : Nat) : Prop := Cond.code y cc mL rt ∈ tb ∧ Cond.initialized y.cls ∈ tb ∧ (y.cls ≠ "java/lang/invoke/MethodHandle" ∧ y.cls ≠ "java/lang/invoke/VarHandle" ∧ (parseMethodDescriptor y.desc).map (fun d => d.parameters.length) = some n) ∧ mL ≤ 21
def CalV (y : MethodName) (cc : ByteArray) (mL : Nat) (rt : Option FieldType) (n : Nat) : Prop := Cal0 y cc mL rt n ∧ Cond.instanceMethod y ∈ tb ∧ Cond.selects y.cls y y ∈ tb
def CalS (y : MethodName) (cc : ByteArray) (mL : Nat) (rt : Option FieldType) (n : Nat) : Prop := Cal0 y cc mL rt n ∧ Cond.static y ∈ tb
theorem good_of {L : List Cond} (h : ∀ w ∈ L, w ∈ tb) : GoodIn tb L := fun w hw => tb_good w (h w hw)
theorem pc_blind {w : Fx} {av : List Value} {S : St} : FrameBlind (va_Pc av (fun U => va_P w.1 vwCl (wS w S) U.heap ∧ Bs w U)) := fun a U g mk q => ⟨q.1, q.2.1, Bs_calling q.2.2⟩
section
variable {X : Fr} {cc : ByteArray} {own : String} {d : Nat} {S : St} {pc : Nat} {lv st : List Value}
theorem r_after {a : Array Value} {g0 : List Value} {rv : Option Value} {rest : List Value} {S2 : St} {H : Heap} {locs : List Loc} {ls : Array Slot} (hS : va_S (fA (xw X)) (xs X).heap H locs) (hl : hL ls (xn X) lv)
    (hr : va_Run (xp X) (xl X) (xe X) (xR X) (xs X) (xm X) (xa X) (xb X) (xme X) (xc X) H locs (xk X).1 (xk X).2 0 0 (F0 (xm X) pc ls g0) rest (QX (xw X) (fun v S' => v = rv ∧ S' = S2) a) (fA (xw X)))
    (k : Wx X S2 (pc + 3) lv (rv.toList ++ rest)) : W (xp X) (xl X) (xe X) (xR X) (xs X) (xm X) (xa X) (xb X) (xme X) (xc X) H locs (xk X).1 (xk X).2 (xQ X) (F0 (xm X) pc ls g0) := by
  intro T hT Xs
  obtain ⟨v, st₀, t, T', L, h0, X', hL', e1, e2, ⟨⟨v', S', hv, ⟨e3, e4⟩, hP'⟩, hz, hk⟩, stp⟩ := hr T hT Xs
  cases hv
  subst e3
  subst e4
  rw [h0] at hz hk
  have hS' : va_S (fA (xw X)) (xs X).heap T'.heap (locs ++ L) := ⟨Nat.le_trans hS.1 (by rw [e1]; exact hz), fun q h1 h2 => by rw [e1, hk q (Nat.lt_of_lt_of_le h1 hS.1) h2]; exact hS.2.1 q h1 h2, fun q hq => by
    rcases List.mem_append.mp hq with z | z
    · exact hS.2.2 q z
    · exact hL' q z⟩
  obtain ⟨t2, a1, b1⟩ := k T'.heap (locs ++ L) ls (by rw [e1]; exact hP') hS' hl T' rfl X'
  exact ⟨t2, stp t2 a1, b1⟩
theorem r_callV {y : MethodName} {cc' : ByteArray} {mL d' n b idx ci N : Nat} {rt : Option FieldType} {As rest : List Value} {rv : Option Value} {S2 : St} {T : u_T} {fs : List Value} (h : Ok X cc own d) (hM : Ct (xl X) y cc' mL rt d' (xw X) (.ref b :: As) S (fun v S' => v = rv ∧ S' = S2)) (hc : CalV y cc' mL rt n) (hlink : Cond.methodLink own idx y ∈ tb) (hd : d' + 1 ≤ d) (q0 : Nat) (hpl : (wS (xw X) S)[q0]? = some (b, .inr (ci, fs))) (hcl : vwCl[ci]? = some (y.cls, T, N)) (hn : As.length = n) (hst : st = As.reverse ++ .ref b :: rest) (hroom : (rest.map fun v => v.category).sum ≤ 8) (dg : decode cc pc = .ok (.invokevirtual idx, 3)) (k : Wx X S2 (pc + 3) lv (rv.toList ++ rest)) : Wx X S pc lv st := by
  subst hst
  intro H locs ls hP hS hl
  obtain ⟨⟨c1, c2, c3, c4⟩, c5, c6⟩ := hc
  have hts := h.2.2.2.2.1
  have hfr := h.2.2.2.2.2.2.2.1
  have hB := h.2.2.2.2.2.2.1
  have hcw : CallW (xR X) (xs X) (xa X) own y.cls idx y cc' mL rt (Cond.code y cc' mL rt :: tb) (rmD d') 0 0 n := cwV n hts (good_of (fun w hw => by
    rcases List.mem_append.mp hw with z | z
    · simp only [List.mem_cons, List.not_mem_nil, or_false] at z
      rcases z with rfl | rfl | rfl | rfl <;> assumption
    · rcases List.mem_cons.mp z with rfl | z
      · exact c1
      · exact z)) rfl rfl rfl ⟨rfl, c3⟩ ⟨by show d' + 1 ≤ (xR X).frames; omega, by show 8 + (mL + 11) + 40 * d' ≤ (xR X).locals; omega⟩
  have hr := va_runV (cc := cc) (nL := xn X) (Ts := tb) (own := own) (As := As) (rest := rest) (b := b) (g := F0 (xm X) pc ls (As.reverse ++ .ref b :: rest)) (H := H) (locs := locs) (below := xb X) (e := xe X) (meth := xme X) (cells := (xk X).1) (slots := (xk X).2) ⟨h.1, h.2.1, h.2.2.1, h.2.2.2.1, hts⟩ hM hcw ⟨pc_blind, va_recv hB.1 hP hcl hpl, fun U hU hW => ⟨rfl, by rw [hU]; exact hP, Bs_move hS hU hW hB⟩⟩ rfl hn hl.1.1 rfl (lv_room hroom) dg ⟨h.2.2.2.2.2.2.2.2.1, h.2.2.2.2.2.2.2.2.2⟩
  exact r_after hS hl hr k
theorem r_callS {y : MethodName} {cc' : ByteArray} {mL d' n idx : Nat} {rt : Option FieldType} {As rest : List Value} {rv : Option Value} {S2 : St} (h : Ok X cc own d) (hM : Ct (xl X) y cc' mL rt d' (xw X) As S (fun v S' => v = rv ∧ S' = S2)) (hc : CalS y cc' mL rt n) (hlink : Cond.methodLink own idx y ∈ tb) (hd : d' + 1 ≤ d) (hn : As.length = n) (hst : st = As.reverse ++ rest) (hroom : (rest.map fun v => v.category).sum ≤ 8) (dg : decode cc pc = .ok (.invokestatic idx, 3)) (k : Wx X S2 (pc + 3) lv (rv.toList ++ rest)) : Wx X S pc lv st := by
  subst hst
  intro H locs ls hP hS hl
  obtain ⟨⟨c1, c2, c3, c4⟩, c5⟩ := hc
  have hts := h.2.2.2.2.1
  have hfr := h.2.2.2.2.2.2.2.1
  have hB := h.2.2.2.2.2.2.1
  have hcw : CallB (xR X) (xs X) (xa X) own idx y cc' mL rt (Cond.code y cc' mL rt :: tb) (rmD d') 0 0 n ∧ (Cond.static y).before (xa X) (xs X) = true := va_cwS n hts (good_of (fun w hw => by
    rcases List.mem_append.mp hw with z | z
    · simp only [List.mem_cons, List.not_mem_nil, or_false] at z
      rcases z with rfl | rfl | rfl <;> assumption
    · rcases List.mem_cons.mp z with rfl | z
      · exact c1
      · exact z)) rfl rfl rfl c3 ⟨by show d' + 1 ≤ (xR X).frames; omega, by show 8 + (mL + 11) + 40 * d' ≤ (xR X).locals; omega⟩
  have hr := va_runS (cc := cc) (nL := xn X) (Ts := tb) (own := own) (As := As) (rest := rest) (g := F0 (xm X) pc ls (As.reverse ++ rest)) (H := H) (locs := locs) (below := xb X) (e := xe X) (meth := xme X) (cells := (xk X).1) (slots := (xk X).2) ⟨h.1, h.2.1, h.2.2.1, h.2.2.2.1, hts⟩ hM hcw ⟨pc_blind, fun U hU hW => ⟨rfl, by rw [hU]; exact hP, Bs_move hS hU hW hB⟩⟩ rfl hn hl.1.1 rfl (lv_room hroom) dg ⟨h.2.2.2.2.2.2.2.2.1, h.2.2.2.2.2.2.2.2.2⟩
  exact r_after hS hl hr k
theorem r_callN {y : MethodName} {cc' : ByteArray} {mL d' n idx : Nat} {rt : Option FieldType} {As rest : List Value} {rv : Option Value} {S2 : St} (h : Ok X cc own d) (hM : Ct (xl X) y cc' mL rt d' (xw X) As S (fun v S' => v = rv ∧ S' = S2)) (hc : CalS y cc' mL rt n) (hlink : Cond.methodLinkNest own idx y "FarSums" ∈ nw) (hd : d' + 1 ≤ d) (hn : As.length = n) (hst : st = As.reverse ++ rest) (hroom : (rest.map fun v => v.category).sum ≤ 8) (dg : decode cc pc = .ok (.invokestatic idx, 3)) (k : Wx X S2 (pc + 3) lv (rv.toList ++ rest)) : Wx X S pc lv st := by
  subst hst
  intro H locs ls hP hS hl
  obtain ⟨⟨c1, c2, c3, c4⟩, c5⟩ := hc
  have hts := h.2.2.2.2.1
  have hfr := h.2.2.2.2.2.2.2.1
  have hB := h.2.2.2.2.2.2.1
  have hcw := va_cnB (R := xR X) (s := xs X) (args := xa X) (own := own) (host := "FarSums") (index := idx) (maxL := mL) (mc := 0) (ms := 0) (y := y) (bytes := cc') (ret := rt) (Ts := tb) (ws := Cond.code y cc' mL rt :: tb) (ws' := tb) (rm := rmD d') n hts (good_of (fun w hw => by
    rcases List.mem_cons.mp hw with rfl | z
    · exact c1
    · exact z)) rfl rfl rfl (hB.2.1 _ hlink) (hts _ c2) c3 ⟨by show d' + 1 ≤ (xR X).frames; omega, by show 8 + (mL + 11) + 40 * d' ≤ (xR X).locals; omega⟩
  have hr := va_runSN (cc := cc) (nL := xn X) (Ts := tb) (own := own) (As := As) (rest := rest) (g := F0 (xm X) pc ls (As.reverse ++ rest)) (H := H) (locs := locs) (below := xb X) (e := xe X) (meth := xme X) (cells := (xk X).1) (slots := (xk X).2) ⟨h.1, h.2.1, h.2.2.1, h.2.2.2.1, hts⟩ hM ⟨hcw, hts _ c5, trivial⟩ ⟨pc_blind, fun U hU hW => ⟨rfl, by rw [hU]; exact hP, Bs_move hS hU hW hB⟩⟩ rfl hn hl.1.1 rfl (lv_room hroom) dg ⟨h.2.2.2.2.2.2.2.2.1, h.2.2.2.2.2.2.2.2.2⟩
  exact r_after hS hl hr k
theorem cV0 {y : MethodName} {cc' : ByteArray} {mL d' b idx ci N : Nat} {rt : Option FieldType} {r : Value} {rest : List Value} {S2 : St} {T : u_T} {fs : List Value} (h : Ok X cc own d) (hM : Ct (xl X) y cc' mL rt d' (xw X) [.ref b] S (fun v S' => v = (some r) ∧ S' = S2)) (hc : CalV y cc' mL rt 0) (hlink : Cond.methodLink own idx y ∈ tb) (hd : d' + 1 ≤ d) (q0 : Nat) (hpl : (wS (xw X) S)[q0]? = some (b, .inr (ci, fs))) (hcl : vwCl[ci]? = some (y.cls, T, N)) (hroom : (rest.map fun v => v.category).sum ≤ 8) (dg : decode cc pc = .ok (.invokevirtual idx, 3)) (k : Wx X S2 (pc + 3) lv (r :: rest)) : Wx X S pc lv (.ref b :: rest) := r_callV h hM hc hlink hd q0 hpl hcl rfl rfl hroom dg k
theorem cV0v {y : MethodName} {cc' : ByteArray} {mL d' b idx ci N : Nat} {rt : Option FieldType} {rest : List Value} {S2 : St} {T : u_T} {fs : List Value} (h : Ok X cc own d) (hM : Ct (xl X) y cc' mL rt d' (xw X) [.ref b] S (fun v S' => v = none ∧ S' = S2)) (hc : CalV y cc' mL rt 0) (hlink : Cond.methodLink own idx y ∈ tb) (hd : d' + 1 ≤ d) (q0 : Nat) (hpl : (wS (xw X) S)[q0]? = some (b, .inr (ci, fs))) (hcl : vwCl[ci]? = some (y.cls, T, N)) (hroom : (rest.map fun v => v.category).sum ≤ 8) (dg : decode cc pc = .ok (.invokevirtual idx, 3)) (k : Wx X S2 (pc + 3) lv (rest)) : Wx X S pc lv (.ref b :: rest) := r_callV h hM hc hlink hd q0 hpl hcl rfl rfl hroom dg k
theorem cV1 {y : MethodName} {cc' : ByteArray} {mL d' b idx ci N : Nat} {rt : Option FieldType} {a1 : Value} {r : Value} {rest : List Value} {S2 : St} {T : u_T} {fs : List Value} (h : Ok X cc own d) (hM : Ct (xl X) y cc' mL rt d' (xw X) [.ref b, a1] S (fun v S' => v = (some r) ∧ S' = S2)) (hc : CalV y cc' mL rt 1) (hlink : Cond.methodLink own idx y ∈ tb) (hd : d' + 1 ≤ d) (q0 : Nat) (hpl : (wS (xw X) S)[q0]? = some (b, .inr (ci, fs))) (hcl : vwCl[ci]? = some (y.cls, T, N)) (hroom : (rest.map fun v => v.category).sum ≤ 8) (dg : decode cc pc = .ok (.invokevirtual idx, 3)) (k : Wx X S2 (pc + 3) lv (r :: rest)) : Wx X S pc lv (a1 :: .ref b :: rest) := r_callV h hM hc hlink hd q0 hpl hcl rfl rfl hroom dg k
theorem cV1v {y : MethodName} {cc' : ByteArray} {mL d' b idx ci N : Nat} {rt : Option FieldType} {a1 : Value} {rest : List Value} {S2 : St} {T : u_T} {fs : List Value} (h : Ok X cc own d) (hM : Ct (xl X) y cc' mL rt d' (xw X) [.ref b, a1] S (fun v S' => v = none ∧ S' = S2)) (hc : CalV y cc' mL rt 1) (hlink : Cond.methodLink own idx y ∈ tb) (hd : d' + 1 ≤ d) (q0 : Nat) (hpl : (wS (xw X) S)[q0]? = some (b, .inr (ci, fs))) (hcl : vwCl[ci]? = some (y.cls, T, N)) (hroom : (rest.map fun v => v.category).sum ≤ 8) (dg : decode cc pc = .ok (.invokevirtual idx, 3)) (k : Wx X S2 (pc + 3) lv (rest)) : Wx X S pc lv (a1 :: .ref b :: rest) := r_callV h hM hc hlink hd q0 hpl hcl rfl rfl hroom dg k
theorem cS1 {y : MethodName} {cc' : ByteArray} {mL d' idx : Nat} {rt : Option FieldType} {a1 : Value} {r : Value} {rest : List Value} {S2 : St} (h : Ok X cc own d) (hM : Ct (xl X) y cc' mL rt d' (xw X) [a1] S (fun v S' => v = (some r) ∧ S' = S2)) (hc : CalS y cc' mL rt 1) (hlink : Cond.methodLink own idx y ∈ tb) (hd : d' + 1 ≤ d) (hroom : (rest.map fun v => v.category).sum ≤ 8) (dg : decode cc pc = .ok (.invokestatic idx, 3)) (k : Wx X S2 (pc + 3) lv (r :: rest)) : Wx X S pc lv (a1 :: rest) := r_callS h hM hc hlink hd rfl rfl hroom dg k
theorem cS1v {y : MethodName} {cc' : ByteArray} {mL d' idx : Nat} {rt : Option FieldType} {a1 : Value} {rest : List Value} {S2 : St} (h : Ok X cc own d) (hM : Ct (xl X) y cc' mL rt d' (xw X) [a1] S (fun v S' => v = none ∧ S' = S2)) (hc : CalS y cc' mL rt 1) (hlink : Cond.methodLink own idx y ∈ tb) (hd : d' + 1 ≤ d) (hroom : (rest.map fun v => v.category).sum ≤ 8) (dg : decode cc pc = .ok (.invokestatic idx, 3)) (k : Wx X S2 (pc + 3) lv (rest)) : Wx X S pc lv (a1 :: rest) := r_callS h hM hc hlink hd rfl rfl hroom dg k
theorem cN1 {y : MethodName} {cc' : ByteArray} {mL d' idx : Nat} {rt : Option FieldType} {a1 : Value} {r : Value} {rest : List Value} {S2 : St} (h : Ok X cc own d) (hM : Ct (xl X) y cc' mL rt d' (xw X) [a1] S (fun v S' => v = (some r) ∧ S' = S2)) (hc : CalS y cc' mL rt 1) (hlink : Cond.methodLinkNest own idx y "FarSums" ∈ nw) (hd : d' + 1 ≤ d) (hroom : (rest.map fun v => v.category).sum ≤ 8) (dg : decode cc pc = .ok (.invokestatic idx, 3)) (k : Wx X S2 (pc + 3) lv (r :: rest)) : Wx X S pc lv (a1 :: rest) := r_callN h hM hc hlink hd rfl rfl hroom dg k
theorem cN1v {y : MethodName} {cc' : ByteArray} {mL d' idx : Nat} {rt : Option FieldType} {a1 : Value} {rest : List Value} {S2 : St} (h : Ok X cc own d) (hM : Ct (xl X) y cc' mL rt d' (xw X) [a1] S (fun v S' => v = none ∧ S' = S2)) (hc : CalS y cc' mL rt 1) (hlink : Cond.methodLinkNest own idx y "FarSums" ∈ nw) (hd : d' + 1 ≤ d) (hroom : (rest.map fun v => v.category).sum ≤ 8) (dg : decode cc pc = .ok (.invokestatic idx, 3)) (k : Wx X S2 (pc + 3) lv (rest)) : Wx X S pc lv (a1 :: rest) := r_callN h hM hc hlink hd rfl rfl hroom dg k
theorem cV2 {y : MethodName} {cc' : ByteArray} {mL d' b idx ci N : Nat} {rt : Option FieldType} {a1 a2 : Value} {r : Value} {rest : List Value} {S2 : St} {T : u_T} {fs : List Value} (h : Ok X cc own d) (hM : Ct (xl X) y cc' mL rt d' (xw X) [.ref b, a1, a2] S (fun v S' => v = (some r) ∧ S' = S2)) (hc : CalV y cc' mL rt 2) (hlink : Cond.methodLink own idx y ∈ tb) (hd : d' + 1 ≤ d) (q0 : Nat) (hpl : (wS (xw X) S)[q0]? = some (b, .inr (ci, fs))) (hcl : vwCl[ci]? = some (y.cls, T, N)) (hroom : (rest.map fun v => v.category).sum ≤ 8) (dg : decode cc pc = .ok (.invokevirtual idx, 3)) (k : Wx X S2 (pc + 3) lv (r :: rest)) : Wx X S pc lv (a2 :: a1 :: .ref b :: rest) := r_callV h hM hc hlink hd q0 hpl hcl rfl rfl hroom dg k
theorem cV2v {y : MethodName} {cc' : ByteArray} {mL d' b idx ci N : Nat} {rt : Option FieldType} {a1 a2 : Value} {rest : List Value} {S2 : St} {T : u_T} {fs : List Value} (h : Ok X cc own d) (hM : Ct (xl X) y cc' mL rt d' (xw X) [.ref b, a1, a2] S (fun v S' => v = none ∧ S' = S2)) (hc : CalV y cc' mL rt 2) (hlink : Cond.methodLink own idx y ∈ tb) (hd : d' + 1 ≤ d) (q0 : Nat) (hpl : (wS (xw X) S)[q0]? = some (b, .inr (ci, fs))) (hcl : vwCl[ci]? = some (y.cls, T, N)) (hroom : (rest.map fun v => v.category).sum ≤ 8) (dg : decode cc pc = .ok (.invokevirtual idx, 3)) (k : Wx X S2 (pc + 3) lv (rest)) : Wx X S pc lv (a2 :: a1 :: .ref b :: rest) := r_callV h hM hc hlink hd q0 hpl hcl rfl rfl hroom dg k
theorem cS2 {y : MethodName} {cc' : ByteArray} {mL d' idx : Nat} {rt : Option FieldType} {a1 a2 : Value} {r : Value} {rest : List Value} {S2 : St} (h : Ok X cc own d) (hM : Ct (xl X) y cc' mL rt d' (xw X) [a1, a2] S (fun v S' => v = (some r) ∧ S' = S2)) (hc : CalS y cc' mL rt 2) (hlink : Cond.methodLink own idx y ∈ tb) (hd : d' + 1 ≤ d) (hroom : (rest.map fun v => v.category).sum ≤ 8) (dg : decode cc pc = .ok (.invokestatic idx, 3)) (k : Wx X S2 (pc + 3) lv (r :: rest)) : Wx X S pc lv (a2 :: a1 :: rest) := r_callS h hM hc hlink hd rfl rfl hroom dg k
theorem cS2v {y : MethodName} {cc' : ByteArray} {mL d' idx : Nat} {rt : Option FieldType} {a1 a2 : Value} {rest : List Value} {S2 : St} (h : Ok X cc own d) (hM : Ct (xl X) y cc' mL rt d' (xw X) [a1, a2] S (fun v S' => v = none ∧ S' = S2)) (hc : CalS y cc' mL rt 2) (hlink : Cond.methodLink own idx y ∈ tb) (hd : d' + 1 ≤ d) (hroom : (rest.map fun v => v.category).sum ≤ 8) (dg : decode cc pc = .ok (.invokestatic idx, 3)) (k : Wx X S2 (pc + 3) lv (rest)) : Wx X S pc lv (a2 :: a1 :: rest) := r_callS h hM hc hlink hd rfl rfl hroom dg k
theorem cN2 {y : MethodName} {cc' : ByteArray} {mL d' idx : Nat} {rt : Option FieldType} {a1 a2 : Value} {r : Value} {rest : List Value} {S2 : St} (h : Ok X cc own d) (hM : Ct (xl X) y cc' mL rt d' (xw X) [a1, a2] S (fun v S' => v = (some r) ∧ S' = S2)) (hc : CalS y cc' mL rt 2) (hlink : Cond.methodLinkNest own idx y "FarSums" ∈ nw) (hd : d' + 1 ≤ d) (hroom : (rest.map fun v => v.category).sum ≤ 8) (dg : decode cc pc = .ok (.invokestatic idx, 3)) (k : Wx X S2 (pc + 3) lv (r :: rest)) : Wx X S pc lv (a2 :: a1 :: rest) := r_callN h hM hc hlink hd rfl rfl hroom dg k
theorem cN2v {y : MethodName} {cc' : ByteArray} {mL d' idx : Nat} {rt : Option FieldType} {a1 a2 : Value} {rest : List Value} {S2 : St} (h : Ok X cc own d) (hM : Ct (xl X) y cc' mL rt d' (xw X) [a1, a2] S (fun v S' => v = none ∧ S' = S2)) (hc : CalS y cc' mL rt 2) (hlink : Cond.methodLinkNest own idx y "FarSums" ∈ nw) (hd : d' + 1 ≤ d) (hroom : (rest.map fun v => v.category).sum ≤ 8) (dg : decode cc pc = .ok (.invokestatic idx, 3)) (k : Wx X S2 (pc + 3) lv (rest)) : Wx X S pc lv (a2 :: a1 :: rest) := r_callN h hM hc hlink hd rfl rfl hroom dg k
theorem cV3 {y : MethodName} {cc' : ByteArray} {mL d' b idx ci N : Nat} {rt : Option FieldType} {a1 a2 a3 : Value} {r : Value} {rest : List Value} {S2 : St} {T : u_T} {fs : List Value} (h : Ok X cc own d) (hM : Ct (xl X) y cc' mL rt d' (xw X) [.ref b, a1, a2, a3] S (fun v S' => v = (some r) ∧ S' = S2)) (hc : CalV y cc' mL rt 3) (hlink : Cond.methodLink own idx y ∈ tb) (hd : d' + 1 ≤ d) (q0 : Nat) (hpl : (wS (xw X) S)[q0]? = some (b, .inr (ci, fs))) (hcl : vwCl[ci]? = some (y.cls, T, N)) (hroom : (rest.map fun v => v.category).sum ≤ 8) (dg : decode cc pc = .ok (.invokevirtual idx, 3)) (k : Wx X S2 (pc + 3) lv (r :: rest)) : Wx X S pc lv (a3 :: a2 :: a1 :: .ref b :: rest) := r_callV h hM hc hlink hd q0 hpl hcl rfl rfl hroom dg k
theorem cV3v {y : MethodName} {cc' : ByteArray} {mL d' b idx ci N : Nat} {rt : Option FieldType} {a1 a2 a3 : Value} {rest : List Value} {S2 : St} {T : u_T} {fs : List Value} (h : Ok X cc own d) (hM : Ct (xl X) y cc' mL rt d' (xw X) [.ref b, a1, a2, a3] S (fun v S' => v = none ∧ S' = S2)) (hc : CalV y cc' mL rt 3) (hlink : Cond.methodLink own idx y ∈ tb) (hd : d' + 1 ≤ d) (q0 : Nat) (hpl : (wS (xw X) S)[q0]? = some (b, .inr (ci, fs))) (hcl : vwCl[ci]? = some (y.cls, T, N)) (hroom : (rest.map fun v => v.category).sum ≤ 8) (dg : decode cc pc = .ok (.invokevirtual idx, 3)) (k : Wx X S2 (pc + 3) lv (rest)) : Wx X S pc lv (a3 :: a2 :: a1 :: .ref b :: rest) := r_callV h hM hc hlink hd q0 hpl hcl rfl rfl hroom dg k
theorem cS3 {y : MethodName} {cc' : ByteArray} {mL d' idx : Nat} {rt : Option FieldType} {a1 a2 a3 : Value} {r : Value} {rest : List Value} {S2 : St} (h : Ok X cc own d) (hM : Ct (xl X) y cc' mL rt d' (xw X) [a1, a2, a3] S (fun v S' => v = (some r) ∧ S' = S2)) (hc : CalS y cc' mL rt 3) (hlink : Cond.methodLink own idx y ∈ tb) (hd : d' + 1 ≤ d) (hroom : (rest.map fun v => v.category).sum ≤ 8) (dg : decode cc pc = .ok (.invokestatic idx, 3)) (k : Wx X S2 (pc + 3) lv (r :: rest)) : Wx X S pc lv (a3 :: a2 :: a1 :: rest) := r_callS h hM hc hlink hd rfl rfl hroom dg k
theorem cS3v {y : MethodName} {cc' : ByteArray} {mL d' idx : Nat} {rt : Option FieldType} {a1 a2 a3 : Value} {rest : List Value} {S2 : St} (h : Ok X cc own d) (hM : Ct (xl X) y cc' mL rt d' (xw X) [a1, a2, a3] S (fun v S' => v = none ∧ S' = S2)) (hc : CalS y cc' mL rt 3) (hlink : Cond.methodLink own idx y ∈ tb) (hd : d' + 1 ≤ d) (hroom : (rest.map fun v => v.category).sum ≤ 8) (dg : decode cc pc = .ok (.invokestatic idx, 3)) (k : Wx X S2 (pc + 3) lv (rest)) : Wx X S pc lv (a3 :: a2 :: a1 :: rest) := r_callS h hM hc hlink hd rfl rfl hroom dg k
theorem cN3 {y : MethodName} {cc' : ByteArray} {mL d' idx : Nat} {rt : Option FieldType} {a1 a2 a3 : Value} {r : Value} {rest : List Value} {S2 : St} (h : Ok X cc own d) (hM : Ct (xl X) y cc' mL rt d' (xw X) [a1, a2, a3] S (fun v S' => v = (some r) ∧ S' = S2)) (hc : CalS y cc' mL rt 3) (hlink : Cond.methodLinkNest own idx y "FarSums" ∈ nw) (hd : d' + 1 ≤ d) (hroom : (rest.map fun v => v.category).sum ≤ 8) (dg : decode cc pc = .ok (.invokestatic idx, 3)) (k : Wx X S2 (pc + 3) lv (r :: rest)) : Wx X S pc lv (a3 :: a2 :: a1 :: rest) := r_callN h hM hc hlink hd rfl rfl hroom dg k
theorem cN3v {y : MethodName} {cc' : ByteArray} {mL d' idx : Nat} {rt : Option FieldType} {a1 a2 a3 : Value} {rest : List Value} {S2 : St} (h : Ok X cc own d) (hM : Ct (xl X) y cc' mL rt d' (xw X) [a1, a2, a3] S (fun v S' => v = none ∧ S' = S2)) (hc : CalS y cc' mL rt 3) (hlink : Cond.methodLinkNest own idx y "FarSums" ∈ nw) (hd : d' + 1 ≤ d) (hroom : (rest.map fun v => v.category).sum ≤ 8) (dg : decode cc pc = .ok (.invokestatic idx, 3)) (k : Wx X S2 (pc + 3) lv (rest)) : Wx X S pc lv (a3 :: a2 :: a1 :: rest) := r_callN h hM hc hlink hd rfl rfl hroom dg k
theorem cV4 {y : MethodName} {cc' : ByteArray} {mL d' b idx ci N : Nat} {rt : Option FieldType} {a1 a2 a3 a4 : Value} {r : Value} {rest : List Value} {S2 : St} {T : u_T} {fs : List Value} (h : Ok X cc own d) (hM : Ct (xl X) y cc' mL rt d' (xw X) [.ref b, a1, a2, a3, a4] S (fun v S' => v = (some r) ∧ S' = S2)) (hc : CalV y cc' mL rt 4) (hlink : Cond.methodLink own idx y ∈ tb) (hd : d' + 1 ≤ d) (q0 : Nat) (hpl : (wS (xw X) S)[q0]? = some (b, .inr (ci, fs))) (hcl : vwCl[ci]? = some (y.cls, T, N)) (hroom : (rest.map fun v => v.category).sum ≤ 8) (dg : decode cc pc = .ok (.invokevirtual idx, 3)) (k : Wx X S2 (pc + 3) lv (r :: rest)) : Wx X S pc lv (a4 :: a3 :: a2 :: a1 :: .ref b :: rest) := r_callV h hM hc hlink hd q0 hpl hcl rfl rfl hroom dg k
theorem cV4v {y : MethodName} {cc' : ByteArray} {mL d' b idx ci N : Nat} {rt : Option FieldType} {a1 a2 a3 a4 : Value} {rest : List Value} {S2 : St} {T : u_T} {fs : List Value} (h : Ok X cc own d) (hM : Ct (xl X) y cc' mL rt d' (xw X) [.ref b, a1, a2, a3, a4] S (fun v S' => v = none ∧ S' = S2)) (hc : CalV y cc' mL rt 4) (hlink : Cond.methodLink own idx y ∈ tb) (hd : d' + 1 ≤ d) (q0 : Nat) (hpl : (wS (xw X) S)[q0]? = some (b, .inr (ci, fs))) (hcl : vwCl[ci]? = some (y.cls, T, N)) (hroom : (rest.map fun v => v.category).sum ≤ 8) (dg : decode cc pc = .ok (.invokevirtual idx, 3)) (k : Wx X S2 (pc + 3) lv (rest)) : Wx X S pc lv (a4 :: a3 :: a2 :: a1 :: .ref b :: rest) := r_callV h hM hc hlink hd q0 hpl hcl rfl rfl hroom dg k
theorem cS4 {y : MethodName} {cc' : ByteArray} {mL d' idx : Nat} {rt : Option FieldType} {a1 a2 a3 a4 : Value} {r : Value} {rest : List Value} {S2 : St} (h : Ok X cc own d) (hM : Ct (xl X) y cc' mL rt d' (xw X) [a1, a2, a3, a4] S (fun v S' => v = (some r) ∧ S' = S2)) (hc : CalS y cc' mL rt 4) (hlink : Cond.methodLink own idx y ∈ tb) (hd : d' + 1 ≤ d) (hroom : (rest.map fun v => v.category).sum ≤ 8) (dg : decode cc pc = .ok (.invokestatic idx, 3)) (k : Wx X S2 (pc + 3) lv (r :: rest)) : Wx X S pc lv (a4 :: a3 :: a2 :: a1 :: rest) := r_callS h hM hc hlink hd rfl rfl hroom dg k
theorem cS4v {y : MethodName} {cc' : ByteArray} {mL d' idx : Nat} {rt : Option FieldType} {a1 a2 a3 a4 : Value} {rest : List Value} {S2 : St} (h : Ok X cc own d) (hM : Ct (xl X) y cc' mL rt d' (xw X) [a1, a2, a3, a4] S (fun v S' => v = none ∧ S' = S2)) (hc : CalS y cc' mL rt 4) (hlink : Cond.methodLink own idx y ∈ tb) (hd : d' + 1 ≤ d) (hroom : (rest.map fun v => v.category).sum ≤ 8) (dg : decode cc pc = .ok (.invokestatic idx, 3)) (k : Wx X S2 (pc + 3) lv (rest)) : Wx X S pc lv (a4 :: a3 :: a2 :: a1 :: rest) := r_callS h hM hc hlink hd rfl rfl hroom dg k
theorem cN4 {y : MethodName} {cc' : ByteArray} {mL d' idx : Nat} {rt : Option FieldType} {a1 a2 a3 a4 : Value} {r : Value} {rest : List Value} {S2 : St} (h : Ok X cc own d) (hM : Ct (xl X) y cc' mL rt d' (xw X) [a1, a2, a3, a4] S (fun v S' => v = (some r) ∧ S' = S2)) (hc : CalS y cc' mL rt 4) (hlink : Cond.methodLinkNest own idx y "FarSums" ∈ nw) (hd : d' + 1 ≤ d) (hroom : (rest.map fun v => v.category).sum ≤ 8) (dg : decode cc pc = .ok (.invokestatic idx, 3)) (k : Wx X S2 (pc + 3) lv (r :: rest)) : Wx X S pc lv (a4 :: a3 :: a2 :: a1 :: rest) := r_callN h hM hc hlink hd rfl rfl hroom dg k
theorem cN4v {y : MethodName} {cc' : ByteArray} {mL d' idx : Nat} {rt : Option FieldType} {a1 a2 a3 a4 : Value} {rest : List Value} {S2 : St} (h : Ok X cc own d) (hM : Ct (xl X) y cc' mL rt d' (xw X) [a1, a2, a3, a4] S (fun v S' => v = none ∧ S' = S2)) (hc : CalS y cc' mL rt 4) (hlink : Cond.methodLinkNest own idx y "FarSums" ∈ nw) (hd : d' + 1 ≤ d) (hroom : (rest.map fun v => v.category).sum ≤ 8) (dg : decode cc pc = .ok (.invokestatic idx, 3)) (k : Wx X S2 (pc + 3) lv (rest)) : Wx X S pc lv (a4 :: a3 :: a2 :: a1 :: rest) := r_callN h hM hc hlink hd rfl rfl hroom dg k
theorem cV5 {y : MethodName} {cc' : ByteArray} {mL d' b idx ci N : Nat} {rt : Option FieldType} {a1 a2 a3 a4 a5 : Value} {r : Value} {rest : List Value} {S2 : St} {T : u_T} {fs : List Value} (h : Ok X cc own d) (hM : Ct (xl X) y cc' mL rt d' (xw X) [.ref b, a1, a2, a3, a4, a5] S (fun v S' => v = (some r) ∧ S' = S2)) (hc : CalV y cc' mL rt 5) (hlink : Cond.methodLink own idx y ∈ tb) (hd : d' + 1 ≤ d) (q0 : Nat) (hpl : (wS (xw X) S)[q0]? = some (b, .inr (ci, fs))) (hcl : vwCl[ci]? = some (y.cls, T, N)) (hroom : (rest.map fun v => v.category).sum ≤ 8) (dg : decode cc pc = .ok (.invokevirtual idx, 3)) (k : Wx X S2 (pc + 3) lv (r :: rest)) : Wx X S pc lv (a5 :: a4 :: a3 :: a2 :: a1 :: .ref b :: rest) := r_callV h hM hc hlink hd q0 hpl hcl rfl rfl hroom dg k
theorem cV5v {y : MethodName} {cc' : ByteArray} {mL d' b idx ci N : Nat} {rt : Option FieldType} {a1 a2 a3 a4 a5 : Value} {rest : List Value} {S2 : St} {T : u_T} {fs : List Value} (h : Ok X cc own d) (hM : Ct (xl X) y cc' mL rt d' (xw X) [.ref b, a1, a2, a3, a4, a5] S (fun v S' => v = none ∧ S' = S2)) (hc : CalV y cc' mL rt 5) (hlink : Cond.methodLink own idx y ∈ tb) (hd : d' + 1 ≤ d) (q0 : Nat) (hpl : (wS (xw X) S)[q0]? = some (b, .inr (ci, fs))) (hcl : vwCl[ci]? = some (y.cls, T, N)) (hroom : (rest.map fun v => v.category).sum ≤ 8) (dg : decode cc pc = .ok (.invokevirtual idx, 3)) (k : Wx X S2 (pc + 3) lv (rest)) : Wx X S pc lv (a5 :: a4 :: a3 :: a2 :: a1 :: .ref b :: rest) := r_callV h hM hc hlink hd q0 hpl hcl rfl rfl hroom dg k
theorem cS5 {y : MethodName} {cc' : ByteArray} {mL d' idx : Nat} {rt : Option FieldType} {a1 a2 a3 a4 a5 : Value} {r : Value} {rest : List Value} {S2 : St} (h : Ok X cc own d) (hM : Ct (xl X) y cc' mL rt d' (xw X) [a1, a2, a3, a4, a5] S (fun v S' => v = (some r) ∧ S' = S2)) (hc : CalS y cc' mL rt 5) (hlink : Cond.methodLink own idx y ∈ tb) (hd : d' + 1 ≤ d) (hroom : (rest.map fun v => v.category).sum ≤ 8) (dg : decode cc pc = .ok (.invokestatic idx, 3)) (k : Wx X S2 (pc + 3) lv (r :: rest)) : Wx X S pc lv (a5 :: a4 :: a3 :: a2 :: a1 :: rest) := r_callS h hM hc hlink hd rfl rfl hroom dg k
theorem cS5v {y : MethodName} {cc' : ByteArray} {mL d' idx : Nat} {rt : Option FieldType} {a1 a2 a3 a4 a5 : Value} {rest : List Value} {S2 : St} (h : Ok X cc own d) (hM : Ct (xl X) y cc' mL rt d' (xw X) [a1, a2, a3, a4, a5] S (fun v S' => v = none ∧ S' = S2)) (hc : CalS y cc' mL rt 5) (hlink : Cond.methodLink own idx y ∈ tb) (hd : d' + 1 ≤ d) (hroom : (rest.map fun v => v.category).sum ≤ 8) (dg : decode cc pc = .ok (.invokestatic idx, 3)) (k : Wx X S2 (pc + 3) lv (rest)) : Wx X S pc lv (a5 :: a4 :: a3 :: a2 :: a1 :: rest) := r_callS h hM hc hlink hd rfl rfl hroom dg k
theorem cN5 {y : MethodName} {cc' : ByteArray} {mL d' idx : Nat} {rt : Option FieldType} {a1 a2 a3 a4 a5 : Value} {r : Value} {rest : List Value} {S2 : St} (h : Ok X cc own d) (hM : Ct (xl X) y cc' mL rt d' (xw X) [a1, a2, a3, a4, a5] S (fun v S' => v = (some r) ∧ S' = S2)) (hc : CalS y cc' mL rt 5) (hlink : Cond.methodLinkNest own idx y "FarSums" ∈ nw) (hd : d' + 1 ≤ d) (hroom : (rest.map fun v => v.category).sum ≤ 8) (dg : decode cc pc = .ok (.invokestatic idx, 3)) (k : Wx X S2 (pc + 3) lv (r :: rest)) : Wx X S pc lv (a5 :: a4 :: a3 :: a2 :: a1 :: rest) := r_callN h hM hc hlink hd rfl rfl hroom dg k
theorem cN5v {y : MethodName} {cc' : ByteArray} {mL d' idx : Nat} {rt : Option FieldType} {a1 a2 a3 a4 a5 : Value} {rest : List Value} {S2 : St} (h : Ok X cc own d) (hM : Ct (xl X) y cc' mL rt d' (xw X) [a1, a2, a3, a4, a5] S (fun v S' => v = none ∧ S' = S2)) (hc : CalS y cc' mL rt 5) (hlink : Cond.methodLinkNest own idx y "FarSums" ∈ nw) (hd : d' + 1 ≤ d) (hroom : (rest.map fun v => v.category).sum ≤ 8) (dg : decode cc pc = .ok (.invokestatic idx, 3)) (k : Wx X S2 (pc + 3) lv (rest)) : Wx X S pc lv (a5 :: a4 :: a3 :: a2 :: a1 :: rest) := r_callN h hM hc hlink hd rfl rfl hroom dg k
theorem cV6 {y : MethodName} {cc' : ByteArray} {mL d' b idx ci N : Nat} {rt : Option FieldType} {a1 a2 a3 a4 a5 a6 : Value} {r : Value} {rest : List Value} {S2 : St} {T : u_T} {fs : List Value} (h : Ok X cc own d) (hM : Ct (xl X) y cc' mL rt d' (xw X) [.ref b, a1, a2, a3, a4, a5, a6] S (fun v S' => v = (some r) ∧ S' = S2)) (hc : CalV y cc' mL rt 6) (hlink : Cond.methodLink own idx y ∈ tb) (hd : d' + 1 ≤ d) (q0 : Nat) (hpl : (wS (xw X) S)[q0]? = some (b, .inr (ci, fs))) (hcl : vwCl[ci]? = some (y.cls, T, N)) (hroom : (rest.map fun v => v.category).sum ≤ 8) (dg : decode cc pc = .ok (.invokevirtual idx, 3)) (k : Wx X S2 (pc + 3) lv (r :: rest)) : Wx X S pc lv (a6 :: a5 :: a4 :: a3 :: a2 :: a1 :: .ref b :: rest) := r_callV h hM hc hlink hd q0 hpl hcl rfl rfl hroom dg k
theorem cV6v {y : MethodName} {cc' : ByteArray} {mL d' b idx ci N : Nat} {rt : Option FieldType} {a1 a2 a3 a4 a5 a6 : Value} {rest : List Value} {S2 : St} {T : u_T} {fs : List Value} (h : Ok X cc own d) (hM : Ct (xl X) y cc' mL rt d' (xw X) [.ref b, a1, a2, a3, a4, a5, a6] S (fun v S' => v = none ∧ S' = S2)) (hc : CalV y cc' mL rt 6) (hlink : Cond.methodLink own idx y ∈ tb) (hd : d' + 1 ≤ d) (q0 : Nat) (hpl : (wS (xw X) S)[q0]? = some (b, .inr (ci, fs))) (hcl : vwCl[ci]? = some (y.cls, T, N)) (hroom : (rest.map fun v => v.category).sum ≤ 8) (dg : decode cc pc = .ok (.invokevirtual idx, 3)) (k : Wx X S2 (pc + 3) lv (rest)) : Wx X S pc lv (a6 :: a5 :: a4 :: a3 :: a2 :: a1 :: .ref b :: rest) := r_callV h hM hc hlink hd q0 hpl hcl rfl rfl hroom dg k
theorem cS6 {y : MethodName} {cc' : ByteArray} {mL d' idx : Nat} {rt : Option FieldType} {a1 a2 a3 a4 a5 a6 : Value} {r : Value} {rest : List Value} {S2 : St} (h : Ok X cc own d) (hM : Ct (xl X) y cc' mL rt d' (xw X) [a1, a2, a3, a4, a5, a6] S (fun v S' => v = (some r) ∧ S' = S2)) (hc : CalS y cc' mL rt 6) (hlink : Cond.methodLink own idx y ∈ tb) (hd : d' + 1 ≤ d) (hroom : (rest.map fun v => v.category).sum ≤ 8) (dg : decode cc pc = .ok (.invokestatic idx, 3)) (k : Wx X S2 (pc + 3) lv (r :: rest)) : Wx X S pc lv (a6 :: a5 :: a4 :: a3 :: a2 :: a1 :: rest) := r_callS h hM hc hlink hd rfl rfl hroom dg k
theorem cS6v {y : MethodName} {cc' : ByteArray} {mL d' idx : Nat} {rt : Option FieldType} {a1 a2 a3 a4 a5 a6 : Value} {rest : List Value} {S2 : St} (h : Ok X cc own d) (hM : Ct (xl X) y cc' mL rt d' (xw X) [a1, a2, a3, a4, a5, a6] S (fun v S' => v = none ∧ S' = S2)) (hc : CalS y cc' mL rt 6) (hlink : Cond.methodLink own idx y ∈ tb) (hd : d' + 1 ≤ d) (hroom : (rest.map fun v => v.category).sum ≤ 8) (dg : decode cc pc = .ok (.invokestatic idx, 3)) (k : Wx X S2 (pc + 3) lv (rest)) : Wx X S pc lv (a6 :: a5 :: a4 :: a3 :: a2 :: a1 :: rest) := r_callS h hM hc hlink hd rfl rfl hroom dg k
theorem cN6 {y : MethodName} {cc' : ByteArray} {mL d' idx : Nat} {rt : Option FieldType} {a1 a2 a3 a4 a5 a6 : Value} {r : Value} {rest : List Value} {S2 : St} (h : Ok X cc own d) (hM : Ct (xl X) y cc' mL rt d' (xw X) [a1, a2, a3, a4, a5, a6] S (fun v S' => v = (some r) ∧ S' = S2)) (hc : CalS y cc' mL rt 6) (hlink : Cond.methodLinkNest own idx y "FarSums" ∈ nw) (hd : d' + 1 ≤ d) (hroom : (rest.map fun v => v.category).sum ≤ 8) (dg : decode cc pc = .ok (.invokestatic idx, 3)) (k : Wx X S2 (pc + 3) lv (r :: rest)) : Wx X S pc lv (a6 :: a5 :: a4 :: a3 :: a2 :: a1 :: rest) := r_callN h hM hc hlink hd rfl rfl hroom dg k
theorem cN6v {y : MethodName} {cc' : ByteArray} {mL d' idx : Nat} {rt : Option FieldType} {a1 a2 a3 a4 a5 a6 : Value} {rest : List Value} {S2 : St} (h : Ok X cc own d) (hM : Ct (xl X) y cc' mL rt d' (xw X) [a1, a2, a3, a4, a5, a6] S (fun v S' => v = none ∧ S' = S2)) (hc : CalS y cc' mL rt 6) (hlink : Cond.methodLinkNest own idx y "FarSums" ∈ nw) (hd : d' + 1 ≤ d) (hroom : (rest.map fun v => v.category).sum ≤ 8) (dg : decode cc pc = .ok (.invokestatic idx, 3)) (k : Wx X S2 (pc + 3) lv (rest)) : Wx X S pc lv (a6 :: a5 :: a4 :: a3 :: a2 :: a1 :: rest) := r_callN h hM hc hlink hd rfl rfl hroom dg k
theorem cV7 {y : MethodName} {cc' : ByteArray} {mL d' b idx ci N : Nat} {rt : Option FieldType} {a1 a2 a3 a4 a5 a6 a7 : Value} {r : Value} {rest : List Value} {S2 : St} {T : u_T} {fs : List Value} (h : Ok X cc own d) (hM : Ct (xl X) y cc' mL rt d' (xw X) [.ref b, a1, a2, a3, a4, a5, a6, a7] S (fun v S' => v = (some r) ∧ S' = S2)) (hc : CalV y cc' mL rt 7) (hlink : Cond.methodLink own idx y ∈ tb) (hd : d' + 1 ≤ d) (q0 : Nat) (hpl : (wS (xw X) S)[q0]? = some (b, .inr (ci, fs))) (hcl : vwCl[ci]? = some (y.cls, T, N)) (hroom : (rest.map fun v => v.category).sum ≤ 8) (dg : decode cc pc = .ok (.invokevirtual idx, 3)) (k : Wx X S2 (pc + 3) lv (r :: rest)) : Wx X S pc lv (a7 :: a6 :: a5 :: a4 :: a3 :: a2 :: a1 :: .ref b :: rest) := r_callV h hM hc hlink hd q0 hpl hcl rfl rfl hroom dg k
theorem cV7v {y : MethodName} {cc' : ByteArray} {mL d' b idx ci N : Nat} {rt : Option FieldType} {a1 a2 a3 a4 a5 a6 a7 : Value} {rest : List Value} {S2 : St} {T : u_T} {fs : List Value} (h : Ok X cc own d) (hM : Ct (xl X) y cc' mL rt d' (xw X) [.ref b, a1, a2, a3, a4, a5, a6, a7] S (fun v S' => v = none ∧ S' = S2)) (hc : CalV y cc' mL rt 7) (hlink : Cond.methodLink own idx y ∈ tb) (hd : d' + 1 ≤ d) (q0 : Nat) (hpl : (wS (xw X) S)[q0]? = some (b, .inr (ci, fs))) (hcl : vwCl[ci]? = some (y.cls, T, N)) (hroom : (rest.map fun v => v.category).sum ≤ 8) (dg : decode cc pc = .ok (.invokevirtual idx, 3)) (k : Wx X S2 (pc + 3) lv (rest)) : Wx X S pc lv (a7 :: a6 :: a5 :: a4 :: a3 :: a2 :: a1 :: .ref b :: rest) := r_callV h hM hc hlink hd q0 hpl hcl rfl rfl hroom dg k
theorem cS7 {y : MethodName} {cc' : ByteArray} {mL d' idx : Nat} {rt : Option FieldType} {a1 a2 a3 a4 a5 a6 a7 : Value} {r : Value} {rest : List Value} {S2 : St} (h : Ok X cc own d) (hM : Ct (xl X) y cc' mL rt d' (xw X) [a1, a2, a3, a4, a5, a6, a7] S (fun v S' => v = (some r) ∧ S' = S2)) (hc : CalS y cc' mL rt 7) (hlink : Cond.methodLink own idx y ∈ tb) (hd : d' + 1 ≤ d) (hroom : (rest.map fun v => v.category).sum ≤ 8) (dg : decode cc pc = .ok (.invokestatic idx, 3)) (k : Wx X S2 (pc + 3) lv (r :: rest)) : Wx X S pc lv (a7 :: a6 :: a5 :: a4 :: a3 :: a2 :: a1 :: rest) := r_callS h hM hc hlink hd rfl rfl hroom dg k
theorem cS7v {y : MethodName} {cc' : ByteArray} {mL d' idx : Nat} {rt : Option FieldType} {a1 a2 a3 a4 a5 a6 a7 : Value} {rest : List Value} {S2 : St} (h : Ok X cc own d) (hM : Ct (xl X) y cc' mL rt d' (xw X) [a1, a2, a3, a4, a5, a6, a7] S (fun v S' => v = none ∧ S' = S2)) (hc : CalS y cc' mL rt 7) (hlink : Cond.methodLink own idx y ∈ tb) (hd : d' + 1 ≤ d) (hroom : (rest.map fun v => v.category).sum ≤ 8) (dg : decode cc pc = .ok (.invokestatic idx, 3)) (k : Wx X S2 (pc + 3) lv (rest)) : Wx X S pc lv (a7 :: a6 :: a5 :: a4 :: a3 :: a2 :: a1 :: rest) := r_callS h hM hc hlink hd rfl rfl hroom dg k
theorem cN7 {y : MethodName} {cc' : ByteArray} {mL d' idx : Nat} {rt : Option FieldType} {a1 a2 a3 a4 a5 a6 a7 : Value} {r : Value} {rest : List Value} {S2 : St} (h : Ok X cc own d) (hM : Ct (xl X) y cc' mL rt d' (xw X) [a1, a2, a3, a4, a5, a6, a7] S (fun v S' => v = (some r) ∧ S' = S2)) (hc : CalS y cc' mL rt 7) (hlink : Cond.methodLinkNest own idx y "FarSums" ∈ nw) (hd : d' + 1 ≤ d) (hroom : (rest.map fun v => v.category).sum ≤ 8) (dg : decode cc pc = .ok (.invokestatic idx, 3)) (k : Wx X S2 (pc + 3) lv (r :: rest)) : Wx X S pc lv (a7 :: a6 :: a5 :: a4 :: a3 :: a2 :: a1 :: rest) := r_callN h hM hc hlink hd rfl rfl hroom dg k
theorem cN7v {y : MethodName} {cc' : ByteArray} {mL d' idx : Nat} {rt : Option FieldType} {a1 a2 a3 a4 a5 a6 a7 : Value} {rest : List Value} {S2 : St} (h : Ok X cc own d) (hM : Ct (xl X) y cc' mL rt d' (xw X) [a1, a2, a3, a4, a5, a6, a7] S (fun v S' => v = none ∧ S' = S2)) (hc : CalS y cc' mL rt 7) (hlink : Cond.methodLinkNest own idx y "FarSums" ∈ nw) (hd : d' + 1 ≤ d) (hroom : (rest.map fun v => v.category).sum ≤ 8) (dg : decode cc pc = .ok (.invokestatic idx, 3)) (k : Wx X S2 (pc + 3) lv (rest)) : Wx X S pc lv (a7 :: a6 :: a5 :: a4 :: a3 :: a2 :: a1 :: rest) := r_callN h hM hc hlink hd rfl rfl hroom dg k
end
end
section
theorem lm_L_9 : Cond.methodLink RL 9 yX6_init ∈ tb := tb_at 12 (by decide +kernel) rfl
theorem ln_X6_9 : Cond.methodLinkNest RX6 9 yX2_init "FarSums" ∈ nw := nw_at 20 (by decide +kernel) rfl
theorem lf_X2_9 : Cond.fieldLink RX2 9 "FarSums$Points" "here" "[Z" ∈ tb := tb_at 24 (by decide +kernel) rfl
theorem lf_X1_60 : Cond.fieldLink RX1 60 "FarSums$Points" "here" "[Z" ∈ tb := tb_at 25 (by decide +kernel) rfl
theorem lf_X0_43 : Cond.fieldLink RX0 43 "FarSums$Points" "here" "[Z" ∈ tb := tb_at 26 (by decide +kernel) rfl
theorem lf_X6_133 : Cond.fieldLink RX6 133 "FarSums$Points" "here" "[Z" ∈ tb := tb_at 27 (by decide +kernel) rfl
theorem lf_X2_15 : Cond.fieldLink RX2 15 "FarSums$Points" "x" "[I" ∈ tb := tb_at 28 (by decide +kernel) rfl
theorem lf_X6_86 : Cond.fieldLink RX6 86 "FarSums$Points" "x" "[I" ∈ tb := tb_at 29 (by decide +kernel) rfl
theorem lf_X1_66 : Cond.fieldLink RX1 66 "FarSums$Points" "x" "[I" ∈ tb := tb_at 30 (by decide +kernel) rfl
theorem lf_X0_49 : Cond.fieldLink RX0 49 "FarSums$Points" "x" "[I" ∈ tb := tb_at 31 (by decide +kernel) rfl
theorem lf_X2_19 : Cond.fieldLink RX2 19 "FarSums$Points" "y" "[I" ∈ tb := tb_at 32 (by decide +kernel) rfl
theorem lf_X6_90 : Cond.fieldLink RX6 90 "FarSums$Points" "y" "[I" ∈ tb := tb_at 33 (by decide +kernel) rfl
theorem lf_X1_69 : Cond.fieldLink RX1 69 "FarSums$Points" "y" "[I" ∈ tb := tb_at 34 (by decide +kernel) rfl
theorem lf_X0_56 : Cond.fieldLink RX0 56 "FarSums$Points" "y" "[I" ∈ tb := tb_at 35 (by decide +kernel) rfl
theorem lf_X2_22 : Cond.fieldLink RX2 22 "FarSums$Points" "weight" "[I" ∈ tb := tb_at 36 (by decide +kernel) rfl
theorem lf_X6_108 : Cond.fieldLink RX6 108 "FarSums$Points" "weight" "[I" ∈ tb := tb_at 37 (by decide +kernel) rfl
theorem lf_X0_63 : Cond.fieldLink RX0 63 "FarSums$Points" "weight" "[I" ∈ tb := tb_at 38 (by decide +kernel) rfl
theorem lf_X2_25 : Cond.fieldLink RX2 25 "FarSums$Points" "paceX" "[I" ∈ tb := tb_at 39 (by decide +kernel) rfl
theorem lf_X1_97 : Cond.fieldLink RX1 97 "FarSums$Points" "paceX" "[I" ∈ tb := tb_at 40 (by decide +kernel) rfl
theorem lf_X2_28 : Cond.fieldLink RX2 28 "FarSums$Points" "paceY" "[I" ∈ tb := tb_at 41 (by decide +kernel) rfl
theorem lf_X1_100 : Cond.fieldLink RX1 100 "FarSums$Points" "paceY" "[I" ∈ tb := tb_at 42 (by decide +kernel) rfl
theorem lf_X2_31 : Cond.fieldLink RX2 31 "FarSums$Points" "number" "I" ∈ tb := tb_at 43 (by decide +kernel) rfl
theorem lf_X6_100 : Cond.fieldLink RX6 100 "FarSums$Points" "number" "I" ∈ tb := tb_at 44 (by decide +kernel) rfl
theorem lm_X6_18 : Cond.methodLink RX6 18 yX0_init ∈ tb := tb_at 64 (by decide +kernel) rfl
theorem lf_X0_26 : Cond.fieldLink RX0 26 "FarSums$Boxes" "points" "LFarSums$Points;" ∈ tb := tb_at 68 (by decide +kernel) rfl
theorem lf_X0_9 : Cond.fieldLink RX0 9 "FarSums$Boxes" "tally" "[I" ∈ tb := tb_at 69 (by decide +kernel) rfl
theorem lf_X0_15 : Cond.fieldLink RX0 15 "FarSums$Boxes" "room" "I" ∈ tb := tb_at 70 (by decide +kernel) rfl
theorem lf_X6_128 : Cond.fieldLink RX6 128 "FarSums$Boxes" "room" "I" ∈ tb := tb_at 71 (by decide +kernel) rfl
theorem lf_X0_19 : Cond.fieldLink RX0 19 "FarSums$Boxes" "moments" "[J" ∈ tb := tb_at 72 (by decide +kernel) rfl
theorem lf_X1_50 : Cond.fieldLink RX1 50 "FarSums$Boxes" "moments" "[J" ∈ tb := tb_at 73 (by decide +kernel) rfl
theorem lf_X6_174 : Cond.fieldLink RX6 174 "FarSums$Boxes" "moments" "[J" ∈ tb := tb_at 74 (by decide +kernel) rfl
theorem lf_X0_23 : Cond.fieldLink RX0 23 "FarSums$Boxes" "bulk" "I" ∈ tb := tb_at 75 (by decide +kernel) rfl
theorem lf_X6_168 : Cond.fieldLink RX6 168 "FarSums$Boxes" "bulk" "I" ∈ tb := tb_at 76 (by decide +kernel) rfl
theorem ln_X6_27 : Cond.methodLinkNest RX6 27 yX3_init "FarSums" ∈ nw := nw_at 91 (by decide +kernel) rfl
theorem lf_X3_9 : Cond.fieldLink RX3 9 "FarSums$Polynomial" "numbers" "[J" ∈ tb := tb_at 95 (by decide +kernel) rfl
theorem lm_X6_32 : Cond.methodLink RX6 32 yX3_set ∈ tb := tb_at 99 (by decide +kernel) rfl
theorem ln_X3_15 : Cond.methodLinkNest RX3 15 yX6_slot "FarSums" ∈ nw := nw_at 103 (by decide +kernel) rfl
theorem lm_X6_38 : Cond.methodLink RX6 38 yX4_init ∈ tb := tb_at 108 (by decide +kernel) rfl
theorem ln_X4_11 : Cond.methodLinkNest RX4 11 yX3_init "FarSums" ∈ nw := nw_at 113 (by decide +kernel) rfl
theorem lf_X4_18 : Cond.fieldLink RX4 18 "FarSums$Series" "factors" "LFarSums$Polynomial;" ∈ tb := tb_at 114 (by decide +kernel) rfl
theorem lf_X4_12 : Cond.fieldLink RX4 12 "FarSums$Series" "result" "LFarSums$Polynomial;" ∈ tb := tb_at 115 (by decide +kernel) rfl
theorem lf_X1_80 : Cond.fieldLink RX1 80 "FarSums$Series" "result" "LFarSums$Polynomial;" ∈ tb := tb_at 116 (by decide +kernel) rfl
theorem lf_X6_251 : Cond.fieldLink RX6 251 "FarSums$Series" "result" "LFarSums$Polynomial;" ∈ tb := tb_at 117 (by decide +kernel) rfl
theorem lm_X6_47 : Cond.methodLink RX6 47 yX5_init ∈ tb := tb_at 125 (by decide +kernel) rfl
theorem lf_X5_34 : Cond.fieldLink RX5 34 "FarSums$Trail" "points" "LFarSums$Points;" ∈ tb := tb_at 129 (by decide +kernel) rfl
theorem lf_X5_38 : Cond.fieldLink RX5 38 "FarSums$Trail" "boxes" "LFarSums$Boxes;" ∈ tb := tb_at 130 (by decide +kernel) rfl
theorem lf_X5_9 : Cond.fieldLink RX5 9 "FarSums$Trail" "level" "[I" ∈ tb := tb_at 131 (by decide +kernel) rfl
theorem lf_X6_231 : Cond.fieldLink RX6 231 "FarSums$Trail" "level" "[I" ∈ tb := tb_at 132 (by decide +kernel) rfl
theorem lf_X5_15 : Cond.fieldLink RX5 15 "FarSums$Trail" "first" "[I" ∈ tb := tb_at 133 (by decide +kernel) rfl
theorem lf_X6_234 : Cond.fieldLink RX6 234 "FarSums$Trail" "first" "[I" ∈ tb := tb_at 134 (by decide +kernel) rfl
theorem lf_X5_18 : Cond.fieldLink RX5 18 "FarSums$Trail" "second" "[I" ∈ tb := tb_at 135 (by decide +kernel) rfl
theorem lf_X6_244 : Cond.fieldLink RX6 244 "FarSums$Trail" "second" "[I" ∈ tb := tb_at 136 (by decide +kernel) rfl
theorem lf_X5_21 : Cond.fieldLink RX5 21 "FarSums$Trail" "length" "I" ∈ tb := tb_at 137 (by decide +kernel) rfl
theorem lf_X6_153 : Cond.fieldLink RX6 153 "FarSums$Trail" "length" "I" ∈ tb := tb_at 138 (by decide +kernel) rfl
theorem lf_X5_25 : Cond.fieldLink RX5 25 "FarSums$Trail" "placeX" "I" ∈ tb := tb_at 139 (by decide +kernel) rfl
theorem lf_X5_28 : Cond.fieldLink RX5 28 "FarSums$Trail" "placeY" "I" ∈ tb := tb_at 140 (by decide +kernel) rfl
theorem lf_X5_31 : Cond.fieldLink RX5 31 "FarSums$Trail" "distance" "I" ∈ tb := tb_at 141 (by decide +kernel) rfl
theorem lm_X6_56 : Cond.methodLink RX6 56 yX1_init ∈ tb := tb_at 163 (by decide +kernel) rfl
theorem lf_X1_22 : Cond.fieldLink RX1 22 "FarSums$Motion" "points" "LFarSums$Points;" ∈ tb := tb_at 167 (by decide +kernel) rfl
theorem lf_X1_26 : Cond.fieldLink RX1 26 "FarSums$Motion" "boxes" "LFarSums$Boxes;" ∈ tb := tb_at 168 (by decide +kernel) rfl
theorem lf_X1_30 : Cond.fieldLink RX1 30 "FarSums$Motion" "series" "LFarSums$Series;" ∈ tb := tb_at 169 (by decide +kernel) rfl
theorem lf_X1_9 : Cond.fieldLink RX1 9 "FarSums$Motion" "pushX" "[I" ∈ tb := tb_at 170 (by decide +kernel) rfl
theorem lf_X1_15 : Cond.fieldLink RX1 15 "FarSums$Motion" "pushY" "[I" ∈ tb := tb_at 171 (by decide +kernel) rfl
theorem lf_X1_18 : Cond.fieldLink RX1 18 "FarSums$Motion" "steps" "I" ∈ tb := tb_at 172 (by decide +kernel) rfl
theorem lf_X6_193 : Cond.fieldLink RX6 193 "FarSums$Motion" "steps" "I" ∈ tb := tb_at 173 (by decide +kernel) rfl
theorem lf_X6_10 : Cond.fieldLink RX6 10 "FarSums" "points" "LFarSums$Points;" ∈ tb := tb_at 187 (by decide +kernel) rfl
theorem lf_X6_21 : Cond.fieldLink RX6 21 "FarSums" "boxes" "LFarSums$Boxes;" ∈ tb := tb_at 188 (by decide +kernel) rfl
theorem lf_X6_28 : Cond.fieldLink RX6 28 "FarSums" "factors" "LFarSums$Polynomial;" ∈ tb := tb_at 189 (by decide +kernel) rfl
theorem lf_X6_41 : Cond.fieldLink RX6 41 "FarSums" "series" "LFarSums$Series;" ∈ tb := tb_at 190 (by decide +kernel) rfl
theorem lf_X6_50 : Cond.fieldLink RX6 50 "FarSums" "trail" "LFarSums$Trail;" ∈ tb := tb_at 191 (by decide +kernel) rfl
theorem lf_X6_59 : Cond.fieldLink RX6 59 "FarSums" "motion" "LFarSums$Motion;" ∈ tb := tb_at 192 (by decide +kernel) rfl
theorem lm_L_13 : Cond.methodLink RL 13 yX6_point ∈ tb := tb_at 206 (by decide +kernel) rfl
theorem lm_X6_63 : Cond.methodLink RX6 63 yX6_isPlace ∈ tb := tb_at 210 (by decide +kernel) rfl
theorem lm_X6_67 : Cond.methodLink RX6 67 yX6_isWeight ∈ tb := tb_at 213 (by decide +kernel) rfl
theorem lm_X6_71 : Cond.methodLink RX6 71 yX2_leastFree ∈ tb := tb_at 216 (by decide +kernel) rfl
theorem lm_X6_75 : Cond.methodLink RX6 75 yX2_add ∈ tb := tb_at 220 (by decide +kernel) rfl
theorem lm_X2_35 : Cond.methodLink RX2 35 yX2_put ∈ tb := tb_at 224 (by decide +kernel) rfl
theorem lm_X2_39 : Cond.methodLink RX2 39 yX2_setPace ∈ tb := tb_at 228 (by decide +kernel) rfl
theorem lm_X6_79 : Cond.methodLink RX6 79 yX0_enter ∈ tb := tb_at 232 (by decide +kernel) rfl
theorem lm_X0_30 : Cond.methodLink RX0 30 yX0_placeIndex ∈ tb := tb_at 236 (by decide +kernel) rfl
theorem lm_X0_52 : Cond.methodLink RX0 52 yX0_numberAt ∈ tb := tb_at 239 (by decide +kernel) rfl
theorem lm_X0_34 : Cond.methodLink RX0 34 yX0_boxIndex ∈ tb := tb_at 242 (by decide +kernel) rfl
theorem lf_X0_40 : Cond.fieldLinkNest RX0 40 "FarSums" "FIRST_OF_LEVEL" "[I" "FarSums" ∈ nw := nw_at 245 (by decide +kernel) rfl
theorem lm_L_18 : Cond.methodLink RL 18 yX6_take ∈ tb := tb_at 247 (by decide +kernel) rfl
theorem lm_X6_83 : Cond.methodLink RX6 83 yX2_has ∈ tb := tb_at 251 (by decide +kernel) rfl
theorem lm_X6_93 : Cond.methodLink RX6 93 yX0_leave ∈ tb := tb_at 255 (by decide +kernel) rfl
theorem lm_X6_96 : Cond.methodLink RX6 96 yX2_remove ∈ tb := tb_at 259 (by decide +kernel) rfl
theorem lm_L_23 : Cond.methodLink RL 23 yX6_move ∈ tb := tb_at 263 (by decide +kernel) rfl
theorem lm_X6_104 : Cond.methodLink RX6 104 yX2_put ∈ tb := tb_at 267 (by decide +kernel) rfl
theorem lm_L_27 : Cond.methodLink RL 27 yX6_weigh ∈ tb := tb_at 268 (by decide +kernel) rfl
theorem lm_L_32 : Cond.methodLink RL 32 yX6_pace ∈ tb := tb_at 272 (by decide +kernel) rfl
theorem lm_X6_111 : Cond.methodLink RX6 111 yX6_isPaceNumber ∈ tb := tb_at 276 (by decide +kernel) rfl
theorem lm_X6_114 : Cond.methodLink RX6 114 yX2_setPace ∈ tb := tb_at 279 (by decide +kernel) rfl
theorem lm_L_36 : Cond.methodLink RL 36 yX6_at ∈ tb := tb_at 280 (by decide +kernel) rfl
theorem lm_X6_117 : Cond.methodLink RX6 117 yX2_read ∈ tb := tb_at 284 (by decide +kernel) rfl
theorem lm_L_40 : Cond.methodLink RL 40 yX6_kernel ∈ tb := tb_at 288 (by decide +kernel) rfl
theorem lm_X6_121 : Cond.methodLink RX6 121 yX6_isPowers ∈ tb := tb_at 292 (by decide +kernel) rfl
theorem lm_X6_124 : Cond.methodLink RX6 124 yX3_get ∈ tb := tb_at 295 (by decide +kernel) rfl
theorem lm_L_44 : Cond.methodLink RL 44 yX6_capacity ∈ tb := tb_at 299 (by decide +kernel) rfl
theorem lm_L_48 : Cond.methodLink RL 48 yX6_sum ∈ tb := tb_at 303 (by decide +kernel) rfl
theorem lc_X6_131 : Cond.constantLong RX6 131 (-9000000000000000000) ∈ tb := tb_at 307 (by decide +kernel) rfl
theorem lm_X6_137 : Cond.methodLink RX6 137 yX6_pullOf ∈ tb := tb_at 308 (by decide +kernel) rfl
theorem lm_X6_227 : Cond.methodLink RX6 227 yX3_valueAt ∈ tb := tb_at 312 (by decide +kernel) rfl
theorem lm_L_53 : Cond.methodLink RL 53 yX6_across ∈ tb := tb_at 316 (by decide +kernel) rfl
theorem lm_X6_141 : Cond.methodLink RX6 141 yX6_isDistance ∈ tb := tb_at 320 (by decide +kernel) rfl
theorem lm_X6_144 : Cond.methodLink RX6 144 yX5_trace ∈ tb := tb_at 323 (by decide +kernel) rfl
theorem lm_X5_42 : Cond.methodLink RX5 42 yX5_visit ∈ tb := tb_at 327 (by decide +kernel) rfl
theorem lm_X5_46 : Cond.methodLink RX5 46 yX0_pointsIn ∈ tb := tb_at 331 (by decide +kernel) rfl
theorem lm_X5_52 : Cond.methodLink RX5 52 yX5_isFar ∈ tb := tb_at 335 (by decide +kernel) rfl
theorem ln_X5_65 : Cond.methodLinkNest RX5 65 yX6_sideOf "FarSums" ∈ nw := nw_at 339 (by decide +kernel) rfl
theorem ln_X5_69 : Cond.methodLinkNest RX5 69 yX6_fromMiddle "FarSums" ∈ nw := nw_at 342 (by decide +kernel) rfl
theorem lm_X6_257 : Cond.methodLink RX6 257 yX6_sideOf ∈ tb := tb_at 345 (by decide +kernel) rfl
theorem lm_X5_72 : Cond.methodLink RX5 72 yJ9_abs_0f7a4 ∈ tb := tb_at 346 (by decide +kernel) rfl
theorem lm_X5_56 : Cond.methodLink RX5 56 yX5_note ∈ tb := tb_at 349 (by decide +kernel) rfl
theorem lm_X5_59 : Cond.methodLink RX5 59 yX0_isSplit ∈ tb := tb_at 353 (by decide +kernel) rfl
theorem lm_X0_37 : Cond.methodLink RX0 37 yX0_pointsIn ∈ tb := tb_at 357 (by decide +kernel) rfl
theorem lm_X5_62 : Cond.methodLink RX5 62 yX5_notePoints ∈ tb := tb_at 358 (by decide +kernel) rfl
theorem lm_X5_77 : Cond.methodLink RX5 77 yX0_holds ∈ tb := tb_at 362 (by decide +kernel) rfl
theorem lm_X6_147 : Cond.methodLink RX6 147 yX6_about ∈ tb := tb_at 366 (by decide +kernel) rfl
theorem lm_X6_237 : Cond.methodLink RX6 237 yX6_termOf ∈ tb := tb_at 370 (by decide +kernel) rfl
theorem lm_X6_165 : Cond.methodLink RX6 165 yX0_gather ∈ tb := tb_at 374 (by decide +kernel) rfl
theorem lm_X0_59 : Cond.methodLink RX0 59 yX0_holds ∈ tb := tb_at 378 (by decide +kernel) rfl
theorem ln_X0_66 : Cond.methodLinkNest RX0 66 yX6_fromMiddle "FarSums" ∈ nw := nw_at 379 (by decide +kernel) rfl
theorem lm_X0_69 : Cond.methodLink RX0 69 yX0_addMoments ∈ tb := tb_at 380 (by decide +kernel) rfl
theorem ln_X0_79 : Cond.methodLinkNest RX0 79 yX6_slot "FarSums" ∈ nw := nw_at 384 (by decide +kernel) rfl
theorem lm_X0_73 : Cond.methodLink RX0 73 yJ9_abs_0f7a4 ∈ tb := tb_at 385 (by decide +kernel) rfl
theorem lm_X6_247 : Cond.methodLink RX6 247 yX4_expandTerm ∈ tb := tb_at 386 (by decide +kernel) rfl
theorem lm_X4_21 : Cond.methodLink RX4 21 yX3_clear ∈ tb := tb_at 390 (by decide +kernel) rfl
theorem lm_X4_24 : Cond.methodLink RX4 24 yX3_get ∈ tb := tb_at 394 (by decide +kernel) rfl
theorem lm_X4_28 : Cond.methodLink RX4 28 yX4_addTermParts ∈ tb := tb_at 395 (by decide +kernel) rfl
theorem lm_X4_42 : Cond.methodLink RX4 42 yX4_waysToChoose ∈ tb := tb_at 399 (by decide +kernel) rfl
theorem lf_X4_61 : Cond.fieldLinkNest RX4 61 "FarSums" "CHOOSE" "[I" "FarSums" ∈ nw := nw_at 402 (by decide +kernel) rfl
theorem ln_X4_46 : Cond.methodLinkNest RX4 46 yX6_slot "FarSums" ∈ nw := nw_at 404 (by decide +kernel) rfl
theorem lm_X4_50 : Cond.methodLink RX4 50 yX3_add ∈ tb := tb_at 405 (by decide +kernel) rfl
theorem lm_X6_254 : Cond.methodLink RX6 254 yX6_fromMiddle ∈ tb := tb_at 409 (by decide +kernel) rfl
theorem lm_X6_150 : Cond.methodLink RX6 150 yX6_wholeEnd ∈ tb := tb_at 410 (by decide +kernel) rfl
theorem lm_X6_241 : Cond.methodLink RX6 241 yX6_endOf ∈ tb := tb_at 414 (by decide +kernel) rfl
theorem lm_X6_260 : Cond.methodLink RX6 260 yX4_expandEnd ∈ tb := tb_at 418 (by decide +kernel) rfl
theorem lm_X4_32 : Cond.methodLink RX4 32 yJ9_abs_067f4 ∈ tb := tb_at 422 (by decide +kernel) rfl
theorem lm_X4_38 : Cond.methodLink RX4 38 yX4_addEndParts ∈ tb := tb_at 425 (by decide +kernel) rfl
theorem lm_X4_54 : Cond.methodLink RX4 54 yJ9_max_7cf53 ∈ tb := tb_at 429 (by decide +kernel) rfl
theorem lm_X4_57 : Cond.methodLink RX4 57 yX4_power ∈ tb := tb_at 432 (by decide +kernel) rfl
theorem lm_X6_264 : Cond.methodLink RX6 264 yJ9_abs_0f7a4 ∈ tb := tb_at 435 (by decide +kernel) rfl
theorem lm_L_60 : Cond.methodLink RL 60 yX6_order ∈ tb := tb_at 436 (by decide +kernel) rfl
theorem lm_L_65 : Cond.methodLink RL 65 yX6_way ∈ tb := tb_at 440 (by decide +kernel) rfl
theorem lm_X6_156 : Cond.methodLink RX6 156 yX5_read ∈ tb := tb_at 444 (by decide +kernel) rfl
theorem lm_L_70 : Cond.methodLink RL 70 yX6_box ∈ tb := tb_at 448 (by decide +kernel) rfl
theorem lm_X6_157 : Cond.methodLink RX6 157 yX0_isThere ∈ tb := tb_at 452 (by decide +kernel) rfl
theorem lm_X6_161 : Cond.methodLink RX6 161 yX0_pointsIn ∈ tb := tb_at 456 (by decide +kernel) rfl
theorem lm_X6_171 : Cond.methodLink RX6 171 yX0_isSplit ∈ tb := tb_at 457 (by decide +kernel) rfl
theorem lm_L_75 : Cond.methodLink RL 75 yX6_moment ∈ tb := tb_at 458 (by decide +kernel) rfl
theorem lm_X6_178 : Cond.methodLink RX6 178 yX6_slot ∈ tb := tb_at 462 (by decide +kernel) rfl
theorem lm_L_79 : Cond.methodLink RL 79 yX6_leaf ∈ tb := tb_at 463 (by decide +kernel) rfl
theorem lm_X6_181 : Cond.methodLink RX6 181 yX0_leafLevel ∈ tb := tb_at 467 (by decide +kernel) rfl
theorem lm_L_83 : Cond.methodLink RL 83 yX6_nearest ∈ tb := tb_at 471 (by decide +kernel) rfl
theorem lm_X6_184 : Cond.methodLink RX6 184 yX2_nearerThan ∈ tb := tb_at 475 (by decide +kernel) rfl
theorem lm_X2_48 : Cond.methodLink RX2 48 yX2_rankKey ∈ tb := tb_at 479 (by decide +kernel) rfl
theorem lm_L_87 : Cond.methodLink RL 87 yX6_step ∈ tb := tb_at 483 (by decide +kernel) rfl
theorem lm_X6_187 : Cond.methodLink RX6 187 yX1_forth ∈ tb := tb_at 487 (by decide +kernel) rfl
theorem lm_X1_34 : Cond.methodLink RX1 34 yX1_findPushes ∈ tb := tb_at 491 (by decide +kernel) rfl
theorem lm_X1_44 : Cond.methodLink RX1 44 yX0_gather ∈ tb := tb_at 495 (by decide +kernel) rfl
theorem lm_X1_54 : Cond.methodLink RX1 54 yX4_expandTerm ∈ tb := tb_at 496 (by decide +kernel) rfl
theorem lm_X1_72 : Cond.methodLink RX1 72 yX1_wholeSum ∈ tb := tb_at 497 (by decide +kernel) rfl
theorem ln_X1_84 : Cond.methodLinkNest RX1 84 yX6_fromMiddle "FarSums" ∈ nw := nw_at 501 (by decide +kernel) rfl
theorem lm_X1_88 : Cond.methodLink RX1 88 yX3_valueAt ∈ tb := tb_at 502 (by decide +kernel) rfl
theorem lm_X1_76 : Cond.methodLink RX1 76 yX1_pushOf ∈ tb := tb_at 503 (by decide +kernel) rfl
theorem ln_X1_94 : Cond.methodLinkNest RX1 94 yX6_wrapPace "FarSums" ∈ nw := nw_at 506 (by decide +kernel) rfl
theorem lc_X6_269 : Cond.constantLong RX6 269 (-32) ∈ tb := tb_at 509 (by decide +kernel) rfl
theorem lc_X6_271 : Cond.constantLong RX6 271 (63) ∈ tb := tb_at 510 (by decide +kernel) rfl
theorem lm_X1_37 : Cond.methodLink RX1 37 yX1_addPushes ∈ tb := tb_at 511 (by decide +kernel) rfl
theorem lm_X1_103 : Cond.methodLink RX1 103 yX2_setPace ∈ tb := tb_at 515 (by decide +kernel) rfl
theorem lm_X1_41 : Cond.methodLink RX1 41 yX1_shiftPlaces ∈ tb := tb_at 516 (by decide +kernel) rfl
theorem lm_X1_106 : Cond.methodLink RX1 106 yX0_leave ∈ tb := tb_at 520 (by decide +kernel) rfl
theorem ln_X1_110 : Cond.methodLinkNest RX1 110 yX6_wrapPlace "FarSums" ∈ nw := nw_at 521 (by decide +kernel) rfl
theorem lm_X1_114 : Cond.methodLink RX1 114 yX2_put ∈ tb := tb_at 524 (by decide +kernel) rfl
theorem lm_X1_117 : Cond.methodLink RX1 117 yX0_enter ∈ tb := tb_at 525 (by decide +kernel) rfl
theorem lm_X6_190 : Cond.methodLink RX6 190 yX1_back ∈ tb := tb_at 526 (by decide +kernel) rfl
theorem lm_L_91 : Cond.methodLink RL 91 yX6_count ∈ tb := tb_at 530 (by decide +kernel) rfl
theorem lm_X6_196 : Cond.methodLink RX6 196 yX0_splitBoxes ∈ tb := tb_at 534 (by decide +kernel) rfl
theorem lm_X6_199 : Cond.methodLink RX6 199 yX0_greatestLevel ∈ tb := tb_at 538 (by decide +kernel) rfl
theorem lm_X6_202 : Cond.methodLink RX6 202 yX2_wholeBulk ∈ tb := tb_at 542 (by decide +kernel) rfl
theorem lm_X2_42 : Cond.methodLink RX2 42 yJ9_abs_0f7a4 ∈ tb := tb_at 546 (by decide +kernel) rfl
theorem lm_L_95 : Cond.methodLink RL 95 yX6_digest ∈ tb := tb_at 547 (by decide +kernel) rfl
theorem lc_X6_205 : Cond.constantLong RX6 205 (151) ∈ tb := tb_at 551 (by decide +kernel) rfl
theorem lc_X6_207 : Cond.constantLong RX6 207 (31) ∈ tb := tb_at 552 (by decide +kernel) rfl
theorem lm_X6_209 : Cond.methodLink RX6 209 yX6_count ∈ tb := tb_at 553 (by decide +kernel) rfl
theorem lm_X6_213 : Cond.methodLink RX6 213 yX6_digestPoints ∈ tb := tb_at 554 (by decide +kernel) rfl
theorem lm_X6_217 : Cond.methodLink RX6 217 yX6_digestFactors ∈ tb := tb_at 558 (by decide +kernel) rfl
theorem lm_X6_220 : Cond.methodLink RX6 220 yX6_digestBoxes ∈ tb := tb_at 562 (by decide +kernel) rfl
theorem lm_X6_223 : Cond.methodLink RX6 223 yX6_digestMoments ∈ tb := tb_at 566 (by decide +kernel) rfl
theorem lm_L_12 : Cond.methodLink RL 12 yX7_init ∈ tb := tb_at 572 (by decide +kernel) rfl
theorem lf_X7_7 : Cond.fieldLink RX7 7 "FarSumsModel" "there" "[Z" ∈ tb := tb_at 576 (by decide +kernel) rfl
theorem lf_X7_13 : Cond.fieldLink RX7 13 "FarSumsModel" "px" "[I" ∈ tb := tb_at 577 (by decide +kernel) rfl
theorem lf_X7_17 : Cond.fieldLink RX7 17 "FarSumsModel" "py" "[I" ∈ tb := tb_at 578 (by decide +kernel) rfl
theorem lf_X7_20 : Cond.fieldLink RX7 20 "FarSumsModel" "weight" "[I" ∈ tb := tb_at 579 (by decide +kernel) rfl
theorem lf_X7_23 : Cond.fieldLink RX7 23 "FarSumsModel" "vx" "[I" ∈ tb := tb_at 580 (by decide +kernel) rfl
theorem lf_X7_26 : Cond.fieldLink RX7 26 "FarSumsModel" "vy" "[I" ∈ tb := tb_at 581 (by decide +kernel) rfl
theorem lf_X7_29 : Cond.fieldLink RX7 29 "FarSumsModel" "kernel" "[I" ∈ tb := tb_at 582 (by decide +kernel) rfl
theorem lf_X7_32 : Cond.fieldLink RX7 32 "FarSumsModel" "most" "I" ∈ tb := tb_at 583 (by decide +kernel) rfl
theorem lf_X7_201 : Cond.fieldLink RX7 201 "FarSumsModel" "steps" "I" ∈ tb := tb_at 584 (by decide +kernel) rfl
theorem lf_X7_36 : Cond.fieldLink RX7 36 "FarSumsModel" "stackLevel" "[I" ∈ tb := tb_at 585 (by decide +kernel) rfl
theorem lf_X7_39 : Cond.fieldLink RX7 39 "FarSumsModel" "stackI" "[I" ∈ tb := tb_at 586 (by decide +kernel) rfl
theorem lf_X7_42 : Cond.fieldLink RX7 42 "FarSumsModel" "stackJ" "[I" ∈ tb := tb_at 587 (by decide +kernel) rfl
theorem lf_X7_45 : Cond.fieldLink RX7 45 "FarSumsModel" "wayLevel" "[I" ∈ tb := tb_at 588 (by decide +kernel) rfl
theorem lf_X7_48 : Cond.fieldLink RX7 48 "FarSumsModel" "wayI" "[I" ∈ tb := tb_at 589 (by decide +kernel) rfl
theorem lf_X7_51 : Cond.fieldLink RX7 51 "FarSumsModel" "wayJ" "[I" ∈ tb := tb_at 590 (by decide +kernel) rfl
theorem lf_X7_150 : Cond.fieldLink RX7 150 "FarSumsModel" "wayMany" "I" ∈ tb := tb_at 591 (by decide +kernel) rfl
theorem lf_X7_153 : Cond.fieldLink RX7 153 "FarSumsModel" "about" "J" ∈ tb := tb_at 592 (by decide +kernel) rfl
theorem lf_X7_157 : Cond.fieldLink RX7 157 "FarSumsModel" "end" "J" ∈ tb := tb_at 593 (by decide +kernel) rfl
theorem lf_X7_54 : Cond.fieldLink RX7 54 "FarSumsModel" "pushX" "[I" ∈ tb := tb_at 594 (by decide +kernel) rfl
theorem lf_X7_57 : Cond.fieldLink RX7 57 "FarSumsModel" "pushY" "[I" ∈ tb := tb_at 595 (by decide +kernel) rfl
theorem lm_L_17 : Cond.methodLink RL 17 yX7_point ∈ tb := tb_at 637 (by decide +kernel) rfl
theorem lm_X7_68 : Cond.methodLink RX7 68 yX7_isPlace ∈ tb := tb_at 641 (by decide +kernel) rfl
theorem lc_X7_60 : Cond.constantLong RX7 60 (63) ∈ tb := tb_at 644 (by decide +kernel) rfl
theorem lm_X7_62 : Cond.methodLink RX7 62 yX7_in ∈ tb := tb_at 645 (by decide +kernel) rfl
theorem lc_X7_72 : Cond.constantLong RX7 72 (-1000) ∈ tb := tb_at 648 (by decide +kernel) rfl
theorem lc_X7_74 : Cond.constantLong RX7 74 (1000) ∈ tb := tb_at 649 (by decide +kernel) rfl
theorem lm_L_22 : Cond.methodLink RL 22 yX7_take ∈ tb := tb_at 650 (by decide +kernel) rfl
theorem lm_X7_76 : Cond.methodLink RX7 76 yX7_isPoint ∈ tb := tb_at 654 (by decide +kernel) rfl
theorem lc_X7_66 : Cond.constantLong RX7 66 (39) ∈ tb := tb_at 658 (by decide +kernel) rfl
theorem lm_X7_80 : Cond.methodLink RX7 80 yX7_many ∈ tb := tb_at 659 (by decide +kernel) rfl
theorem lm_L_26 : Cond.methodLink RL 26 yX7_move ∈ tb := tb_at 663 (by decide +kernel) rfl
theorem lm_L_31 : Cond.methodLink RL 31 yX7_weigh ∈ tb := tb_at 667 (by decide +kernel) rfl
theorem lm_L_35 : Cond.methodLink RL 35 yX7_pace ∈ tb := tb_at 671 (by decide +kernel) rfl
theorem lc_X7_84 : Cond.constantLong RX7 84 (-32) ∈ tb := tb_at 675 (by decide +kernel) rfl
theorem lc_X7_86 : Cond.constantLong RX7 86 (31) ∈ tb := tb_at 676 (by decide +kernel) rfl
theorem lm_L_39 : Cond.methodLink RL 39 yX7_at ∈ tb := tb_at 677 (by decide +kernel) rfl
theorem lm_L_43 : Cond.methodLink RL 43 yX7_kernel ∈ tb := tb_at 681 (by decide +kernel) rfl
theorem lm_X7_88 : Cond.methodLink RX7 88 yX7_isPair ∈ tb := tb_at 685 (by decide +kernel) rfl
theorem lc_X7_91 : Cond.constantLong RX7 91 (-9) ∈ tb := tb_at 688 (by decide +kernel) rfl
theorem lc_X7_93 : Cond.constantLong RX7 93 (9) ∈ tb := tb_at 689 (by decide +kernel) rfl
theorem lm_L_47 : Cond.methodLink RL 47 yX7_capacity ∈ tb := tb_at 690 (by decide +kernel) rfl
theorem lc_X7_95 : Cond.constantLong RX7 95 (8) ∈ tb := tb_at 694 (by decide +kernel) rfl
theorem lm_L_52 : Cond.methodLink RL 52 yX7_sum ∈ tb := tb_at 695 (by decide +kernel) rfl
theorem lm_X7_107 : Cond.methodLink RX7 107 yX7_sumAt ∈ tb := tb_at 699 (by decide +kernel) rfl
theorem lm_X7_103 : Cond.methodLink RX7 103 yX7_pull ∈ tb := tb_at 703 (by decide +kernel) rfl
theorem lm_X7_97 : Cond.methodLink RX7 97 yX7_power ∈ tb := tb_at 707 (by decide +kernel) rfl
theorem lc_X7_101 : Cond.constantLong RX7 101 (16) ∈ tb := tb_at 710 (by decide +kernel) rfl
theorem lc_X7_111 : Cond.constantLong RX7 111 (-9000000000000000000) ∈ tb := tb_at 711 (by decide +kernel) rfl
theorem lm_L_74 : Cond.methodLink RL 74 yX7_box ∈ tb := tb_at 712 (by decide +kernel) rfl
theorem lm_X7_131 : Cond.methodLink RX7 131 yX7_isBox ∈ tb := tb_at 716 (by decide +kernel) rfl
theorem lc_X7_121 : Cond.constantLong RX7 121 (5) ∈ tb := tb_at 720 (by decide +kernel) rfl
theorem lm_X7_123 : Cond.methodLink RX7 123 yX7_isSplit ∈ tb := tb_at 721 (by decide +kernel) rfl
theorem lm_X7_117 : Cond.methodLink RX7 117 yX7_pointsIn ∈ tb := tb_at 725 (by decide +kernel) rfl
theorem lm_X7_113 : Cond.methodLink RX7 113 yX7_isIn ∈ tb := tb_at 729 (by decide +kernel) rfl
theorem lc_X7_134 : Cond.constantLong RX7 134 (2) ∈ tb := tb_at 733 (by decide +kernel) rfl
theorem lm_X7_136 : Cond.methodLink RX7 136 yX7_bulk ∈ tb := tb_at 734 (by decide +kernel) rfl
theorem lm_L_78 : Cond.methodLink RL 78 yX7_moment ∈ tb := tb_at 738 (by decide +kernel) rfl
theorem lm_X7_139 : Cond.methodLink RX7 139 yX7_momentOf ∈ tb := tb_at 742 (by decide +kernel) rfl
theorem lm_X7_127 : Cond.methodLink RX7 127 yX7_middle ∈ tb := tb_at 746 (by decide +kernel) rfl
theorem lm_L_82 : Cond.methodLink RL 82 yX7_leaf ∈ tb := tb_at 749 (by decide +kernel) rfl
theorem lm_L_57 : Cond.methodLink RL 57 yX7_across ∈ tb := tb_at 753 (by decide +kernel) rfl
theorem lc_X7_171 : Cond.constantLong RX7 171 (4) ∈ tb := tb_at 757 (by decide +kernel) rfl
theorem lm_X7_173 : Cond.methodLink RX7 173 yX7_goAcross ∈ tb := tb_at 758 (by decide +kernel) rfl
theorem lm_X7_146 : Cond.methodLink RX7 146 yX7_size ∈ tb := tb_at 762 (by decide +kernel) rfl
theorem lm_X7_160 : Cond.methodLink RX7 160 yX7_term ∈ tb := tb_at 765 (by decide +kernel) rfl
theorem lm_X7_143 : Cond.methodLink RX7 143 yX7_choose ∈ tb := tb_at 769 (by decide +kernel) rfl
theorem lm_X7_164 : Cond.methodLink RX7 164 yX7_endOf ∈ tb := tb_at 772 (by decide +kernel) rfl
theorem lm_X7_167 : Cond.methodLink RX7 167 yX7_goes ∈ tb := tb_at 776 (by decide +kernel) rfl
theorem lm_L_64 : Cond.methodLink RL 64 yX7_order ∈ tb := tb_at 780 (by decide +kernel) rfl
theorem lm_L_69 : Cond.methodLink RL 69 yX7_way ∈ tb := tb_at 784 (by decide +kernel) rfl
theorem lm_L_86 : Cond.methodLink RL 86 yX7_nearest ∈ tb := tb_at 788 (by decide +kernel) rfl
theorem lm_X7_177 : Cond.methodLink RX7 177 yX7_farOf ∈ tb := tb_at 792 (by decide +kernel) rfl
theorem lm_L_90 : Cond.methodLink RL 90 yX7_step ∈ tb := tb_at 796 (by decide +kernel) rfl
theorem lc_X7_193 : Cond.constantLong RX7 193 (-8) ∈ tb := tb_at 800 (by decide +kernel) rfl
theorem lm_X7_195 : Cond.methodLink RX7 195 yX7_goOn ∈ tb := tb_at 801 (by decide +kernel) rfl
theorem lm_X7_186 : Cond.methodLink RX7 186 yX7_findPushes ∈ tb := tb_at 805 (by decide +kernel) rfl
theorem lm_X7_182 : Cond.methodLink RX7 182 yX7_push ∈ tb := tb_at 809 (by decide +kernel) rfl
theorem lc_X7_180 : Cond.constantLong RX7 180 (32) ∈ tb := tb_at 812 (by decide +kernel) rfl
theorem lm_X7_189 : Cond.methodLink RX7 189 yX7_brought ∈ tb := tb_at 813 (by decide +kernel) rfl
theorem lm_X7_198 : Cond.methodLink RX7 198 yX7_goBack ∈ tb := tb_at 816 (by decide +kernel) rfl
theorem lm_L_94 : Cond.methodLink RL 94 yX7_count ∈ tb := tb_at 820 (by decide +kernel) rfl
theorem lm_L_99 : Cond.methodLink RL 99 yX7_digest ∈ tb := tb_at 824 (by decide +kernel) rfl
theorem lc_X7_204 : Cond.constantLong RX7 204 (151) ∈ tb := tb_at 828 (by decide +kernel) rfl
theorem lm_X7_206 : Cond.methodLink RX7 206 yX7_count ∈ tb := tb_at 829 (by decide +kernel) rfl
theorem lm_X7_209 : Cond.methodLink RX7 209 yX7_at ∈ tb := tb_at 830 (by decide +kernel) rfl
theorem lc_L_58 : Cond.constantLong RL 58 (4294967295) ∈ tb := tb_at 831 (by decide +kernel) rfl
theorem li_L : Cond.initialized RL ∈ tb := tb_at 0 (by decide +kernel) rfl
theorem li_X6 : Cond.initialized RX6 ∈ tb := tb_at 1 (by decide +kernel) rfl
theorem li_X2 : Cond.initialized RX2 ∈ tb := tb_at 2 (by decide +kernel) rfl
theorem li_X0 : Cond.initialized RX0 ∈ tb := tb_at 3 (by decide +kernel) rfl
theorem li_X3 : Cond.initialized RX3 ∈ tb := tb_at 4 (by decide +kernel) rfl
theorem li_X4 : Cond.initialized RX4 ∈ tb := tb_at 5 (by decide +kernel) rfl
theorem li_X5 : Cond.initialized RX5 ∈ tb := tb_at 6 (by decide +kernel) rfl
theorem li_X1 : Cond.initialized RX1 ∈ tb := tb_at 7 (by decide +kernel) rfl
theorem li_X7 : Cond.initialized RX7 ∈ tb := tb_at 8 (by decide +kernel) rfl
theorem li_J9 : Cond.initialized RJ9 ∈ tb := tb_at 9 (by decide +kernel) rfl
theorem tb_sel {c : Cond} (i : Nat) (h : (k2_sels lw_privs)[i]? = some c) (hg : goodWord c = true) : c ∈ tb := tb_mem (List.mem_append_left _ (List.mem_of_getElem? h)) hg
theorem kX0_enter : CalV yX0_enter cX0_enter 4 none 2 := ⟨⟨tb_at 235 (by decide +kernel) rfl, li_X0, ⟨by decide +kernel, by decide +kernel, by decide +kernel⟩, by decide⟩, tb_at 233 (by decide +kernel) rfl, tb_at 234 (by decide +kernel) rfl⟩
theorem kX0_leave : CalV yX0_leave cX0_leave 4 none 2 := ⟨⟨tb_at 258 (by decide +kernel) rfl, li_X0, ⟨by decide +kernel, by decide +kernel, by decide +kernel⟩, by decide⟩, tb_at 256 (by decide +kernel) rfl, tb_at 257 (by decide +kernel) rfl⟩
theorem kX0_pointsIn : CalV yX0_pointsIn cX0_pointsIn 4 (some .int) 3 := ⟨⟨tb_at 334 (by decide +kernel) rfl, li_X0, ⟨by decide +kernel, by decide +kernel, by decide +kernel⟩, by decide⟩, tb_at 332 (by decide +kernel) rfl, tb_at 333 (by decide +kernel) rfl⟩
theorem kX0_isThere : CalV yX0_isThere cX0_isThere 5 (some .boolean) 3 := ⟨⟨tb_at 455 (by decide +kernel) rfl, li_X0, ⟨by decide +kernel, by decide +kernel, by decide +kernel⟩, by decide⟩, tb_at 453 (by decide +kernel) rfl, tb_at 454 (by decide +kernel) rfl⟩
theorem kX0_isSplit : CalV yX0_isSplit cX0_isSplit 4 (some .boolean) 3 := ⟨⟨tb_at 356 (by decide +kernel) rfl, li_X0, ⟨by decide +kernel, by decide +kernel, by decide +kernel⟩, by decide⟩, tb_at 354 (by decide +kernel) rfl, tb_at 355 (by decide +kernel) rfl⟩
theorem kX0_splitBoxes : CalV yX0_splitBoxes cX0_splitBoxes 3 (some .int) 0 := ⟨⟨tb_at 537 (by decide +kernel) rfl, li_X0, ⟨by decide +kernel, by decide +kernel, by decide +kernel⟩, by decide⟩, tb_at 535 (by decide +kernel) rfl, tb_at 536 (by decide +kernel) rfl⟩
theorem kX0_greatestLevel : CalV yX0_greatestLevel cX0_greatestLevel 3 (some .int) 0 := ⟨⟨tb_at 541 (by decide +kernel) rfl, li_X0, ⟨by decide +kernel, by decide +kernel, by decide +kernel⟩, by decide⟩, tb_at 539 (by decide +kernel) rfl, tb_at 540 (by decide +kernel) rfl⟩
theorem kX0_leafLevel : CalV yX0_leafLevel cX0_leafLevel 4 (some .int) 2 := ⟨⟨tb_at 470 (by decide +kernel) rfl, li_X0, ⟨by decide +kernel, by decide +kernel, by decide +kernel⟩, by decide⟩, tb_at 468 (by decide +kernel) rfl, tb_at 469 (by decide +kernel) rfl⟩
theorem kX0_holds : CalV yX0_holds cX0_holds 5 (some .boolean) 4 := ⟨⟨tb_at 365 (by decide +kernel) rfl, li_X0, ⟨by decide +kernel, by decide +kernel, by decide +kernel⟩, by decide⟩, tb_at 363 (by decide +kernel) rfl, tb_at 364 (by decide +kernel) rfl⟩
theorem kX0_gather : CalV yX0_gather cX0_gather 5 none 3 := ⟨⟨tb_at 377 (by decide +kernel) rfl, li_X0, ⟨by decide +kernel, by decide +kernel, by decide +kernel⟩, by decide⟩, tb_at 375 (by decide +kernel) rfl, tb_at 376 (by decide +kernel) rfl⟩
theorem kX0_addMoments : CalV yX0_addMoments cX0_addMoments 10 none 3 := ⟨⟨tb_at 383 (by decide +kernel) rfl, li_X0, ⟨by decide +kernel, by decide +kernel, by decide +kernel⟩, by decide⟩, tb_at 382 (by decide +kernel) rfl, tb_sel 7 (by decide +kernel) rfl⟩
theorem kX0_numberAt : CalS yX0_numberAt cX0_numberAt 2 (some .int) 2 := ⟨⟨tb_at 241 (by decide +kernel) rfl, li_X0, ⟨by decide +kernel, by decide +kernel, by decide +kernel⟩, by decide⟩, tb_at 240 (by decide +kernel) rfl⟩
theorem kX0_placeIndex : CalS yX0_placeIndex cX0_placeIndex 3 (some .int) 3 := ⟨⟨tb_at 238 (by decide +kernel) rfl, li_X0, ⟨by decide +kernel, by decide +kernel, by decide +kernel⟩, by decide⟩, tb_at 237 (by decide +kernel) rfl⟩
theorem kX0_boxIndex : CalS yX0_boxIndex cX0_boxIndex 3 (some .int) 3 := ⟨⟨tb_at 244 (by decide +kernel) rfl, li_X0, ⟨by decide +kernel, by decide +kernel, by decide +kernel⟩, by decide⟩, tb_at 243 (by decide +kernel) rfl⟩
theorem kX1_forth : CalV yX1_forth cX1_forth 1 none 0 := ⟨⟨tb_at 490 (by decide +kernel) rfl, li_X1, ⟨by decide +kernel, by decide +kernel, by decide +kernel⟩, by decide⟩, tb_at 488 (by decide +kernel) rfl, tb_at 489 (by decide +kernel) rfl⟩
theorem kX1_back : CalV yX1_back cX1_back 1 none 0 := ⟨⟨tb_at 529 (by decide +kernel) rfl, li_X1, ⟨by decide +kernel, by decide +kernel, by decide +kernel⟩, by decide⟩, tb_at 527 (by decide +kernel) rfl, tb_at 528 (by decide +kernel) rfl⟩
theorem kX1_findPushes : CalV yX1_findPushes cX1_findPushes 4 none 0 := ⟨⟨tb_at 494 (by decide +kernel) rfl, li_X1, ⟨by decide +kernel, by decide +kernel, by decide +kernel⟩, by decide⟩, tb_at 493 (by decide +kernel) rfl, tb_sel 13 (by decide +kernel) rfl⟩
theorem kX1_wholeSum : CalV yX1_wholeSum cX1_wholeSum 3 (some .long) 2 := ⟨⟨tb_at 500 (by decide +kernel) rfl, li_X1, ⟨by decide +kernel, by decide +kernel, by decide +kernel⟩, by decide⟩, tb_at 499 (by decide +kernel) rfl, tb_sel 14 (by decide +kernel) rfl⟩
theorem kX1_pushOf : CalS yX1_pushOf cX1_pushOf 2 (some .int) 1 := ⟨⟨tb_at 505 (by decide +kernel) rfl, li_X1, ⟨by decide +kernel, by decide +kernel, by decide +kernel⟩, by decide⟩, tb_at 504 (by decide +kernel) rfl⟩
theorem kX1_addPushes : CalV yX1_addPushes cX1_addPushes 3 none 1 := ⟨⟨tb_at 514 (by decide +kernel) rfl, li_X1, ⟨by decide +kernel, by decide +kernel, by decide +kernel⟩, by decide⟩, tb_at 513 (by decide +kernel) rfl, tb_sel 15 (by decide +kernel) rfl⟩
theorem kX1_shiftPlaces : CalV yX1_shiftPlaces cX1_shiftPlaces 3 none 1 := ⟨⟨tb_at 519 (by decide +kernel) rfl, li_X1, ⟨by decide +kernel, by decide +kernel, by decide +kernel⟩, by decide⟩, tb_at 518 (by decide +kernel) rfl, tb_sel 16 (by decide +kernel) rfl⟩
theorem kX2_has : CalV yX2_has cX2_has 2 (some .boolean) 1 := ⟨⟨tb_at 254 (by decide +kernel) rfl, li_X2, ⟨by decide +kernel, by decide +kernel, by decide +kernel⟩, by decide⟩, tb_at 252 (by decide +kernel) rfl, tb_at 253 (by decide +kernel) rfl⟩
theorem kX2_leastFree : CalV yX2_leastFree cX2_leastFree 2 (some .int) 0 := ⟨⟨tb_at 219 (by decide +kernel) rfl, li_X2, ⟨by decide +kernel, by decide +kernel, by decide +kernel⟩, by decide⟩, tb_at 217 (by decide +kernel) rfl, tb_at 218 (by decide +kernel) rfl⟩
theorem kX2_add : CalV yX2_add cX2_add 5 none 4 := ⟨⟨tb_at 223 (by decide +kernel) rfl, li_X2, ⟨by decide +kernel, by decide +kernel, by decide +kernel⟩, by decide⟩, tb_at 221 (by decide +kernel) rfl, tb_at 222 (by decide +kernel) rfl⟩
theorem kX2_remove : CalV yX2_remove cX2_remove 2 none 1 := ⟨⟨tb_at 262 (by decide +kernel) rfl, li_X2, ⟨by decide +kernel, by decide +kernel, by decide +kernel⟩, by decide⟩, tb_at 260 (by decide +kernel) rfl, tb_at 261 (by decide +kernel) rfl⟩
theorem kX2_put : CalV yX2_put cX2_put 4 none 3 := ⟨⟨tb_at 227 (by decide +kernel) rfl, li_X2, ⟨by decide +kernel, by decide +kernel, by decide +kernel⟩, by decide⟩, tb_at 225 (by decide +kernel) rfl, tb_at 226 (by decide +kernel) rfl⟩
theorem kX2_setPace : CalV yX2_setPace cX2_setPace 4 none 3 := ⟨⟨tb_at 231 (by decide +kernel) rfl, li_X2, ⟨by decide +kernel, by decide +kernel, by decide +kernel⟩, by decide⟩, tb_at 229 (by decide +kernel) rfl, tb_at 230 (by decide +kernel) rfl⟩
theorem kX2_read : CalV yX2_read cX2_read 3 (some .int) 2 := ⟨⟨tb_at 287 (by decide +kernel) rfl, li_X2, ⟨by decide +kernel, by decide +kernel, by decide +kernel⟩, by decide⟩, tb_at 285 (by decide +kernel) rfl, tb_at 286 (by decide +kernel) rfl⟩
theorem kX2_wholeBulk : CalV yX2_wholeBulk cX2_wholeBulk 3 (some .int) 0 := ⟨⟨tb_at 545 (by decide +kernel) rfl, li_X2, ⟨by decide +kernel, by decide +kernel, by decide +kernel⟩, by decide⟩, tb_at 543 (by decide +kernel) rfl, tb_at 544 (by decide +kernel) rfl⟩
theorem kX2_nearerThan : CalV yX2_nearerThan cX2_nearerThan 7 (some .int) 3 := ⟨⟨tb_at 478 (by decide +kernel) rfl, li_X2, ⟨by decide +kernel, by decide +kernel, by decide +kernel⟩, by decide⟩, tb_at 476 (by decide +kernel) rfl, tb_at 477 (by decide +kernel) rfl⟩
theorem kX2_rankKey : CalV yX2_rankKey cX2_rankKey 6 (some .int) 3 := ⟨⟨tb_at 482 (by decide +kernel) rfl, li_X2, ⟨by decide +kernel, by decide +kernel, by decide +kernel⟩, by decide⟩, tb_at 481 (by decide +kernel) rfl, tb_sel 12 (by decide +kernel) rfl⟩
theorem kX3_get : CalV yX3_get cX3_get 3 (some .long) 2 := ⟨⟨tb_at 298 (by decide +kernel) rfl, li_X3, ⟨by decide +kernel, by decide +kernel, by decide +kernel⟩, by decide⟩, tb_at 296 (by decide +kernel) rfl, tb_at 297 (by decide +kernel) rfl⟩
theorem kX3_set : CalV yX3_set cX3_set 5 none 3 := ⟨⟨tb_at 102 (by decide +kernel) rfl, li_X3, ⟨by decide +kernel, by decide +kernel, by decide +kernel⟩, by decide⟩, tb_at 100 (by decide +kernel) rfl, tb_at 101 (by decide +kernel) rfl⟩
theorem kX3_add : CalV yX3_add cX3_add 5 none 3 := ⟨⟨tb_at 408 (by decide +kernel) rfl, li_X3, ⟨by decide +kernel, by decide +kernel, by decide +kernel⟩, by decide⟩, tb_at 406 (by decide +kernel) rfl, tb_at 407 (by decide +kernel) rfl⟩
theorem kX3_clear : CalV yX3_clear cX3_clear 2 none 0 := ⟨⟨tb_at 393 (by decide +kernel) rfl, li_X3, ⟨by decide +kernel, by decide +kernel, by decide +kernel⟩, by decide⟩, tb_at 391 (by decide +kernel) rfl, tb_at 392 (by decide +kernel) rfl⟩
theorem kX3_valueAt : CalV yX3_valueAt cX3_valueAt 11 (some .long) 2 := ⟨⟨tb_at 315 (by decide +kernel) rfl, li_X3, ⟨by decide +kernel, by decide +kernel, by decide +kernel⟩, by decide⟩, tb_at 313 (by decide +kernel) rfl, tb_at 314 (by decide +kernel) rfl⟩
theorem kX4_expandTerm : CalV yX4_expandTerm cX4_expandTerm 7 none 2 := ⟨⟨tb_at 389 (by decide +kernel) rfl, li_X4, ⟨by decide +kernel, by decide +kernel, by decide +kernel⟩, by decide⟩, tb_at 387 (by decide +kernel) rfl, tb_at 388 (by decide +kernel) rfl⟩
theorem kX4_expandEnd : CalV yX4_expandEnd cX4_expandEnd 9 none 3 := ⟨⟨tb_at 421 (by decide +kernel) rfl, li_X4, ⟨by decide +kernel, by decide +kernel, by decide +kernel⟩, by decide⟩, tb_at 419 (by decide +kernel) rfl, tb_at 420 (by decide +kernel) rfl⟩
theorem kX4_addTermParts : CalV yX4_addTermParts cX4_addTermParts 11 none 5 := ⟨⟨tb_at 398 (by decide +kernel) rfl, li_X4, ⟨by decide +kernel, by decide +kernel, by decide +kernel⟩, by decide⟩, tb_at 397 (by decide +kernel) rfl, tb_sel 8 (by decide +kernel) rfl⟩
theorem kX4_addEndParts : CalV yX4_addEndParts cX4_addEndParts 9 none 5 := ⟨⟨tb_at 428 (by decide +kernel) rfl, li_X4, ⟨by decide +kernel, by decide +kernel, by decide +kernel⟩, by decide⟩, tb_at 427 (by decide +kernel) rfl, tb_sel 11 (by decide +kernel) rfl⟩
theorem kX4_waysToChoose : CalS yX4_waysToChoose cX4_waysToChoose 4 (some .long) 4 := ⟨⟨tb_at 401 (by decide +kernel) rfl, li_X4, ⟨by decide +kernel, by decide +kernel, by decide +kernel⟩, by decide⟩, tb_at 400 (by decide +kernel) rfl⟩
theorem kX4_power : CalS yX4_power cX4_power 6 (some .long) 2 := ⟨⟨tb_at 434 (by decide +kernel) rfl, li_X4, ⟨by decide +kernel, by decide +kernel, by decide +kernel⟩, by decide⟩, tb_at 433 (by decide +kernel) rfl⟩
theorem kX5_trace : CalV yX5_trace cX5_trace 4 none 3 := ⟨⟨tb_at 326 (by decide +kernel) rfl, li_X5, ⟨by decide +kernel, by decide +kernel, by decide +kernel⟩, by decide⟩, tb_at 324 (by decide +kernel) rfl, tb_at 325 (by decide +kernel) rfl⟩
theorem kX5_read : CalV yX5_read cX5_read 3 (some .int) 2 := ⟨⟨tb_at 447 (by decide +kernel) rfl, li_X5, ⟨by decide +kernel, by decide +kernel, by decide +kernel⟩, by decide⟩, tb_at 445 (by decide +kernel) rfl, tb_at 446 (by decide +kernel) rfl⟩
theorem kX5_visit : CalV yX5_visit cX5_visit 4 none 3 := ⟨⟨tb_at 330 (by decide +kernel) rfl, li_X5, ⟨by decide +kernel, by decide +kernel, by decide +kernel⟩, by decide⟩, tb_at 329 (by decide +kernel) rfl, tb_sel 1 (by decide +kernel) rfl⟩
theorem kX5_isFar : CalV yX5_isFar cX5_isFar 5 (some .boolean) 3 := ⟨⟨tb_at 338 (by decide +kernel) rfl, li_X5, ⟨by decide +kernel, by decide +kernel, by decide +kernel⟩, by decide⟩, tb_at 337 (by decide +kernel) rfl, tb_sel 2 (by decide +kernel) rfl⟩
theorem kX5_notePoints : CalV yX5_notePoints cX5_notePoints 5 none 3 := ⟨⟨tb_at 361 (by decide +kernel) rfl, li_X5, ⟨by decide +kernel, by decide +kernel, by decide +kernel⟩, by decide⟩, tb_at 360 (by decide +kernel) rfl, tb_sel 4 (by decide +kernel) rfl⟩
theorem kX5_note : CalV yX5_note cX5_note 4 none 3 := ⟨⟨tb_at 352 (by decide +kernel) rfl, li_X5, ⟨by decide +kernel, by decide +kernel, by decide +kernel⟩, by decide⟩, tb_at 351 (by decide +kernel) rfl, tb_sel 3 (by decide +kernel) rfl⟩
theorem kX6_point : CalV yX6_point cX6_point 5 (some .int) 3 := ⟨⟨tb_at 209 (by decide +kernel) rfl, li_X6, ⟨by decide +kernel, by decide +kernel, by decide +kernel⟩, by decide⟩, tb_at 207 (by decide +kernel) rfl, tb_at 208 (by decide +kernel) rfl⟩
theorem kX6_take : CalV yX6_take cX6_take 2 (some .int) 1 := ⟨⟨tb_at 250 (by decide +kernel) rfl, li_X6, ⟨by decide +kernel, by decide +kernel, by decide +kernel⟩, by decide⟩, tb_at 248 (by decide +kernel) rfl, tb_at 249 (by decide +kernel) rfl⟩
theorem kX6_move : CalV yX6_move cX6_move 4 (some .int) 3 := ⟨⟨tb_at 266 (by decide +kernel) rfl, li_X6, ⟨by decide +kernel, by decide +kernel, by decide +kernel⟩, by decide⟩, tb_at 264 (by decide +kernel) rfl, tb_at 265 (by decide +kernel) rfl⟩
theorem kX6_weigh : CalV yX6_weigh cX6_weigh 4 (some .int) 2 := ⟨⟨tb_at 271 (by decide +kernel) rfl, li_X6, ⟨by decide +kernel, by decide +kernel, by decide +kernel⟩, by decide⟩, tb_at 269 (by decide +kernel) rfl, tb_at 270 (by decide +kernel) rfl⟩
theorem kX6_pace : CalV yX6_pace cX6_pace 4 (some .int) 3 := ⟨⟨tb_at 275 (by decide +kernel) rfl, li_X6, ⟨by decide +kernel, by decide +kernel, by decide +kernel⟩, by decide⟩, tb_at 273 (by decide +kernel) rfl, tb_at 274 (by decide +kernel) rfl⟩
theorem kX6_at : CalV yX6_at cX6_at 3 (some .int) 2 := ⟨⟨tb_at 283 (by decide +kernel) rfl, li_X6, ⟨by decide +kernel, by decide +kernel, by decide +kernel⟩, by decide⟩, tb_at 281 (by decide +kernel) rfl, tb_at 282 (by decide +kernel) rfl⟩
theorem kX6_kernel : CalV yX6_kernel cX6_kernel 5 (some .int) 3 := ⟨⟨tb_at 291 (by decide +kernel) rfl, li_X6, ⟨by decide +kernel, by decide +kernel, by decide +kernel⟩, by decide⟩, tb_at 289 (by decide +kernel) rfl, tb_at 290 (by decide +kernel) rfl⟩
theorem kX6_capacity : CalV yX6_capacity cX6_capacity 3 (some .int) 1 := ⟨⟨tb_at 302 (by decide +kernel) rfl, li_X6, ⟨by decide +kernel, by decide +kernel, by decide +kernel⟩, by decide⟩, tb_at 300 (by decide +kernel) rfl, tb_at 301 (by decide +kernel) rfl⟩
theorem kX6_sum : CalV yX6_sum cX6_sum 6 (some .long) 2 := ⟨⟨tb_at 306 (by decide +kernel) rfl, li_X6, ⟨by decide +kernel, by decide +kernel, by decide +kernel⟩, by decide⟩, tb_at 304 (by decide +kernel) rfl, tb_at 305 (by decide +kernel) rfl⟩
theorem kX6_across : CalV yX6_across cX6_across 6 (some .long) 5 := ⟨⟨tb_at 319 (by decide +kernel) rfl, li_X6, ⟨by decide +kernel, by decide +kernel, by decide +kernel⟩, by decide⟩, tb_at 317 (by decide +kernel) rfl, tb_at 318 (by decide +kernel) rfl⟩
theorem kX6_order : CalV yX6_order cX6_order 7 (some .int) 4 := ⟨⟨tb_at 439 (by decide +kernel) rfl, li_X6, ⟨by decide +kernel, by decide +kernel, by decide +kernel⟩, by decide⟩, tb_at 437 (by decide +kernel) rfl, tb_at 438 (by decide +kernel) rfl⟩
theorem kX6_way : CalV yX6_way cX6_way 6 (some .int) 5 := ⟨⟨tb_at 443 (by decide +kernel) rfl, li_X6, ⟨by decide +kernel, by decide +kernel, by decide +kernel⟩, by decide⟩, tb_at 441 (by decide +kernel) rfl, tb_at 442 (by decide +kernel) rfl⟩
theorem kX6_box : CalV yX6_box cX6_box 5 (some .int) 4 := ⟨⟨tb_at 451 (by decide +kernel) rfl, li_X6, ⟨by decide +kernel, by decide +kernel, by decide +kernel⟩, by decide⟩, tb_at 449 (by decide +kernel) rfl, tb_at 450 (by decide +kernel) rfl⟩
theorem kX6_moment : CalV yX6_moment cX6_moment 6 (some .long) 5 := ⟨⟨tb_at 461 (by decide +kernel) rfl, li_X6, ⟨by decide +kernel, by decide +kernel, by decide +kernel⟩, by decide⟩, tb_at 459 (by decide +kernel) rfl, tb_at 460 (by decide +kernel) rfl⟩
theorem kX6_leaf : CalV yX6_leaf cX6_leaf 3 (some .int) 2 := ⟨⟨tb_at 466 (by decide +kernel) rfl, li_X6, ⟨by decide +kernel, by decide +kernel, by decide +kernel⟩, by decide⟩, tb_at 464 (by decide +kernel) rfl, tb_at 465 (by decide +kernel) rfl⟩
theorem kX6_nearest : CalV yX6_nearest cX6_nearest 5 (some .int) 3 := ⟨⟨tb_at 474 (by decide +kernel) rfl, li_X6, ⟨by decide +kernel, by decide +kernel, by decide +kernel⟩, by decide⟩, tb_at 472 (by decide +kernel) rfl, tb_at 473 (by decide +kernel) rfl⟩
theorem kX6_step : CalV yX6_step cX6_step 3 (some .int) 1 := ⟨⟨tb_at 486 (by decide +kernel) rfl, li_X6, ⟨by decide +kernel, by decide +kernel, by decide +kernel⟩, by decide⟩, tb_at 484 (by decide +kernel) rfl, tb_at 485 (by decide +kernel) rfl⟩
theorem kX6_count : CalV yX6_count cX6_count 2 (some .int) 1 := ⟨⟨tb_at 533 (by decide +kernel) rfl, li_X6, ⟨by decide +kernel, by decide +kernel, by decide +kernel⟩, by decide⟩, tb_at 531 (by decide +kernel) rfl, tb_at 532 (by decide +kernel) rfl⟩
theorem kX6_digest : CalV yX6_digest cX6_digest 4 (some .long) 0 := ⟨⟨tb_at 550 (by decide +kernel) rfl, li_X6, ⟨by decide +kernel, by decide +kernel, by decide +kernel⟩, by decide⟩, tb_at 548 (by decide +kernel) rfl, tb_at 549 (by decide +kernel) rfl⟩
theorem kX6_digestPoints : CalV yX6_digestPoints cX6_digestPoints 7 (some .long) 1 := ⟨⟨tb_at 557 (by decide +kernel) rfl, li_X6, ⟨by decide +kernel, by decide +kernel, by decide +kernel⟩, by decide⟩, tb_at 556 (by decide +kernel) rfl, tb_sel 17 (by decide +kernel) rfl⟩
theorem kX6_digestFactors : CalV yX6_digestFactors cX6_digestFactors 7 (some .long) 1 := ⟨⟨tb_at 561 (by decide +kernel) rfl, li_X6, ⟨by decide +kernel, by decide +kernel, by decide +kernel⟩, by decide⟩, tb_at 560 (by decide +kernel) rfl, tb_sel 18 (by decide +kernel) rfl⟩
theorem kX6_digestBoxes : CalV yX6_digestBoxes cX6_digestBoxes 9 (some .long) 1 := ⟨⟨tb_at 565 (by decide +kernel) rfl, li_X6, ⟨by decide +kernel, by decide +kernel, by decide +kernel⟩, by decide⟩, tb_at 564 (by decide +kernel) rfl, tb_sel 19 (by decide +kernel) rfl⟩
theorem kX6_digestMoments : CalV yX6_digestMoments cX6_digestMoments 8 (some .long) 4 := ⟨⟨tb_at 569 (by decide +kernel) rfl, li_X6, ⟨by decide +kernel, by decide +kernel, by decide +kernel⟩, by decide⟩, tb_at 568 (by decide +kernel) rfl, tb_sel 20 (by decide +kernel) rfl⟩
theorem kX6_pullOf : CalV yX6_pullOf cX6_pullOf 6 (some .long) 3 := ⟨⟨tb_at 311 (by decide +kernel) rfl, li_X6, ⟨by decide +kernel, by decide +kernel, by decide +kernel⟩, by decide⟩, tb_at 310 (by decide +kernel) rfl, tb_sel 0 (by decide +kernel) rfl⟩
theorem kX6_about : CalV yX6_about cX6_about 7 (some .long) 3 := ⟨⟨tb_at 369 (by decide +kernel) rfl, li_X6, ⟨by decide +kernel, by decide +kernel, by decide +kernel⟩, by decide⟩, tb_at 368 (by decide +kernel) rfl, tb_sel 5 (by decide +kernel) rfl⟩
theorem kX6_wholeEnd : CalV yX6_wholeEnd cX6_wholeEnd 7 (some .long) 3 := ⟨⟨tb_at 413 (by decide +kernel) rfl, li_X6, ⟨by decide +kernel, by decide +kernel, by decide +kernel⟩, by decide⟩, tb_at 412 (by decide +kernel) rfl, tb_sel 9 (by decide +kernel) rfl⟩
theorem kX6_termOf : CalV yX6_termOf cX6_termOf 6 (some .long) 4 := ⟨⟨tb_at 373 (by decide +kernel) rfl, li_X6, ⟨by decide +kernel, by decide +kernel, by decide +kernel⟩, by decide⟩, tb_at 372 (by decide +kernel) rfl, tb_sel 6 (by decide +kernel) rfl⟩
theorem kX6_endOf : CalV yX6_endOf cX6_endOf 6 (some .long) 4 := ⟨⟨tb_at 417 (by decide +kernel) rfl, li_X6, ⟨by decide +kernel, by decide +kernel, by decide +kernel⟩, by decide⟩, tb_at 416 (by decide +kernel) rfl, tb_sel 10 (by decide +kernel) rfl⟩
theorem kX6_isPlace : CalS yX6_isPlace cX6_isPlace 2 (some .boolean) 2 := ⟨⟨tb_at 212 (by decide +kernel) rfl, li_X6, ⟨by decide +kernel, by decide +kernel, by decide +kernel⟩, by decide⟩, tb_at 211 (by decide +kernel) rfl⟩
theorem kX6_isWeight : CalS yX6_isWeight cX6_isWeight 1 (some .boolean) 1 := ⟨⟨tb_at 215 (by decide +kernel) rfl, li_X6, ⟨by decide +kernel, by decide +kernel, by decide +kernel⟩, by decide⟩, tb_at 214 (by decide +kernel) rfl⟩
theorem kX6_isPaceNumber : CalS yX6_isPaceNumber cX6_isPaceNumber 1 (some .boolean) 1 := ⟨⟨tb_at 278 (by decide +kernel) rfl, li_X6, ⟨by decide +kernel, by decide +kernel, by decide +kernel⟩, by decide⟩, tb_at 277 (by decide +kernel) rfl⟩
theorem kX6_isDistance : CalS yX6_isDistance cX6_isDistance 1 (some .boolean) 1 := ⟨⟨tb_at 322 (by decide +kernel) rfl, li_X6, ⟨by decide +kernel, by decide +kernel, by decide +kernel⟩, by decide⟩, tb_at 321 (by decide +kernel) rfl⟩
theorem kX6_isPowers : CalS yX6_isPowers cX6_isPowers 2 (some .boolean) 2 := ⟨⟨tb_at 294 (by decide +kernel) rfl, li_X6, ⟨by decide +kernel, by decide +kernel, by decide +kernel⟩, by decide⟩, tb_at 293 (by decide +kernel) rfl⟩
theorem kX6_slot : CalS yX6_slot cX6_slot 2 (some .int) 2 := ⟨⟨tb_at 105 (by decide +kernel) rfl, li_X6, ⟨by decide +kernel, by decide +kernel, by decide +kernel⟩, by decide⟩, tb_at 104 (by decide +kernel) rfl⟩
theorem kX6_sideOf : CalS yX6_sideOf cX6_sideOf 1 (some .int) 1 := ⟨⟨tb_at 341 (by decide +kernel) rfl, li_X6, ⟨by decide +kernel, by decide +kernel, by decide +kernel⟩, by decide⟩, tb_at 340 (by decide +kernel) rfl⟩
theorem kX6_fromMiddle : CalS yX6_fromMiddle cX6_fromMiddle 4 (some .int) 3 := ⟨⟨tb_at 344 (by decide +kernel) rfl, li_X6, ⟨by decide +kernel, by decide +kernel, by decide +kernel⟩, by decide⟩, tb_at 343 (by decide +kernel) rfl⟩
theorem kX6_wrapPace : CalS yX6_wrapPace cX6_wrapPace 2 (some .int) 1 := ⟨⟨tb_at 508 (by decide +kernel) rfl, li_X6, ⟨by decide +kernel, by decide +kernel, by decide +kernel⟩, by decide⟩, tb_at 507 (by decide +kernel) rfl⟩
theorem kX6_wrapPlace : CalS yX6_wrapPlace cX6_wrapPlace 1 (some .int) 1 := ⟨⟨tb_at 523 (by decide +kernel) rfl, li_X6, ⟨by decide +kernel, by decide +kernel, by decide +kernel⟩, by decide⟩, tb_at 522 (by decide +kernel) rfl⟩
theorem kX7_in : CalS yX7_in cX7_in 6 (some .boolean) 3 := ⟨⟨tb_at 647 (by decide +kernel) rfl, li_X7, ⟨by decide +kernel, by decide +kernel, by decide +kernel⟩, by decide⟩, tb_at 646 (by decide +kernel) rfl⟩
theorem kX7_isPlace : CalS yX7_isPlace cX7_isPlace 2 (some .boolean) 2 := ⟨⟨tb_at 643 (by decide +kernel) rfl, li_X7, ⟨by decide +kernel, by decide +kernel, by decide +kernel⟩, by decide⟩, tb_at 642 (by decide +kernel) rfl⟩
theorem kX7_isPoint : CalV yX7_isPoint cX7_isPoint 2 (some .boolean) 1 := ⟨⟨tb_at 657 (by decide +kernel) rfl, li_X7, ⟨by decide +kernel, by decide +kernel, by decide +kernel⟩, by decide⟩, tb_at 656 (by decide +kernel) rfl, tb_sel 21 (by decide +kernel) rfl⟩
theorem kX7_many : CalV yX7_many cX7_many 3 (some .int) 0 := ⟨⟨tb_at 662 (by decide +kernel) rfl, li_X7, ⟨by decide +kernel, by decide +kernel, by decide +kernel⟩, by decide⟩, tb_at 661 (by decide +kernel) rfl, tb_sel 22 (by decide +kernel) rfl⟩
theorem kX7_point : CalV yX7_point cX7_point 5 (some .int) 3 := ⟨⟨tb_at 640 (by decide +kernel) rfl, li_X7, ⟨by decide +kernel, by decide +kernel, by decide +kernel⟩, by decide⟩, tb_at 638 (by decide +kernel) rfl, tb_at 639 (by decide +kernel) rfl⟩
theorem kX7_take : CalV yX7_take cX7_take 2 (some .int) 1 := ⟨⟨tb_at 653 (by decide +kernel) rfl, li_X7, ⟨by decide +kernel, by decide +kernel, by decide +kernel⟩, by decide⟩, tb_at 651 (by decide +kernel) rfl, tb_at 652 (by decide +kernel) rfl⟩
theorem kX7_move : CalV yX7_move cX7_move 4 (some .int) 3 := ⟨⟨tb_at 666 (by decide +kernel) rfl, li_X7, ⟨by decide +kernel, by decide +kernel, by decide +kernel⟩, by decide⟩, tb_at 664 (by decide +kernel) rfl, tb_at 665 (by decide +kernel) rfl⟩
theorem kX7_weigh : CalV yX7_weigh cX7_weigh 4 (some .int) 2 := ⟨⟨tb_at 670 (by decide +kernel) rfl, li_X7, ⟨by decide +kernel, by decide +kernel, by decide +kernel⟩, by decide⟩, tb_at 668 (by decide +kernel) rfl, tb_at 669 (by decide +kernel) rfl⟩
theorem kX7_pace : CalV yX7_pace cX7_pace 4 (some .int) 3 := ⟨⟨tb_at 674 (by decide +kernel) rfl, li_X7, ⟨by decide +kernel, by decide +kernel, by decide +kernel⟩, by decide⟩, tb_at 672 (by decide +kernel) rfl, tb_at 673 (by decide +kernel) rfl⟩
theorem kX7_at : CalV yX7_at cX7_at 3 (some .int) 2 := ⟨⟨tb_at 680 (by decide +kernel) rfl, li_X7, ⟨by decide +kernel, by decide +kernel, by decide +kernel⟩, by decide⟩, tb_at 678 (by decide +kernel) rfl, tb_at 679 (by decide +kernel) rfl⟩
theorem kX7_isPair : CalS yX7_isPair cX7_isPair 2 (some .boolean) 2 := ⟨⟨tb_at 687 (by decide +kernel) rfl, li_X7, ⟨by decide +kernel, by decide +kernel, by decide +kernel⟩, by decide⟩, tb_at 686 (by decide +kernel) rfl⟩
theorem kX7_kernel : CalV yX7_kernel cX7_kernel 5 (some .int) 3 := ⟨⟨tb_at 684 (by decide +kernel) rfl, li_X7, ⟨by decide +kernel, by decide +kernel, by decide +kernel⟩, by decide⟩, tb_at 682 (by decide +kernel) rfl, tb_at 683 (by decide +kernel) rfl⟩
theorem kX7_capacity : CalV yX7_capacity cX7_capacity 3 (some .int) 1 := ⟨⟨tb_at 693 (by decide +kernel) rfl, li_X7, ⟨by decide +kernel, by decide +kernel, by decide +kernel⟩, by decide⟩, tb_at 691 (by decide +kernel) rfl, tb_at 692 (by decide +kernel) rfl⟩
theorem kX7_power : CalS yX7_power cX7_power 6 (some .long) 2 := ⟨⟨tb_at 709 (by decide +kernel) rfl, li_X7, ⟨by decide +kernel, by decide +kernel, by decide +kernel⟩, by decide⟩, tb_at 708 (by decide +kernel) rfl⟩
theorem kX7_pull : CalV yX7_pull cX7_pull 8 (some .long) 3 := ⟨⟨tb_at 706 (by decide +kernel) rfl, li_X7, ⟨by decide +kernel, by decide +kernel, by decide +kernel⟩, by decide⟩, tb_at 705 (by decide +kernel) rfl, tb_sel 24 (by decide +kernel) rfl⟩
theorem kX7_sumAt : CalV yX7_sumAt cX7_sumAt 6 (some .long) 2 := ⟨⟨tb_at 702 (by decide +kernel) rfl, li_X7, ⟨by decide +kernel, by decide +kernel, by decide +kernel⟩, by decide⟩, tb_at 701 (by decide +kernel) rfl, tb_sel 23 (by decide +kernel) rfl⟩
theorem kX7_sum : CalV yX7_sum cX7_sum 3 (some .long) 2 := ⟨⟨tb_at 698 (by decide +kernel) rfl, li_X7, ⟨by decide +kernel, by decide +kernel, by decide +kernel⟩, by decide⟩, tb_at 696 (by decide +kernel) rfl, tb_at 697 (by decide +kernel) rfl⟩
theorem kX7_isIn : CalV yX7_isIn cX7_isIn 6 (some .boolean) 4 := ⟨⟨tb_at 732 (by decide +kernel) rfl, li_X7, ⟨by decide +kernel, by decide +kernel, by decide +kernel⟩, by decide⟩, tb_at 731 (by decide +kernel) rfl, tb_sel 28 (by decide +kernel) rfl⟩
theorem kX7_pointsIn : CalV yX7_pointsIn cX7_pointsIn 6 (some .int) 3 := ⟨⟨tb_at 728 (by decide +kernel) rfl, li_X7, ⟨by decide +kernel, by decide +kernel, by decide +kernel⟩, by decide⟩, tb_at 727 (by decide +kernel) rfl, tb_sel 27 (by decide +kernel) rfl⟩
theorem kX7_bulk : CalV yX7_bulk cX7_bulk 7 (some .long) 3 := ⟨⟨tb_at 737 (by decide +kernel) rfl, li_X7, ⟨by decide +kernel, by decide +kernel, by decide +kernel⟩, by decide⟩, tb_at 736 (by decide +kernel) rfl, tb_sel 29 (by decide +kernel) rfl⟩
theorem kX7_isSplit : CalV yX7_isSplit cX7_isSplit 4 (some .boolean) 3 := ⟨⟨tb_at 724 (by decide +kernel) rfl, li_X7, ⟨by decide +kernel, by decide +kernel, by decide +kernel⟩, by decide⟩, tb_at 723 (by decide +kernel) rfl, tb_sel 26 (by decide +kernel) rfl⟩
theorem kX7_isBox : CalV yX7_isBox cX7_isBox 6 (some .boolean) 3 := ⟨⟨tb_at 719 (by decide +kernel) rfl, li_X7, ⟨by decide +kernel, by decide +kernel, by decide +kernel⟩, by decide⟩, tb_at 718 (by decide +kernel) rfl, tb_sel 25 (by decide +kernel) rfl⟩
theorem kX7_middle : CalS yX7_middle cX7_middle 3 (some .int) 2 := ⟨⟨tb_at 748 (by decide +kernel) rfl, li_X7, ⟨by decide +kernel, by decide +kernel, by decide +kernel⟩, by decide⟩, tb_at 747 (by decide +kernel) rfl⟩
theorem kX7_momentOf : CalV yX7_momentOf cX7_momentOf 9 (some .long) 5 := ⟨⟨tb_at 745 (by decide +kernel) rfl, li_X7, ⟨by decide +kernel, by decide +kernel, by decide +kernel⟩, by decide⟩, tb_at 744 (by decide +kernel) rfl, tb_sel 30 (by decide +kernel) rfl⟩
theorem kX7_box : CalV yX7_box cX7_box 5 (some .int) 4 := ⟨⟨tb_at 715 (by decide +kernel) rfl, li_X7, ⟨by decide +kernel, by decide +kernel, by decide +kernel⟩, by decide⟩, tb_at 713 (by decide +kernel) rfl, tb_at 714 (by decide +kernel) rfl⟩
theorem kX7_moment : CalV yX7_moment cX7_moment 6 (some .long) 5 := ⟨⟨tb_at 741 (by decide +kernel) rfl, li_X7, ⟨by decide +kernel, by decide +kernel, by decide +kernel⟩, by decide⟩, tb_at 739 (by decide +kernel) rfl, tb_at 740 (by decide +kernel) rfl⟩
theorem kX7_leaf : CalV yX7_leaf cX7_leaf 4 (some .int) 2 := ⟨⟨tb_at 752 (by decide +kernel) rfl, li_X7, ⟨by decide +kernel, by decide +kernel, by decide +kernel⟩, by decide⟩, tb_at 750 (by decide +kernel) rfl, tb_at 751 (by decide +kernel) rfl⟩
theorem kX7_choose : CalS yX7_choose cX7_choose 5 (some .long) 2 := ⟨⟨tb_at 771 (by decide +kernel) rfl, li_X7, ⟨by decide +kernel, by decide +kernel, by decide +kernel⟩, by decide⟩, tb_at 770 (by decide +kernel) rfl⟩
theorem kX7_term : CalV yX7_term cX7_term 19 (some .long) 6 := ⟨⟨tb_at 768 (by decide +kernel) rfl, li_X7, ⟨by decide +kernel, by decide +kernel, by decide +kernel⟩, by decide⟩, tb_at 767 (by decide +kernel) rfl, tb_sel 32 (by decide +kernel) rfl⟩
theorem kX7_size : CalS yX7_size cX7_size 2 (some .long) 1 := ⟨⟨tb_at 764 (by decide +kernel) rfl, li_X7, ⟨by decide +kernel, by decide +kernel, by decide +kernel⟩, by decide⟩, tb_at 763 (by decide +kernel) rfl⟩
theorem kX7_endOf : CalV yX7_endOf cX7_endOf 19 (some .long) 6 := ⟨⟨tb_at 775 (by decide +kernel) rfl, li_X7, ⟨by decide +kernel, by decide +kernel, by decide +kernel⟩, by decide⟩, tb_at 774 (by decide +kernel) rfl, tb_sel 33 (by decide +kernel) rfl⟩
theorem kX7_goes : CalV yX7_goes cX7_goes 4 none 3 := ⟨⟨tb_at 779 (by decide +kernel) rfl, li_X7, ⟨by decide +kernel, by decide +kernel, by decide +kernel⟩, by decide⟩, tb_at 778 (by decide +kernel) rfl, tb_sel 34 (by decide +kernel) rfl⟩
theorem kX7_goAcross : CalV yX7_goAcross cX7_goAcross 12 none 4 := ⟨⟨tb_at 761 (by decide +kernel) rfl, li_X7, ⟨by decide +kernel, by decide +kernel, by decide +kernel⟩, by decide⟩, tb_at 760 (by decide +kernel) rfl, tb_sel 31 (by decide +kernel) rfl⟩
theorem kX7_across : CalV yX7_across cX7_across 6 (some .long) 5 := ⟨⟨tb_at 756 (by decide +kernel) rfl, li_X7, ⟨by decide +kernel, by decide +kernel, by decide +kernel⟩, by decide⟩, tb_at 754 (by decide +kernel) rfl, tb_at 755 (by decide +kernel) rfl⟩
theorem kX7_order : CalV yX7_order cX7_order 7 (some .int) 4 := ⟨⟨tb_at 783 (by decide +kernel) rfl, li_X7, ⟨by decide +kernel, by decide +kernel, by decide +kernel⟩, by decide⟩, tb_at 781 (by decide +kernel) rfl, tb_at 782 (by decide +kernel) rfl⟩
theorem kX7_way : CalV yX7_way cX7_way 6 (some .int) 5 := ⟨⟨tb_at 787 (by decide +kernel) rfl, li_X7, ⟨by decide +kernel, by decide +kernel, by decide +kernel⟩, by decide⟩, tb_at 785 (by decide +kernel) rfl, tb_at 786 (by decide +kernel) rfl⟩
theorem kX7_farOf : CalV yX7_farOf cX7_farOf 4 (some .int) 3 := ⟨⟨tb_at 795 (by decide +kernel) rfl, li_X7, ⟨by decide +kernel, by decide +kernel, by decide +kernel⟩, by decide⟩, tb_at 794 (by decide +kernel) rfl, tb_sel 35 (by decide +kernel) rfl⟩
theorem kX7_nearest : CalV yX7_nearest cX7_nearest 7 (some .int) 3 := ⟨⟨tb_at 791 (by decide +kernel) rfl, li_X7, ⟨by decide +kernel, by decide +kernel, by decide +kernel⟩, by decide⟩, tb_at 789 (by decide +kernel) rfl, tb_at 790 (by decide +kernel) rfl⟩
theorem kX7_push : CalS yX7_push cX7_push 4 (some .int) 2 := ⟨⟨tb_at 811 (by decide +kernel) rfl, li_X7, ⟨by decide +kernel, by decide +kernel, by decide +kernel⟩, by decide⟩, tb_at 810 (by decide +kernel) rfl⟩
theorem kX7_findPushes : CalV yX7_findPushes cX7_findPushes 2 none 0 := ⟨⟨tb_at 808 (by decide +kernel) rfl, li_X7, ⟨by decide +kernel, by decide +kernel, by decide +kernel⟩, by decide⟩, tb_at 807 (by decide +kernel) rfl, tb_sel 37 (by decide +kernel) rfl⟩
theorem kX7_brought : CalS yX7_brought cX7_brought 1 (some .int) 1 := ⟨⟨tb_at 815 (by decide +kernel) rfl, li_X7, ⟨by decide +kernel, by decide +kernel, by decide +kernel⟩, by decide⟩, tb_at 814 (by decide +kernel) rfl⟩
theorem kX7_goOn : CalV yX7_goOn cX7_goOn 2 none 0 := ⟨⟨tb_at 804 (by decide +kernel) rfl, li_X7, ⟨by decide +kernel, by decide +kernel, by decide +kernel⟩, by decide⟩, tb_at 803 (by decide +kernel) rfl, tb_sel 36 (by decide +kernel) rfl⟩
theorem kX7_goBack : CalV yX7_goBack cX7_goBack 2 none 0 := ⟨⟨tb_at 819 (by decide +kernel) rfl, li_X7, ⟨by decide +kernel, by decide +kernel, by decide +kernel⟩, by decide⟩, tb_at 818 (by decide +kernel) rfl, tb_sel 38 (by decide +kernel) rfl⟩
theorem kX7_step : CalV yX7_step cX7_step 3 (some .int) 1 := ⟨⟨tb_at 799 (by decide +kernel) rfl, li_X7, ⟨by decide +kernel, by decide +kernel, by decide +kernel⟩, by decide⟩, tb_at 797 (by decide +kernel) rfl, tb_at 798 (by decide +kernel) rfl⟩
theorem kX7_count : CalV yX7_count cX7_count 9 (some .int) 1 := ⟨⟨tb_at 823 (by decide +kernel) rfl, li_X7, ⟨by decide +kernel, by decide +kernel, by decide +kernel⟩, by decide⟩, tb_at 821 (by decide +kernel) rfl, tb_at 822 (by decide +kernel) rfl⟩
theorem kX7_digest : CalV yX7_digest cX7_digest 7 (some .long) 0 := ⟨⟨tb_at 827 (by decide +kernel) rfl, li_X7, ⟨by decide +kernel, by decide +kernel, by decide +kernel⟩, by decide⟩, tb_at 825 (by decide +kernel) rfl, tb_at 826 (by decide +kernel) rfl⟩
theorem kJ9_abs_0f7a4 : CalS yJ9_abs_0f7a4 cJ9_abs_0f7a4 1 (some .int) 1 := ⟨⟨tb_at 348 (by decide +kernel) rfl, li_J9, ⟨by decide +kernel, by decide +kernel, by decide +kernel⟩, by decide⟩, tb_at 347 (by decide +kernel) rfl⟩
theorem kJ9_abs_067f4 : CalS yJ9_abs_067f4 cJ9_abs_067f4 2 (some .long) 1 := ⟨⟨tb_at 424 (by decide +kernel) rfl, li_J9, ⟨by decide +kernel, by decide +kernel, by decide +kernel⟩, by decide⟩, tb_at 423 (by decide +kernel) rfl⟩
theorem kJ9_max_7cf53 : CalS yJ9_max_7cf53 cJ9_max_7cf53 2 (some .int) 2 := ⟨⟨tb_at 431 (by decide +kernel) rfl, li_J9, ⟨by decide +kernel, by decide +kernel, by decide +kernel⟩, by decide⟩, tb_at 430 (by decide +kernel) rfl⟩
end
section
theorem dX0_init_0 : decode cX0_init 0 = .ok (.aload_n 0, 1) := by decide +kernel
theorem dX0_init_1 : decode cX0_init 1 = .ok (.invokespecial 3, 3) := by decide +kernel
theorem dX0_init_4 : decode cX0_init 4 = .ok (.aload_n 0, 1) := by decide +kernel
theorem dX0_init_5 : decode cX0_init 5 = .ok (.sipush 1365, 3) := by decide +kernel
theorem dX0_init_8 : decode cX0_init 8 = .ok (.newarray .int, 2) := by decide +kernel
theorem dX0_init_10 : decode cX0_init 10 = .ok (.putfield 9, 3) := by decide +kernel
theorem dX0_init_13 : decode cX0_init 13 = .ok (.aload_n 0, 1) := by decide +kernel
theorem dX0_init_14 : decode cX0_init 14 = .ok (.iconst 2, 1) := by decide +kernel
theorem dX0_init_15 : decode cX0_init 15 = .ok (.putfield 15, 3) := by decide +kernel
theorem dX0_init_18 : decode cX0_init 18 = .ok (.aload_n 0, 1) := by decide +kernel
theorem dX0_init_19 : decode cX0_init 19 = .ok (.bipush 25, 2) := by decide +kernel
theorem dX0_init_21 : decode cX0_init 21 = .ok (.newarray .long, 2) := by decide +kernel
theorem dX0_init_23 : decode cX0_init 23 = .ok (.putfield 19, 3) := by decide +kernel
theorem dX0_init_26 : decode cX0_init 26 = .ok (.aload_n 0, 1) := by decide +kernel
theorem dX0_init_27 : decode cX0_init 27 = .ok (.iconst 0, 1) := by decide +kernel
theorem dX0_init_28 : decode cX0_init 28 = .ok (.putfield 23, 3) := by decide +kernel
theorem dX0_init_31 : decode cX0_init 31 = .ok (.aload_n 0, 1) := by decide +kernel
theorem dX0_init_32 : decode cX0_init 32 = .ok (.aload_n 1, 1) := by decide +kernel
theorem dX0_init_33 : decode cX0_init 33 = .ok (.putfield 26, 3) := by decide +kernel
theorem dX0_init_36 : decode cX0_init 36 = .ok (.return_, 1) := by decide +kernel
theorem dX0_enter_0 : decode cX0_enter 0 = .ok (.iconst 0, 1) := by decide +kernel
theorem dX0_enter_1 : decode cX0_enter 1 = .ok (.istore_n 3, 1) := by decide +kernel
theorem dX0_enter_2 : decode cX0_enter 2 = .ok (.iload_n 3, 1) := by decide +kernel
theorem dX0_enter_3 : decode cX0_enter 3 = .ok (.iconst 5, 1) := by decide +kernel
theorem dX0_enter_4 : decode cX0_enter 4 = .ok (.if_icmp .gt 24, 3) := by decide +kernel
theorem dX0_enter_7 : decode cX0_enter 7 = .ok (.aload_n 0, 1) := by decide +kernel
theorem dX0_enter_8 : decode cX0_enter 8 = .ok (.getfield 9, 3) := by decide +kernel
theorem dX0_enter_11 : decode cX0_enter 11 = .ok (.iload_n 3, 1) := by decide +kernel
theorem dX0_enter_12 : decode cX0_enter 12 = .ok (.iload_n 1, 1) := by decide +kernel
theorem dX0_enter_13 : decode cX0_enter 13 = .ok (.iload_n 2, 1) := by decide +kernel
theorem dX0_enter_14 : decode cX0_enter 14 = .ok (.invokestatic 30, 3) := by decide +kernel
theorem dX0_enter_17 : decode cX0_enter 17 = .ok (.dup2, 1) := by decide +kernel
theorem dX0_enter_18 : decode cX0_enter 18 = .ok (.iaload, 1) := by decide +kernel
theorem dX0_enter_19 : decode cX0_enter 19 = .ok (.iconst 1, 1) := by decide +kernel
theorem dX0_enter_20 : decode cX0_enter 20 = .ok (.iadd, 1) := by decide +kernel
theorem dX0_enter_21 : decode cX0_enter 21 = .ok (.iastore, 1) := by decide +kernel
theorem dX0_enter_22 : decode cX0_enter 22 = .ok (.iinc 3 1, 3) := by decide +kernel
theorem dX0_enter_25 : decode cX0_enter 25 = .ok (.goto (-23), 3) := by decide +kernel
theorem dX0_enter_28 : decode cX0_enter 28 = .ok (.return_, 1) := by decide +kernel
theorem dX0_leave_0 : decode cX0_leave 0 = .ok (.iconst 0, 1) := by decide +kernel
theorem dX0_leave_1 : decode cX0_leave 1 = .ok (.istore_n 3, 1) := by decide +kernel
theorem dX0_leave_2 : decode cX0_leave 2 = .ok (.iload_n 3, 1) := by decide +kernel
theorem dX0_leave_3 : decode cX0_leave 3 = .ok (.iconst 5, 1) := by decide +kernel
theorem dX0_leave_4 : decode cX0_leave 4 = .ok (.if_icmp .gt 24, 3) := by decide +kernel
theorem dX0_leave_7 : decode cX0_leave 7 = .ok (.aload_n 0, 1) := by decide +kernel
theorem dX0_leave_8 : decode cX0_leave 8 = .ok (.getfield 9, 3) := by decide +kernel
theorem dX0_leave_11 : decode cX0_leave 11 = .ok (.iload_n 3, 1) := by decide +kernel
theorem dX0_leave_12 : decode cX0_leave 12 = .ok (.iload_n 1, 1) := by decide +kernel
theorem dX0_leave_13 : decode cX0_leave 13 = .ok (.iload_n 2, 1) := by decide +kernel
theorem dX0_leave_14 : decode cX0_leave 14 = .ok (.invokestatic 30, 3) := by decide +kernel
theorem dX0_leave_17 : decode cX0_leave 17 = .ok (.dup2, 1) := by decide +kernel
theorem dX0_leave_18 : decode cX0_leave 18 = .ok (.iaload, 1) := by decide +kernel
theorem dX0_leave_19 : decode cX0_leave 19 = .ok (.iconst 1, 1) := by decide +kernel
theorem dX0_leave_20 : decode cX0_leave 20 = .ok (.isub, 1) := by decide +kernel
theorem dX0_leave_21 : decode cX0_leave 21 = .ok (.iastore, 1) := by decide +kernel
theorem dX0_leave_22 : decode cX0_leave 22 = .ok (.iinc 3 1, 3) := by decide +kernel
theorem dX0_leave_25 : decode cX0_leave 25 = .ok (.goto (-23), 3) := by decide +kernel
theorem dX0_leave_28 : decode cX0_leave 28 = .ok (.return_, 1) := by decide +kernel
theorem dX0_pointsIn_0 : decode cX0_pointsIn 0 = .ok (.aload_n 0, 1) := by decide +kernel
theorem dX0_pointsIn_1 : decode cX0_pointsIn 1 = .ok (.getfield 9, 3) := by decide +kernel
theorem dX0_pointsIn_4 : decode cX0_pointsIn 4 = .ok (.iload_n 1, 1) := by decide +kernel
theorem dX0_pointsIn_5 : decode cX0_pointsIn 5 = .ok (.iload_n 2, 1) := by decide +kernel
theorem dX0_pointsIn_6 : decode cX0_pointsIn 6 = .ok (.iload_n 3, 1) := by decide +kernel
theorem dX0_pointsIn_7 : decode cX0_pointsIn 7 = .ok (.invokestatic 34, 3) := by decide +kernel
theorem dX0_pointsIn_10 : decode cX0_pointsIn 10 = .ok (.iaload, 1) := by decide +kernel
theorem dX0_pointsIn_11 : decode cX0_pointsIn 11 = .ok (.ireturn, 1) := by decide +kernel
theorem dX0_isThere_0 : decode cX0_isThere 0 = .ok (.iload_n 1, 1) := by decide +kernel
theorem dX0_isThere_1 : decode cX0_isThere 1 = .ok (.ifCond .lt 8, 3) := by decide +kernel
theorem dX0_isThere_4 : decode cX0_isThere 4 = .ok (.iload_n 1, 1) := by decide +kernel
theorem dX0_isThere_5 : decode cX0_isThere 5 = .ok (.iconst 5, 1) := by decide +kernel
theorem dX0_isThere_6 : decode cX0_isThere 6 = .ok (.if_icmp .le 5, 3) := by decide +kernel
theorem dX0_isThere_9 : decode cX0_isThere 9 = .ok (.iconst 0, 1) := by decide +kernel
theorem dX0_isThere_10 : decode cX0_isThere 10 = .ok (.ireturn, 1) := by decide +kernel
theorem dX0_isThere_11 : decode cX0_isThere 11 = .ok (.iconst 1, 1) := by decide +kernel
theorem dX0_isThere_12 : decode cX0_isThere 12 = .ok (.iload_n 1, 1) := by decide +kernel
theorem dX0_isThere_13 : decode cX0_isThere 13 = .ok (.ishl, 1) := by decide +kernel
theorem dX0_isThere_14 : decode cX0_isThere 14 = .ok (.istore 4, 2) := by decide +kernel
theorem dX0_isThere_16 : decode cX0_isThere 16 = .ok (.iload_n 2, 1) := by decide +kernel
theorem dX0_isThere_17 : decode cX0_isThere 17 = .ok (.ifCond .lt 19, 3) := by decide +kernel
theorem dX0_isThere_20 : decode cX0_isThere 20 = .ok (.iload_n 2, 1) := by decide +kernel
theorem dX0_isThere_21 : decode cX0_isThere 21 = .ok (.iload 4, 2) := by decide +kernel
theorem dX0_isThere_23 : decode cX0_isThere 23 = .ok (.if_icmp .ge 13, 3) := by decide +kernel
theorem dX0_isThere_26 : decode cX0_isThere 26 = .ok (.iload_n 3, 1) := by decide +kernel
theorem dX0_isThere_27 : decode cX0_isThere 27 = .ok (.ifCond .lt 9, 3) := by decide +kernel
theorem dX0_isThere_30 : decode cX0_isThere 30 = .ok (.iload_n 3, 1) := by decide +kernel
theorem dX0_isThere_31 : decode cX0_isThere 31 = .ok (.iload 4, 2) := by decide +kernel
theorem dX0_isThere_33 : decode cX0_isThere 33 = .ok (.if_icmp .lt 5, 3) := by decide +kernel
theorem dX0_isThere_36 : decode cX0_isThere 36 = .ok (.iconst 0, 1) := by decide +kernel
theorem dX0_isThere_37 : decode cX0_isThere 37 = .ok (.ireturn, 1) := by decide +kernel
theorem dX0_isThere_38 : decode cX0_isThere 38 = .ok (.iload_n 1, 1) := by decide +kernel
theorem dX0_isThere_39 : decode cX0_isThere 39 = .ok (.ifCond .eq 23, 3) := by decide +kernel
theorem dX0_isThere_42 : decode cX0_isThere 42 = .ok (.aload_n 0, 1) := by decide +kernel
theorem dX0_isThere_43 : decode cX0_isThere 43 = .ok (.iload_n 1, 1) := by decide +kernel
theorem dX0_isThere_44 : decode cX0_isThere 44 = .ok (.iconst 1, 1) := by decide +kernel
theorem dX0_isThere_45 : decode cX0_isThere 45 = .ok (.isub, 1) := by decide +kernel
theorem dX0_isThere_46 : decode cX0_isThere 46 = .ok (.iload_n 2, 1) := by decide +kernel
theorem dX0_isThere_47 : decode cX0_isThere 47 = .ok (.iconst 1, 1) := by decide +kernel
theorem dX0_isThere_48 : decode cX0_isThere 48 = .ok (.ishr, 1) := by decide +kernel
theorem dX0_isThere_49 : decode cX0_isThere 49 = .ok (.iload_n 3, 1) := by decide +kernel
theorem dX0_isThere_50 : decode cX0_isThere 50 = .ok (.iconst 1, 1) := by decide +kernel
theorem dX0_isThere_51 : decode cX0_isThere 51 = .ok (.ishr, 1) := by decide +kernel
theorem dX0_isThere_52 : decode cX0_isThere 52 = .ok (.invokevirtual 37, 3) := by decide +kernel
theorem dX0_isThere_55 : decode cX0_isThere 55 = .ok (.aload_n 0, 1) := by decide +kernel
theorem dX0_isThere_56 : decode cX0_isThere 56 = .ok (.getfield 15, 3) := by decide +kernel
theorem dX0_isThere_59 : decode cX0_isThere 59 = .ok (.if_icmp .le 7, 3) := by decide +kernel
theorem dX0_isThere_62 : decode cX0_isThere 62 = .ok (.iconst 1, 1) := by decide +kernel
theorem dX0_isThere_63 : decode cX0_isThere 63 = .ok (.goto 4, 3) := by decide +kernel
theorem dX0_isThere_66 : decode cX0_isThere 66 = .ok (.iconst 0, 1) := by decide +kernel
theorem dX0_isThere_67 : decode cX0_isThere 67 = .ok (.ireturn, 1) := by decide +kernel
theorem dX0_isSplit_0 : decode cX0_isSplit 0 = .ok (.iload_n 1, 1) := by decide +kernel
theorem dX0_isSplit_1 : decode cX0_isSplit 1 = .ok (.iconst 5, 1) := by decide +kernel
theorem dX0_isSplit_2 : decode cX0_isSplit 2 = .ok (.if_icmp .ge 21, 3) := by decide +kernel
theorem dX0_isSplit_5 : decode cX0_isSplit 5 = .ok (.aload_n 0, 1) := by decide +kernel
theorem dX0_isSplit_6 : decode cX0_isSplit 6 = .ok (.iload_n 1, 1) := by decide +kernel
theorem dX0_isSplit_7 : decode cX0_isSplit 7 = .ok (.iload_n 2, 1) := by decide +kernel
theorem dX0_isSplit_8 : decode cX0_isSplit 8 = .ok (.iload_n 3, 1) := by decide +kernel
theorem dX0_isSplit_9 : decode cX0_isSplit 9 = .ok (.invokevirtual 37, 3) := by decide +kernel
theorem dX0_isSplit_12 : decode cX0_isSplit 12 = .ok (.aload_n 0, 1) := by decide +kernel
theorem dX0_isSplit_13 : decode cX0_isSplit 13 = .ok (.getfield 15, 3) := by decide +kernel
theorem dX0_isSplit_16 : decode cX0_isSplit 16 = .ok (.if_icmp .le 7, 3) := by decide +kernel
theorem dX0_isSplit_19 : decode cX0_isSplit 19 = .ok (.iconst 1, 1) := by decide +kernel
theorem dX0_isSplit_20 : decode cX0_isSplit 20 = .ok (.goto 4, 3) := by decide +kernel
theorem dX0_isSplit_23 : decode cX0_isSplit 23 = .ok (.iconst 0, 1) := by decide +kernel
theorem dX0_isSplit_24 : decode cX0_isSplit 24 = .ok (.ireturn, 1) := by decide +kernel
theorem dX0_splitBoxes_0 : decode cX0_splitBoxes 0 = .ok (.iconst 0, 1) := by decide +kernel
theorem dX0_splitBoxes_1 : decode cX0_splitBoxes 1 = .ok (.istore_n 1, 1) := by decide +kernel
theorem dX0_splitBoxes_2 : decode cX0_splitBoxes 2 = .ok (.iconst 0, 1) := by decide +kernel
theorem dX0_splitBoxes_3 : decode cX0_splitBoxes 3 = .ok (.istore_n 2, 1) := by decide +kernel
theorem dX0_splitBoxes_4 : decode cX0_splitBoxes 4 = .ok (.iload_n 2, 1) := by decide +kernel
theorem dX0_splitBoxes_5 : decode cX0_splitBoxes 5 = .ok (.getstatic 40, 3) := by decide +kernel
theorem dX0_splitBoxes_8 : decode cX0_splitBoxes 8 = .ok (.iconst 5, 1) := by decide +kernel
theorem dX0_splitBoxes_9 : decode cX0_splitBoxes 9 = .ok (.iaload, 1) := by decide +kernel
theorem dX0_splitBoxes_10 : decode cX0_splitBoxes 10 = .ok (.if_icmp .ge 25, 3) := by decide +kernel
theorem dX0_splitBoxes_13 : decode cX0_splitBoxes 13 = .ok (.aload_n 0, 1) := by decide +kernel
theorem dX0_splitBoxes_14 : decode cX0_splitBoxes 14 = .ok (.getfield 9, 3) := by decide +kernel
theorem dX0_splitBoxes_17 : decode cX0_splitBoxes 17 = .ok (.iload_n 2, 1) := by decide +kernel
theorem dX0_splitBoxes_18 : decode cX0_splitBoxes 18 = .ok (.iaload, 1) := by decide +kernel
theorem dX0_splitBoxes_19 : decode cX0_splitBoxes 19 = .ok (.aload_n 0, 1) := by decide +kernel
theorem dX0_splitBoxes_20 : decode cX0_splitBoxes 20 = .ok (.getfield 15, 3) := by decide +kernel
theorem dX0_splitBoxes_23 : decode cX0_splitBoxes 23 = .ok (.if_icmp .le 6, 3) := by decide +kernel
theorem dX0_splitBoxes_26 : decode cX0_splitBoxes 26 = .ok (.iinc 1 1, 3) := by decide +kernel
theorem dX0_splitBoxes_29 : decode cX0_splitBoxes 29 = .ok (.iinc 2 1, 3) := by decide +kernel
theorem dX0_splitBoxes_32 : decode cX0_splitBoxes 32 = .ok (.goto (-28), 3) := by decide +kernel
theorem dX0_splitBoxes_35 : decode cX0_splitBoxes 35 = .ok (.iload_n 1, 1) := by decide +kernel
theorem dX0_splitBoxes_36 : decode cX0_splitBoxes 36 = .ok (.ireturn, 1) := by decide +kernel
theorem dX0_greatestLevel_0 : decode cX0_greatestLevel 0 = .ok (.iconst 5, 1) := by decide +kernel
theorem dX0_greatestLevel_1 : decode cX0_greatestLevel 1 = .ok (.istore_n 1, 1) := by decide +kernel
theorem dX0_greatestLevel_2 : decode cX0_greatestLevel 2 = .ok (.iload_n 1, 1) := by decide +kernel
theorem dX0_greatestLevel_3 : decode cX0_greatestLevel 3 = .ok (.ifCond .le 47, 3) := by decide +kernel
theorem dX0_greatestLevel_6 : decode cX0_greatestLevel 6 = .ok (.getstatic 40, 3) := by decide +kernel
theorem dX0_greatestLevel_9 : decode cX0_greatestLevel 9 = .ok (.iload_n 1, 1) := by decide +kernel
theorem dX0_greatestLevel_10 : decode cX0_greatestLevel 10 = .ok (.iconst 1, 1) := by decide +kernel
theorem dX0_greatestLevel_11 : decode cX0_greatestLevel 11 = .ok (.isub, 1) := by decide +kernel
theorem dX0_greatestLevel_12 : decode cX0_greatestLevel 12 = .ok (.iaload, 1) := by decide +kernel
theorem dX0_greatestLevel_13 : decode cX0_greatestLevel 13 = .ok (.istore_n 2, 1) := by decide +kernel
theorem dX0_greatestLevel_14 : decode cX0_greatestLevel 14 = .ok (.iload_n 2, 1) := by decide +kernel
theorem dX0_greatestLevel_15 : decode cX0_greatestLevel 15 = .ok (.getstatic 40, 3) := by decide +kernel
theorem dX0_greatestLevel_18 : decode cX0_greatestLevel 18 = .ok (.iload_n 1, 1) := by decide +kernel
theorem dX0_greatestLevel_19 : decode cX0_greatestLevel 19 = .ok (.iaload, 1) := by decide +kernel
theorem dX0_greatestLevel_20 : decode cX0_greatestLevel 20 = .ok (.if_icmp .ge 24, 3) := by decide +kernel
theorem dX0_greatestLevel_23 : decode cX0_greatestLevel 23 = .ok (.aload_n 0, 1) := by decide +kernel
theorem dX0_greatestLevel_24 : decode cX0_greatestLevel 24 = .ok (.getfield 9, 3) := by decide +kernel
theorem dX0_greatestLevel_27 : decode cX0_greatestLevel 27 = .ok (.iload_n 2, 1) := by decide +kernel
theorem dX0_greatestLevel_28 : decode cX0_greatestLevel 28 = .ok (.iaload, 1) := by decide +kernel
theorem dX0_greatestLevel_29 : decode cX0_greatestLevel 29 = .ok (.aload_n 0, 1) := by decide +kernel
theorem dX0_greatestLevel_30 : decode cX0_greatestLevel 30 = .ok (.getfield 15, 3) := by decide +kernel
theorem dX0_greatestLevel_33 : decode cX0_greatestLevel 33 = .ok (.if_icmp .le 5, 3) := by decide +kernel
theorem dX0_greatestLevel_36 : decode cX0_greatestLevel 36 = .ok (.iload_n 1, 1) := by decide +kernel
theorem dX0_greatestLevel_37 : decode cX0_greatestLevel 37 = .ok (.ireturn, 1) := by decide +kernel
theorem dX0_greatestLevel_38 : decode cX0_greatestLevel 38 = .ok (.iinc 2 1, 3) := by decide +kernel
theorem dX0_greatestLevel_41 : decode cX0_greatestLevel 41 = .ok (.goto (-27), 3) := by decide +kernel
theorem dX0_greatestLevel_44 : decode cX0_greatestLevel 44 = .ok (.iinc 1 (-1), 3) := by decide +kernel
theorem dX0_greatestLevel_47 : decode cX0_greatestLevel 47 = .ok (.goto (-45), 3) := by decide +kernel
theorem dX0_greatestLevel_50 : decode cX0_greatestLevel 50 = .ok (.iconst 0, 1) := by decide +kernel
theorem dX0_greatestLevel_51 : decode cX0_greatestLevel 51 = .ok (.ireturn, 1) := by decide +kernel
theorem dX0_leafLevel_0 : decode cX0_leafLevel 0 = .ok (.iconst 0, 1) := by decide +kernel
theorem dX0_leafLevel_1 : decode cX0_leafLevel 1 = .ok (.istore_n 3, 1) := by decide +kernel
theorem dX0_leafLevel_2 : decode cX0_leafLevel 2 = .ok (.iload_n 3, 1) := by decide +kernel
theorem dX0_leafLevel_3 : decode cX0_leafLevel 3 = .ok (.iconst 5, 1) := by decide +kernel
theorem dX0_leafLevel_4 : decode cX0_leafLevel 4 = .ok (.if_icmp .ge 29, 3) := by decide +kernel
theorem dX0_leafLevel_7 : decode cX0_leafLevel 7 = .ok (.aload_n 0, 1) := by decide +kernel
theorem dX0_leafLevel_8 : decode cX0_leafLevel 8 = .ok (.getfield 9, 3) := by decide +kernel
theorem dX0_leafLevel_11 : decode cX0_leafLevel 11 = .ok (.iload_n 3, 1) := by decide +kernel
theorem dX0_leafLevel_12 : decode cX0_leafLevel 12 = .ok (.iload_n 1, 1) := by decide +kernel
theorem dX0_leafLevel_13 : decode cX0_leafLevel 13 = .ok (.iload_n 2, 1) := by decide +kernel
theorem dX0_leafLevel_14 : decode cX0_leafLevel 14 = .ok (.invokestatic 30, 3) := by decide +kernel
theorem dX0_leafLevel_17 : decode cX0_leafLevel 17 = .ok (.iaload, 1) := by decide +kernel
theorem dX0_leafLevel_18 : decode cX0_leafLevel 18 = .ok (.aload_n 0, 1) := by decide +kernel
theorem dX0_leafLevel_19 : decode cX0_leafLevel 19 = .ok (.getfield 15, 3) := by decide +kernel
theorem dX0_leafLevel_22 : decode cX0_leafLevel 22 = .ok (.if_icmp .gt 5, 3) := by decide +kernel
theorem dX0_leafLevel_25 : decode cX0_leafLevel 25 = .ok (.iload_n 3, 1) := by decide +kernel
theorem dX0_leafLevel_26 : decode cX0_leafLevel 26 = .ok (.ireturn, 1) := by decide +kernel
theorem dX0_leafLevel_27 : decode cX0_leafLevel 27 = .ok (.iinc 3 1, 3) := by decide +kernel
theorem dX0_leafLevel_30 : decode cX0_leafLevel 30 = .ok (.goto (-28), 3) := by decide +kernel
theorem dX0_leafLevel_33 : decode cX0_leafLevel 33 = .ok (.iconst 5, 1) := by decide +kernel
theorem dX0_leafLevel_34 : decode cX0_leafLevel 34 = .ok (.ireturn, 1) := by decide +kernel
theorem dX0_holds_0 : decode cX0_holds 0 = .ok (.aload_n 0, 1) := by decide +kernel
theorem dX0_holds_1 : decode cX0_holds 1 = .ok (.getfield 26, 3) := by decide +kernel
theorem dX0_holds_4 : decode cX0_holds 4 = .ok (.getfield 43, 3) := by decide +kernel
theorem dX0_holds_7 : decode cX0_holds 7 = .ok (.iload 4, 2) := by decide +kernel
theorem dX0_holds_9 : decode cX0_holds 9 = .ok (.baload, 1) := by decide +kernel
theorem dX0_holds_10 : decode cX0_holds 10 = .ok (.ifCond .eq 43, 3) := by decide +kernel
theorem dX0_holds_13 : decode cX0_holds 13 = .ok (.iload_n 1, 1) := by decide +kernel
theorem dX0_holds_14 : decode cX0_holds 14 = .ok (.aload_n 0, 1) := by decide +kernel
theorem dX0_holds_15 : decode cX0_holds 15 = .ok (.getfield 26, 3) := by decide +kernel
theorem dX0_holds_18 : decode cX0_holds 18 = .ok (.getfield 49, 3) := by decide +kernel
theorem dX0_holds_21 : decode cX0_holds 21 = .ok (.iload 4, 2) := by decide +kernel
theorem dX0_holds_23 : decode cX0_holds 23 = .ok (.iaload, 1) := by decide +kernel
theorem dX0_holds_24 : decode cX0_holds 24 = .ok (.invokestatic 52, 3) := by decide +kernel
theorem dX0_holds_27 : decode cX0_holds 27 = .ok (.iload_n 2, 1) := by decide +kernel
theorem dX0_holds_28 : decode cX0_holds 28 = .ok (.if_icmp .ne 25, 3) := by decide +kernel
theorem dX0_holds_31 : decode cX0_holds 31 = .ok (.iload_n 1, 1) := by decide +kernel
theorem dX0_holds_32 : decode cX0_holds 32 = .ok (.aload_n 0, 1) := by decide +kernel
theorem dX0_holds_33 : decode cX0_holds 33 = .ok (.getfield 26, 3) := by decide +kernel
theorem dX0_holds_36 : decode cX0_holds 36 = .ok (.getfield 56, 3) := by decide +kernel
theorem dX0_holds_39 : decode cX0_holds 39 = .ok (.iload 4, 2) := by decide +kernel
theorem dX0_holds_41 : decode cX0_holds 41 = .ok (.iaload, 1) := by decide +kernel
theorem dX0_holds_42 : decode cX0_holds 42 = .ok (.invokestatic 52, 3) := by decide +kernel
theorem dX0_holds_45 : decode cX0_holds 45 = .ok (.iload_n 3, 1) := by decide +kernel
theorem dX0_holds_46 : decode cX0_holds 46 = .ok (.if_icmp .ne 7, 3) := by decide +kernel
theorem dX0_holds_49 : decode cX0_holds 49 = .ok (.iconst 1, 1) := by decide +kernel
theorem dX0_holds_50 : decode cX0_holds 50 = .ok (.goto 4, 3) := by decide +kernel
theorem dX0_holds_53 : decode cX0_holds 53 = .ok (.iconst 0, 1) := by decide +kernel
theorem dX0_holds_54 : decode cX0_holds 54 = .ok (.ireturn, 1) := by decide +kernel
theorem dX0_gather_0 : decode cX0_gather 0 = .ok (.iconst 0, 1) := by decide +kernel
theorem dX0_gather_1 : decode cX0_gather 1 = .ok (.istore 4, 2) := by decide +kernel
theorem dX0_gather_3 : decode cX0_gather 3 = .ok (.iload 4, 2) := by decide +kernel
theorem dX0_gather_5 : decode cX0_gather 5 = .ok (.bipush 25, 2) := by decide +kernel
theorem dX0_gather_7 : decode cX0_gather 7 = .ok (.if_icmp .ge 17, 3) := by decide +kernel
theorem dX0_gather_10 : decode cX0_gather 10 = .ok (.aload_n 0, 1) := by decide +kernel
theorem dX0_gather_11 : decode cX0_gather 11 = .ok (.getfield 19, 3) := by decide +kernel
theorem dX0_gather_14 : decode cX0_gather 14 = .ok (.iload 4, 2) := by decide +kernel
theorem dX0_gather_16 : decode cX0_gather 16 = .ok (.lconst 0, 1) := by decide +kernel
theorem dX0_gather_17 : decode cX0_gather 17 = .ok (.lastore, 1) := by decide +kernel
theorem dX0_gather_18 : decode cX0_gather 18 = .ok (.iinc 4 1, 3) := by decide +kernel
theorem dX0_gather_21 : decode cX0_gather 21 = .ok (.goto (-18), 3) := by decide +kernel
theorem dX0_gather_24 : decode cX0_gather 24 = .ok (.aload_n 0, 1) := by decide +kernel
theorem dX0_gather_25 : decode cX0_gather 25 = .ok (.iconst 0, 1) := by decide +kernel
theorem dX0_gather_26 : decode cX0_gather 26 = .ok (.putfield 23, 3) := by decide +kernel
theorem dX0_gather_29 : decode cX0_gather 29 = .ok (.iconst 0, 1) := by decide +kernel
theorem dX0_gather_30 : decode cX0_gather 30 = .ok (.istore 4, 2) := by decide +kernel
theorem dX0_gather_32 : decode cX0_gather 32 = .ok (.iload 4, 2) := by decide +kernel
theorem dX0_gather_34 : decode cX0_gather 34 = .ok (.bipush 40, 2) := by decide +kernel
theorem dX0_gather_36 : decode cX0_gather 36 = .ok (.if_icmp .ge 87, 3) := by decide +kernel
theorem dX0_gather_39 : decode cX0_gather 39 = .ok (.aload_n 0, 1) := by decide +kernel
theorem dX0_gather_40 : decode cX0_gather 40 = .ok (.iload_n 1, 1) := by decide +kernel
theorem dX0_gather_41 : decode cX0_gather 41 = .ok (.iload_n 2, 1) := by decide +kernel
theorem dX0_gather_42 : decode cX0_gather 42 = .ok (.iload_n 3, 1) := by decide +kernel
theorem dX0_gather_43 : decode cX0_gather 43 = .ok (.iload 4, 2) := by decide +kernel
theorem dX0_gather_45 : decode cX0_gather 45 = .ok (.invokevirtual 59, 3) := by decide +kernel
theorem dX0_gather_48 : decode cX0_gather 48 = .ok (.ifCond .eq 69, 3) := by decide +kernel
theorem dX0_gather_51 : decode cX0_gather 51 = .ok (.aload_n 0, 1) := by decide +kernel
theorem dX0_gather_52 : decode cX0_gather 52 = .ok (.aload_n 0, 1) := by decide +kernel
theorem dX0_gather_53 : decode cX0_gather 53 = .ok (.getfield 26, 3) := by decide +kernel
theorem dX0_gather_56 : decode cX0_gather 56 = .ok (.getfield 63, 3) := by decide +kernel
theorem dX0_gather_59 : decode cX0_gather 59 = .ok (.iload 4, 2) := by decide +kernel
theorem dX0_gather_61 : decode cX0_gather 61 = .ok (.iaload, 1) := by decide +kernel
theorem dX0_gather_62 : decode cX0_gather 62 = .ok (.aload_n 0, 1) := by decide +kernel
theorem dX0_gather_63 : decode cX0_gather 63 = .ok (.getfield 26, 3) := by decide +kernel
theorem dX0_gather_66 : decode cX0_gather 66 = .ok (.getfield 49, 3) := by decide +kernel
theorem dX0_gather_69 : decode cX0_gather 69 = .ok (.iload 4, 2) := by decide +kernel
theorem dX0_gather_71 : decode cX0_gather 71 = .ok (.iaload, 1) := by decide +kernel
theorem dX0_gather_72 : decode cX0_gather 72 = .ok (.iload_n 1, 1) := by decide +kernel
theorem dX0_gather_73 : decode cX0_gather 73 = .ok (.iload_n 2, 1) := by decide +kernel
theorem dX0_gather_74 : decode cX0_gather 74 = .ok (.invokestatic 66, 3) := by decide +kernel
theorem dX0_gather_77 : decode cX0_gather 77 = .ok (.aload_n 0, 1) := by decide +kernel
theorem dX0_gather_78 : decode cX0_gather 78 = .ok (.getfield 26, 3) := by decide +kernel
theorem dX0_gather_81 : decode cX0_gather 81 = .ok (.getfield 56, 3) := by decide +kernel
theorem dX0_gather_84 : decode cX0_gather 84 = .ok (.iload 4, 2) := by decide +kernel
theorem dX0_gather_86 : decode cX0_gather 86 = .ok (.iaload, 1) := by decide +kernel
theorem dX0_gather_87 : decode cX0_gather 87 = .ok (.iload_n 1, 1) := by decide +kernel
theorem dX0_gather_88 : decode cX0_gather 88 = .ok (.iload_n 3, 1) := by decide +kernel
theorem dX0_gather_89 : decode cX0_gather 89 = .ok (.invokestatic 66, 3) := by decide +kernel
theorem dX0_gather_92 : decode cX0_gather 92 = .ok (.invokevirtual 69, 3) := by decide +kernel
theorem dX0_gather_95 : decode cX0_gather 95 = .ok (.aload_n 0, 1) := by decide +kernel
theorem dX0_gather_96 : decode cX0_gather 96 = .ok (.dup, 1) := by decide +kernel
theorem dX0_gather_97 : decode cX0_gather 97 = .ok (.getfield 23, 3) := by decide +kernel
theorem dX0_gather_100 : decode cX0_gather 100 = .ok (.aload_n 0, 1) := by decide +kernel
theorem dX0_gather_101 : decode cX0_gather 101 = .ok (.getfield 26, 3) := by decide +kernel
theorem dX0_gather_104 : decode cX0_gather 104 = .ok (.getfield 63, 3) := by decide +kernel
theorem dX0_gather_107 : decode cX0_gather 107 = .ok (.iload 4, 2) := by decide +kernel
theorem dX0_gather_109 : decode cX0_gather 109 = .ok (.iaload, 1) := by decide +kernel
theorem dX0_gather_110 : decode cX0_gather 110 = .ok (.invokestatic 73, 3) := by decide +kernel
theorem dX0_gather_113 : decode cX0_gather 113 = .ok (.iadd, 1) := by decide +kernel
theorem dX0_gather_114 : decode cX0_gather 114 = .ok (.putfield 23, 3) := by decide +kernel
theorem dX0_gather_117 : decode cX0_gather 117 = .ok (.iinc 4 1, 3) := by decide +kernel
theorem dX0_gather_120 : decode cX0_gather 120 = .ok (.goto (-88), 3) := by decide +kernel
theorem dX0_gather_123 : decode cX0_gather 123 = .ok (.return_, 1) := by decide +kernel
theorem dX0_addMoments_0 : decode cX0_addMoments 0 = .ok (.iload_n 1, 1) := by decide +kernel
theorem dX0_addMoments_1 : decode cX0_addMoments 1 = .ok (.i2l, 1) := by decide +kernel
theorem dX0_addMoments_2 : decode cX0_addMoments 2 = .ok (.lstore 4, 2) := by decide +kernel
theorem dX0_addMoments_4 : decode cX0_addMoments 4 = .ok (.iconst 0, 1) := by decide +kernel
theorem dX0_addMoments_5 : decode cX0_addMoments 5 = .ok (.istore 6, 2) := by decide +kernel
theorem dX0_addMoments_7 : decode cX0_addMoments 7 = .ok (.iload 6, 2) := by decide +kernel
theorem dX0_addMoments_9 : decode cX0_addMoments 9 = .ok (.iconst 4, 1) := by decide +kernel
theorem dX0_addMoments_10 : decode cX0_addMoments 10 = .ok (.if_icmp .gt 62, 3) := by decide +kernel
theorem dX0_addMoments_13 : decode cX0_addMoments 13 = .ok (.lload 4, 2) := by decide +kernel
theorem dX0_addMoments_15 : decode cX0_addMoments 15 = .ok (.lstore 7, 2) := by decide +kernel
theorem dX0_addMoments_17 : decode cX0_addMoments 17 = .ok (.iconst 0, 1) := by decide +kernel
theorem dX0_addMoments_18 : decode cX0_addMoments 18 = .ok (.istore 9, 2) := by decide +kernel
theorem dX0_addMoments_20 : decode cX0_addMoments 20 = .ok (.iload 6, 2) := by decide +kernel
theorem dX0_addMoments_22 : decode cX0_addMoments 22 = .ok (.iload 9, 2) := by decide +kernel
theorem dX0_addMoments_24 : decode cX0_addMoments 24 = .ok (.iadd, 1) := by decide +kernel
theorem dX0_addMoments_25 : decode cX0_addMoments 25 = .ok (.iconst 4, 1) := by decide +kernel
theorem dX0_addMoments_26 : decode cX0_addMoments 26 = .ok (.if_icmp .gt 33, 3) := by decide +kernel
theorem dX0_addMoments_29 : decode cX0_addMoments 29 = .ok (.aload_n 0, 1) := by decide +kernel
theorem dX0_addMoments_30 : decode cX0_addMoments 30 = .ok (.getfield 19, 3) := by decide +kernel
theorem dX0_addMoments_33 : decode cX0_addMoments 33 = .ok (.iload 6, 2) := by decide +kernel
theorem dX0_addMoments_35 : decode cX0_addMoments 35 = .ok (.iload 9, 2) := by decide +kernel
theorem dX0_addMoments_37 : decode cX0_addMoments 37 = .ok (.invokestatic 79, 3) := by decide +kernel
theorem dX0_addMoments_40 : decode cX0_addMoments 40 = .ok (.dup2, 1) := by decide +kernel
theorem dX0_addMoments_41 : decode cX0_addMoments 41 = .ok (.laload, 1) := by decide +kernel
theorem dX0_addMoments_42 : decode cX0_addMoments 42 = .ok (.lload 7, 2) := by decide +kernel
theorem dX0_addMoments_44 : decode cX0_addMoments 44 = .ok (.ladd, 1) := by decide +kernel
theorem dX0_addMoments_45 : decode cX0_addMoments 45 = .ok (.lastore, 1) := by decide +kernel
theorem dX0_addMoments_46 : decode cX0_addMoments 46 = .ok (.lload 7, 2) := by decide +kernel
theorem dX0_addMoments_48 : decode cX0_addMoments 48 = .ok (.iload_n 3, 1) := by decide +kernel
theorem dX0_addMoments_49 : decode cX0_addMoments 49 = .ok (.i2l, 1) := by decide +kernel
theorem dX0_addMoments_50 : decode cX0_addMoments 50 = .ok (.lmul, 1) := by decide +kernel
theorem dX0_addMoments_51 : decode cX0_addMoments 51 = .ok (.lstore 7, 2) := by decide +kernel
theorem dX0_addMoments_53 : decode cX0_addMoments 53 = .ok (.iinc 9 1, 3) := by decide +kernel
theorem dX0_addMoments_56 : decode cX0_addMoments 56 = .ok (.goto (-36), 3) := by decide +kernel
theorem dX0_addMoments_59 : decode cX0_addMoments 59 = .ok (.lload 4, 2) := by decide +kernel
theorem dX0_addMoments_61 : decode cX0_addMoments 61 = .ok (.iload_n 2, 1) := by decide +kernel
theorem dX0_addMoments_62 : decode cX0_addMoments 62 = .ok (.i2l, 1) := by decide +kernel
theorem dX0_addMoments_63 : decode cX0_addMoments 63 = .ok (.lmul, 1) := by decide +kernel
theorem dX0_addMoments_64 : decode cX0_addMoments 64 = .ok (.lstore 4, 2) := by decide +kernel
theorem dX0_addMoments_66 : decode cX0_addMoments 66 = .ok (.iinc 6 1, 3) := by decide +kernel
theorem dX0_addMoments_69 : decode cX0_addMoments 69 = .ok (.goto (-62), 3) := by decide +kernel
theorem dX0_addMoments_72 : decode cX0_addMoments 72 = .ok (.return_, 1) := by decide +kernel
theorem dX0_numberAt_0 : decode cX0_numberAt 0 = .ok (.iload_n 1, 1) := by decide +kernel
theorem dX0_numberAt_1 : decode cX0_numberAt 1 = .ok (.bipush 6, 2) := by decide +kernel
theorem dX0_numberAt_3 : decode cX0_numberAt 3 = .ok (.iload_n 0, 1) := by decide +kernel
theorem dX0_numberAt_4 : decode cX0_numberAt 4 = .ok (.isub, 1) := by decide +kernel
theorem dX0_numberAt_5 : decode cX0_numberAt 5 = .ok (.ishr, 1) := by decide +kernel
theorem dX0_numberAt_6 : decode cX0_numberAt 6 = .ok (.ireturn, 1) := by decide +kernel
theorem dX0_placeIndex_0 : decode cX0_placeIndex 0 = .ok (.iload_n 0, 1) := by decide +kernel
theorem dX0_placeIndex_1 : decode cX0_placeIndex 1 = .ok (.iload_n 0, 1) := by decide +kernel
theorem dX0_placeIndex_2 : decode cX0_placeIndex 2 = .ok (.iload_n 1, 1) := by decide +kernel
theorem dX0_placeIndex_3 : decode cX0_placeIndex 3 = .ok (.invokestatic 52, 3) := by decide +kernel
theorem dX0_placeIndex_6 : decode cX0_placeIndex 6 = .ok (.iload_n 0, 1) := by decide +kernel
theorem dX0_placeIndex_7 : decode cX0_placeIndex 7 = .ok (.iload_n 2, 1) := by decide +kernel
theorem dX0_placeIndex_8 : decode cX0_placeIndex 8 = .ok (.invokestatic 52, 3) := by decide +kernel
theorem dX0_placeIndex_11 : decode cX0_placeIndex 11 = .ok (.invokestatic 34, 3) := by decide +kernel
theorem dX0_placeIndex_14 : decode cX0_placeIndex 14 = .ok (.ireturn, 1) := by decide +kernel
theorem dX0_boxIndex_0 : decode cX0_boxIndex 0 = .ok (.getstatic 40, 3) := by decide +kernel
theorem dX0_boxIndex_3 : decode cX0_boxIndex 3 = .ok (.iload_n 0, 1) := by decide +kernel
theorem dX0_boxIndex_4 : decode cX0_boxIndex 4 = .ok (.iaload, 1) := by decide +kernel
theorem dX0_boxIndex_5 : decode cX0_boxIndex 5 = .ok (.iload_n 2, 1) := by decide +kernel
theorem dX0_boxIndex_6 : decode cX0_boxIndex 6 = .ok (.iload_n 0, 1) := by decide +kernel
theorem dX0_boxIndex_7 : decode cX0_boxIndex 7 = .ok (.ishl, 1) := by decide +kernel
theorem dX0_boxIndex_8 : decode cX0_boxIndex 8 = .ok (.iadd, 1) := by decide +kernel
theorem dX0_boxIndex_9 : decode cX0_boxIndex 9 = .ok (.iload_n 1, 1) := by decide +kernel
theorem dX0_boxIndex_10 : decode cX0_boxIndex 10 = .ok (.iadd, 1) := by decide +kernel
theorem dX0_boxIndex_11 : decode cX0_boxIndex 11 = .ok (.ireturn, 1) := by decide +kernel
theorem dX1_init_0 : decode cX1_init 0 = .ok (.aload_n 0, 1) := by decide +kernel
theorem dX1_init_1 : decode cX1_init 1 = .ok (.invokespecial 3, 3) := by decide +kernel
theorem dX1_init_4 : decode cX1_init 4 = .ok (.aload_n 0, 1) := by decide +kernel
theorem dX1_init_5 : decode cX1_init 5 = .ok (.bipush 40, 2) := by decide +kernel
theorem dX1_init_7 : decode cX1_init 7 = .ok (.newarray .int, 2) := by decide +kernel
theorem dX1_init_9 : decode cX1_init 9 = .ok (.putfield 9, 3) := by decide +kernel
theorem dX1_init_12 : decode cX1_init 12 = .ok (.aload_n 0, 1) := by decide +kernel
theorem dX1_init_13 : decode cX1_init 13 = .ok (.bipush 40, 2) := by decide +kernel
theorem dX1_init_15 : decode cX1_init 15 = .ok (.newarray .int, 2) := by decide +kernel
theorem dX1_init_17 : decode cX1_init 17 = .ok (.putfield 15, 3) := by decide +kernel
theorem dX1_init_20 : decode cX1_init 20 = .ok (.aload_n 0, 1) := by decide +kernel
theorem dX1_init_21 : decode cX1_init 21 = .ok (.iconst 0, 1) := by decide +kernel
theorem dX1_init_22 : decode cX1_init 22 = .ok (.putfield 18, 3) := by decide +kernel
theorem dX1_init_25 : decode cX1_init 25 = .ok (.aload_n 0, 1) := by decide +kernel
theorem dX1_init_26 : decode cX1_init 26 = .ok (.aload_n 1, 1) := by decide +kernel
theorem dX1_init_27 : decode cX1_init 27 = .ok (.putfield 22, 3) := by decide +kernel
theorem dX1_init_30 : decode cX1_init 30 = .ok (.aload_n 0, 1) := by decide +kernel
theorem dX1_init_31 : decode cX1_init 31 = .ok (.aload_n 2, 1) := by decide +kernel
theorem dX1_init_32 : decode cX1_init 32 = .ok (.putfield 26, 3) := by decide +kernel
theorem dX1_init_35 : decode cX1_init 35 = .ok (.aload_n 0, 1) := by decide +kernel
theorem dX1_init_36 : decode cX1_init 36 = .ok (.aload_n 3, 1) := by decide +kernel
theorem dX1_init_37 : decode cX1_init 37 = .ok (.putfield 30, 3) := by decide +kernel
theorem dX1_init_40 : decode cX1_init 40 = .ok (.return_, 1) := by decide +kernel
theorem dX1_forth_0 : decode cX1_forth 0 = .ok (.aload_n 0, 1) := by decide +kernel
theorem dX1_forth_1 : decode cX1_forth 1 = .ok (.invokevirtual 34, 3) := by decide +kernel
theorem dX1_forth_4 : decode cX1_forth 4 = .ok (.aload_n 0, 1) := by decide +kernel
theorem dX1_forth_5 : decode cX1_forth 5 = .ok (.iconst 1, 1) := by decide +kernel
theorem dX1_forth_6 : decode cX1_forth 6 = .ok (.invokevirtual 37, 3) := by decide +kernel
theorem dX1_forth_9 : decode cX1_forth 9 = .ok (.aload_n 0, 1) := by decide +kernel
theorem dX1_forth_10 : decode cX1_forth 10 = .ok (.iconst 1, 1) := by decide +kernel
theorem dX1_forth_11 : decode cX1_forth 11 = .ok (.invokevirtual 41, 3) := by decide +kernel
theorem dX1_forth_14 : decode cX1_forth 14 = .ok (.aload_n 0, 1) := by decide +kernel
theorem dX1_forth_15 : decode cX1_forth 15 = .ok (.dup, 1) := by decide +kernel
theorem dX1_forth_16 : decode cX1_forth 16 = .ok (.getfield 18, 3) := by decide +kernel
theorem dX1_forth_19 : decode cX1_forth 19 = .ok (.iconst 1, 1) := by decide +kernel
theorem dX1_forth_20 : decode cX1_forth 20 = .ok (.iadd, 1) := by decide +kernel
theorem dX1_forth_21 : decode cX1_forth 21 = .ok (.putfield 18, 3) := by decide +kernel
theorem dX1_forth_24 : decode cX1_forth 24 = .ok (.return_, 1) := by decide +kernel
theorem dX1_back_0 : decode cX1_back 0 = .ok (.aload_n 0, 1) := by decide +kernel
theorem dX1_back_1 : decode cX1_back 1 = .ok (.iconst (-1), 1) := by decide +kernel
theorem dX1_back_2 : decode cX1_back 2 = .ok (.invokevirtual 41, 3) := by decide +kernel
theorem dX1_back_5 : decode cX1_back 5 = .ok (.aload_n 0, 1) := by decide +kernel
theorem dX1_back_6 : decode cX1_back 6 = .ok (.invokevirtual 34, 3) := by decide +kernel
theorem dX1_back_9 : decode cX1_back 9 = .ok (.aload_n 0, 1) := by decide +kernel
theorem dX1_back_10 : decode cX1_back 10 = .ok (.iconst (-1), 1) := by decide +kernel
theorem dX1_back_11 : decode cX1_back 11 = .ok (.invokevirtual 37, 3) := by decide +kernel
theorem dX1_back_14 : decode cX1_back 14 = .ok (.aload_n 0, 1) := by decide +kernel
theorem dX1_back_15 : decode cX1_back 15 = .ok (.dup, 1) := by decide +kernel
theorem dX1_back_16 : decode cX1_back 16 = .ok (.getfield 18, 3) := by decide +kernel
theorem dX1_back_19 : decode cX1_back 19 = .ok (.iconst 1, 1) := by decide +kernel
theorem dX1_back_20 : decode cX1_back 20 = .ok (.isub, 1) := by decide +kernel
theorem dX1_back_21 : decode cX1_back 21 = .ok (.putfield 18, 3) := by decide +kernel
theorem dX1_back_24 : decode cX1_back 24 = .ok (.return_, 1) := by decide +kernel
theorem dX1_findPushes_0 : decode cX1_findPushes 0 = .ok (.aload_n 0, 1) := by decide +kernel
theorem dX1_findPushes_1 : decode cX1_findPushes 1 = .ok (.getfield 26, 3) := by decide +kernel
theorem dX1_findPushes_4 : decode cX1_findPushes 4 = .ok (.iconst 0, 1) := by decide +kernel
theorem dX1_findPushes_5 : decode cX1_findPushes 5 = .ok (.iconst 0, 1) := by decide +kernel
theorem dX1_findPushes_6 : decode cX1_findPushes 6 = .ok (.iconst 0, 1) := by decide +kernel
theorem dX1_findPushes_7 : decode cX1_findPushes 7 = .ok (.invokevirtual 44, 3) := by decide +kernel
theorem dX1_findPushes_10 : decode cX1_findPushes 10 = .ok (.aload_n 0, 1) := by decide +kernel
theorem dX1_findPushes_11 : decode cX1_findPushes 11 = .ok (.getfield 30, 3) := by decide +kernel
theorem dX1_findPushes_14 : decode cX1_findPushes 14 = .ok (.aload_n 0, 1) := by decide +kernel
theorem dX1_findPushes_15 : decode cX1_findPushes 15 = .ok (.getfield 26, 3) := by decide +kernel
theorem dX1_findPushes_18 : decode cX1_findPushes 18 = .ok (.getfield 50, 3) := by decide +kernel
theorem dX1_findPushes_21 : decode cX1_findPushes 21 = .ok (.iconst 4, 1) := by decide +kernel
theorem dX1_findPushes_22 : decode cX1_findPushes 22 = .ok (.invokevirtual 54, 3) := by decide +kernel
theorem dX1_findPushes_25 : decode cX1_findPushes 25 = .ok (.iconst 0, 1) := by decide +kernel
theorem dX1_findPushes_26 : decode cX1_findPushes 26 = .ok (.istore_n 1, 1) := by decide +kernel
theorem dX1_findPushes_27 : decode cX1_findPushes 27 = .ok (.iload_n 1, 1) := by decide +kernel
theorem dX1_findPushes_28 : decode cX1_findPushes 28 = .ok (.bipush 40, 2) := by decide +kernel
theorem dX1_findPushes_30 : decode cX1_findPushes 30 = .ok (.if_icmp .ge 93, 3) := by decide +kernel
theorem dX1_findPushes_33 : decode cX1_findPushes 33 = .ok (.aload_n 0, 1) := by decide +kernel
theorem dX1_findPushes_34 : decode cX1_findPushes 34 = .ok (.getfield 22, 3) := by decide +kernel
theorem dX1_findPushes_37 : decode cX1_findPushes 37 = .ok (.getfield 60, 3) := by decide +kernel
theorem dX1_findPushes_40 : decode cX1_findPushes 40 = .ok (.iload_n 1, 1) := by decide +kernel
theorem dX1_findPushes_41 : decode cX1_findPushes 41 = .ok (.baload, 1) := by decide +kernel
theorem dX1_findPushes_42 : decode cX1_findPushes 42 = .ok (.ifCond .eq 75, 3) := by decide +kernel
theorem dX1_findPushes_45 : decode cX1_findPushes 45 = .ok (.aload_n 0, 1) := by decide +kernel
theorem dX1_findPushes_46 : decode cX1_findPushes 46 = .ok (.getfield 22, 3) := by decide +kernel
theorem dX1_findPushes_49 : decode cX1_findPushes 49 = .ok (.getfield 66, 3) := by decide +kernel
theorem dX1_findPushes_52 : decode cX1_findPushes 52 = .ok (.iload_n 1, 1) := by decide +kernel
theorem dX1_findPushes_53 : decode cX1_findPushes 53 = .ok (.iaload, 1) := by decide +kernel
theorem dX1_findPushes_54 : decode cX1_findPushes 54 = .ok (.istore_n 2, 1) := by decide +kernel
theorem dX1_findPushes_55 : decode cX1_findPushes 55 = .ok (.aload_n 0, 1) := by decide +kernel
theorem dX1_findPushes_56 : decode cX1_findPushes 56 = .ok (.getfield 22, 3) := by decide +kernel
theorem dX1_findPushes_59 : decode cX1_findPushes 59 = .ok (.getfield 69, 3) := by decide +kernel
theorem dX1_findPushes_62 : decode cX1_findPushes 62 = .ok (.iload_n 1, 1) := by decide +kernel
theorem dX1_findPushes_63 : decode cX1_findPushes 63 = .ok (.iaload, 1) := by decide +kernel
theorem dX1_findPushes_64 : decode cX1_findPushes 64 = .ok (.istore_n 3, 1) := by decide +kernel
theorem dX1_findPushes_65 : decode cX1_findPushes 65 = .ok (.aload_n 0, 1) := by decide +kernel
theorem dX1_findPushes_66 : decode cX1_findPushes 66 = .ok (.getfield 9, 3) := by decide +kernel
theorem dX1_findPushes_69 : decode cX1_findPushes 69 = .ok (.iload_n 1, 1) := by decide +kernel
theorem dX1_findPushes_70 : decode cX1_findPushes 70 = .ok (.aload_n 0, 1) := by decide +kernel
theorem dX1_findPushes_71 : decode cX1_findPushes 71 = .ok (.iload_n 2, 1) := by decide +kernel
theorem dX1_findPushes_72 : decode cX1_findPushes 72 = .ok (.iconst 1, 1) := by decide +kernel
theorem dX1_findPushes_73 : decode cX1_findPushes 73 = .ok (.iadd, 1) := by decide +kernel
theorem dX1_findPushes_74 : decode cX1_findPushes 74 = .ok (.iload_n 3, 1) := by decide +kernel
theorem dX1_findPushes_75 : decode cX1_findPushes 75 = .ok (.invokevirtual 72, 3) := by decide +kernel
theorem dX1_findPushes_78 : decode cX1_findPushes 78 = .ok (.aload_n 0, 1) := by decide +kernel
theorem dX1_findPushes_79 : decode cX1_findPushes 79 = .ok (.iload_n 2, 1) := by decide +kernel
theorem dX1_findPushes_80 : decode cX1_findPushes 80 = .ok (.iconst 1, 1) := by decide +kernel
theorem dX1_findPushes_81 : decode cX1_findPushes 81 = .ok (.isub, 1) := by decide +kernel
theorem dX1_findPushes_82 : decode cX1_findPushes 82 = .ok (.iload_n 3, 1) := by decide +kernel
theorem dX1_findPushes_83 : decode cX1_findPushes 83 = .ok (.invokevirtual 72, 3) := by decide +kernel
theorem dX1_findPushes_86 : decode cX1_findPushes 86 = .ok (.lsub, 1) := by decide +kernel
theorem dX1_findPushes_87 : decode cX1_findPushes 87 = .ok (.invokestatic 76, 3) := by decide +kernel
theorem dX1_findPushes_90 : decode cX1_findPushes 90 = .ok (.iastore, 1) := by decide +kernel
theorem dX1_findPushes_91 : decode cX1_findPushes 91 = .ok (.aload_n 0, 1) := by decide +kernel
theorem dX1_findPushes_92 : decode cX1_findPushes 92 = .ok (.getfield 15, 3) := by decide +kernel
theorem dX1_findPushes_95 : decode cX1_findPushes 95 = .ok (.iload_n 1, 1) := by decide +kernel
theorem dX1_findPushes_96 : decode cX1_findPushes 96 = .ok (.aload_n 0, 1) := by decide +kernel
theorem dX1_findPushes_97 : decode cX1_findPushes 97 = .ok (.iload_n 2, 1) := by decide +kernel
theorem dX1_findPushes_98 : decode cX1_findPushes 98 = .ok (.iload_n 3, 1) := by decide +kernel
theorem dX1_findPushes_99 : decode cX1_findPushes 99 = .ok (.iconst 1, 1) := by decide +kernel
theorem dX1_findPushes_100 : decode cX1_findPushes 100 = .ok (.iadd, 1) := by decide +kernel
theorem dX1_findPushes_101 : decode cX1_findPushes 101 = .ok (.invokevirtual 72, 3) := by decide +kernel
theorem dX1_findPushes_104 : decode cX1_findPushes 104 = .ok (.aload_n 0, 1) := by decide +kernel
theorem dX1_findPushes_105 : decode cX1_findPushes 105 = .ok (.iload_n 2, 1) := by decide +kernel
theorem dX1_findPushes_106 : decode cX1_findPushes 106 = .ok (.iload_n 3, 1) := by decide +kernel
theorem dX1_findPushes_107 : decode cX1_findPushes 107 = .ok (.iconst 1, 1) := by decide +kernel
theorem dX1_findPushes_108 : decode cX1_findPushes 108 = .ok (.isub, 1) := by decide +kernel
theorem dX1_findPushes_109 : decode cX1_findPushes 109 = .ok (.invokevirtual 72, 3) := by decide +kernel
theorem dX1_findPushes_112 : decode cX1_findPushes 112 = .ok (.lsub, 1) := by decide +kernel
theorem dX1_findPushes_113 : decode cX1_findPushes 113 = .ok (.invokestatic 76, 3) := by decide +kernel
theorem dX1_findPushes_116 : decode cX1_findPushes 116 = .ok (.iastore, 1) := by decide +kernel
theorem dX1_findPushes_117 : decode cX1_findPushes 117 = .ok (.iinc 1 1, 3) := by decide +kernel
theorem dX1_findPushes_120 : decode cX1_findPushes 120 = .ok (.goto (-93), 3) := by decide +kernel
theorem dX1_findPushes_123 : decode cX1_findPushes 123 = .ok (.return_, 1) := by decide +kernel
theorem dX1_wholeSum_0 : decode cX1_wholeSum 0 = .ok (.aload_n 0, 1) := by decide +kernel
theorem dX1_wholeSum_1 : decode cX1_wholeSum 1 = .ok (.getfield 30, 3) := by decide +kernel
theorem dX1_wholeSum_4 : decode cX1_wholeSum 4 = .ok (.getfield 80, 3) := by decide +kernel
theorem dX1_wholeSum_7 : decode cX1_wholeSum 7 = .ok (.iload_n 1, 1) := by decide +kernel
theorem dX1_wholeSum_8 : decode cX1_wholeSum 8 = .ok (.iconst 0, 1) := by decide +kernel
theorem dX1_wholeSum_9 : decode cX1_wholeSum 9 = .ok (.iconst 0, 1) := by decide +kernel
theorem dX1_wholeSum_10 : decode cX1_wholeSum 10 = .ok (.invokestatic 84, 3) := by decide +kernel
theorem dX1_wholeSum_13 : decode cX1_wholeSum 13 = .ok (.i2l, 1) := by decide +kernel
theorem dX1_wholeSum_14 : decode cX1_wholeSum 14 = .ok (.iload_n 2, 1) := by decide +kernel
theorem dX1_wholeSum_15 : decode cX1_wholeSum 15 = .ok (.iconst 0, 1) := by decide +kernel
theorem dX1_wholeSum_16 : decode cX1_wholeSum 16 = .ok (.iconst 0, 1) := by decide +kernel
theorem dX1_wholeSum_17 : decode cX1_wholeSum 17 = .ok (.invokestatic 84, 3) := by decide +kernel
theorem dX1_wholeSum_20 : decode cX1_wholeSum 20 = .ok (.i2l, 1) := by decide +kernel
theorem dX1_wholeSum_21 : decode cX1_wholeSum 21 = .ok (.invokevirtual 88, 3) := by decide +kernel
theorem dX1_wholeSum_24 : decode cX1_wholeSum 24 = .ok (.lreturn, 1) := by decide +kernel
theorem dX1_pushOf_0 : decode cX1_pushOf 0 = .ok (.lload_n 0, 1) := by decide +kernel
theorem dX1_pushOf_1 : decode cX1_pushOf 1 = .ok (.bipush 12, 2) := by decide +kernel
theorem dX1_pushOf_3 : decode cX1_pushOf 3 = .ok (.lshr, 1) := by decide +kernel
theorem dX1_pushOf_4 : decode cX1_pushOf 4 = .ok (.invokestatic 94, 3) := by decide +kernel
theorem dX1_pushOf_7 : decode cX1_pushOf 7 = .ok (.ireturn, 1) := by decide +kernel
theorem dX1_addPushes_0 : decode cX1_addPushes 0 = .ok (.iconst 0, 1) := by decide +kernel
theorem dX1_addPushes_1 : decode cX1_addPushes 1 = .ok (.istore_n 2, 1) := by decide +kernel
theorem dX1_addPushes_2 : decode cX1_addPushes 2 = .ok (.iload_n 2, 1) := by decide +kernel
theorem dX1_addPushes_3 : decode cX1_addPushes 3 = .ok (.bipush 40, 2) := by decide +kernel
theorem dX1_addPushes_5 : decode cX1_addPushes 5 = .ok (.if_icmp .ge 73, 3) := by decide +kernel
theorem dX1_addPushes_8 : decode cX1_addPushes 8 = .ok (.aload_n 0, 1) := by decide +kernel
theorem dX1_addPushes_9 : decode cX1_addPushes 9 = .ok (.getfield 22, 3) := by decide +kernel
theorem dX1_addPushes_12 : decode cX1_addPushes 12 = .ok (.getfield 60, 3) := by decide +kernel
theorem dX1_addPushes_15 : decode cX1_addPushes 15 = .ok (.iload_n 2, 1) := by decide +kernel
theorem dX1_addPushes_16 : decode cX1_addPushes 16 = .ok (.baload, 1) := by decide +kernel
theorem dX1_addPushes_17 : decode cX1_addPushes 17 = .ok (.ifCond .eq 55, 3) := by decide +kernel
theorem dX1_addPushes_20 : decode cX1_addPushes 20 = .ok (.aload_n 0, 1) := by decide +kernel
theorem dX1_addPushes_21 : decode cX1_addPushes 21 = .ok (.getfield 22, 3) := by decide +kernel
theorem dX1_addPushes_24 : decode cX1_addPushes 24 = .ok (.iload_n 2, 1) := by decide +kernel
theorem dX1_addPushes_25 : decode cX1_addPushes 25 = .ok (.aload_n 0, 1) := by decide +kernel
theorem dX1_addPushes_26 : decode cX1_addPushes 26 = .ok (.getfield 22, 3) := by decide +kernel
theorem dX1_addPushes_29 : decode cX1_addPushes 29 = .ok (.getfield 97, 3) := by decide +kernel
theorem dX1_addPushes_32 : decode cX1_addPushes 32 = .ok (.iload_n 2, 1) := by decide +kernel
theorem dX1_addPushes_33 : decode cX1_addPushes 33 = .ok (.iaload, 1) := by decide +kernel
theorem dX1_addPushes_34 : decode cX1_addPushes 34 = .ok (.iload_n 1, 1) := by decide +kernel
theorem dX1_addPushes_35 : decode cX1_addPushes 35 = .ok (.aload_n 0, 1) := by decide +kernel
theorem dX1_addPushes_36 : decode cX1_addPushes 36 = .ok (.getfield 9, 3) := by decide +kernel
theorem dX1_addPushes_39 : decode cX1_addPushes 39 = .ok (.iload_n 2, 1) := by decide +kernel
theorem dX1_addPushes_40 : decode cX1_addPushes 40 = .ok (.iaload, 1) := by decide +kernel
theorem dX1_addPushes_41 : decode cX1_addPushes 41 = .ok (.imul, 1) := by decide +kernel
theorem dX1_addPushes_42 : decode cX1_addPushes 42 = .ok (.iadd, 1) := by decide +kernel
theorem dX1_addPushes_43 : decode cX1_addPushes 43 = .ok (.i2l, 1) := by decide +kernel
theorem dX1_addPushes_44 : decode cX1_addPushes 44 = .ok (.invokestatic 94, 3) := by decide +kernel
theorem dX1_addPushes_47 : decode cX1_addPushes 47 = .ok (.aload_n 0, 1) := by decide +kernel
theorem dX1_addPushes_48 : decode cX1_addPushes 48 = .ok (.getfield 22, 3) := by decide +kernel
theorem dX1_addPushes_51 : decode cX1_addPushes 51 = .ok (.getfield 100, 3) := by decide +kernel
theorem dX1_addPushes_54 : decode cX1_addPushes 54 = .ok (.iload_n 2, 1) := by decide +kernel
theorem dX1_addPushes_55 : decode cX1_addPushes 55 = .ok (.iaload, 1) := by decide +kernel
theorem dX1_addPushes_56 : decode cX1_addPushes 56 = .ok (.iload_n 1, 1) := by decide +kernel
theorem dX1_addPushes_57 : decode cX1_addPushes 57 = .ok (.aload_n 0, 1) := by decide +kernel
theorem dX1_addPushes_58 : decode cX1_addPushes 58 = .ok (.getfield 15, 3) := by decide +kernel
theorem dX1_addPushes_61 : decode cX1_addPushes 61 = .ok (.iload_n 2, 1) := by decide +kernel
theorem dX1_addPushes_62 : decode cX1_addPushes 62 = .ok (.iaload, 1) := by decide +kernel
theorem dX1_addPushes_63 : decode cX1_addPushes 63 = .ok (.imul, 1) := by decide +kernel
theorem dX1_addPushes_64 : decode cX1_addPushes 64 = .ok (.iadd, 1) := by decide +kernel
theorem dX1_addPushes_65 : decode cX1_addPushes 65 = .ok (.i2l, 1) := by decide +kernel
theorem dX1_addPushes_66 : decode cX1_addPushes 66 = .ok (.invokestatic 94, 3) := by decide +kernel
theorem dX1_addPushes_69 : decode cX1_addPushes 69 = .ok (.invokevirtual 103, 3) := by decide +kernel
theorem dX1_addPushes_72 : decode cX1_addPushes 72 = .ok (.iinc 2 1, 3) := by decide +kernel
theorem dX1_addPushes_75 : decode cX1_addPushes 75 = .ok (.goto (-73), 3) := by decide +kernel
theorem dX1_addPushes_78 : decode cX1_addPushes 78 = .ok (.return_, 1) := by decide +kernel
theorem dX1_shiftPlaces_0 : decode cX1_shiftPlaces 0 = .ok (.iconst 0, 1) := by decide +kernel
theorem dX1_shiftPlaces_1 : decode cX1_shiftPlaces 1 = .ok (.istore_n 2, 1) := by decide +kernel
theorem dX1_shiftPlaces_2 : decode cX1_shiftPlaces 2 = .ok (.iload_n 2, 1) := by decide +kernel
theorem dX1_shiftPlaces_3 : decode cX1_shiftPlaces 3 = .ok (.bipush 40, 2) := by decide +kernel
theorem dX1_shiftPlaces_5 : decode cX1_shiftPlaces 5 = .ok (.if_icmp .ge 127, 3) := by decide +kernel
theorem dX1_shiftPlaces_8 : decode cX1_shiftPlaces 8 = .ok (.aload_n 0, 1) := by decide +kernel
theorem dX1_shiftPlaces_9 : decode cX1_shiftPlaces 9 = .ok (.getfield 22, 3) := by decide +kernel
theorem dX1_shiftPlaces_12 : decode cX1_shiftPlaces 12 = .ok (.getfield 60, 3) := by decide +kernel
theorem dX1_shiftPlaces_15 : decode cX1_shiftPlaces 15 = .ok (.iload_n 2, 1) := by decide +kernel
theorem dX1_shiftPlaces_16 : decode cX1_shiftPlaces 16 = .ok (.baload, 1) := by decide +kernel
theorem dX1_shiftPlaces_17 : decode cX1_shiftPlaces 17 = .ok (.ifCond .eq 109, 3) := by decide +kernel
theorem dX1_shiftPlaces_20 : decode cX1_shiftPlaces 20 = .ok (.aload_n 0, 1) := by decide +kernel
theorem dX1_shiftPlaces_21 : decode cX1_shiftPlaces 21 = .ok (.getfield 26, 3) := by decide +kernel
theorem dX1_shiftPlaces_24 : decode cX1_shiftPlaces 24 = .ok (.aload_n 0, 1) := by decide +kernel
theorem dX1_shiftPlaces_25 : decode cX1_shiftPlaces 25 = .ok (.getfield 22, 3) := by decide +kernel
theorem dX1_shiftPlaces_28 : decode cX1_shiftPlaces 28 = .ok (.getfield 66, 3) := by decide +kernel
theorem dX1_shiftPlaces_31 : decode cX1_shiftPlaces 31 = .ok (.iload_n 2, 1) := by decide +kernel
theorem dX1_shiftPlaces_32 : decode cX1_shiftPlaces 32 = .ok (.iaload, 1) := by decide +kernel
theorem dX1_shiftPlaces_33 : decode cX1_shiftPlaces 33 = .ok (.aload_n 0, 1) := by decide +kernel
theorem dX1_shiftPlaces_34 : decode cX1_shiftPlaces 34 = .ok (.getfield 22, 3) := by decide +kernel
theorem dX1_shiftPlaces_37 : decode cX1_shiftPlaces 37 = .ok (.getfield 69, 3) := by decide +kernel
theorem dX1_shiftPlaces_40 : decode cX1_shiftPlaces 40 = .ok (.iload_n 2, 1) := by decide +kernel
theorem dX1_shiftPlaces_41 : decode cX1_shiftPlaces 41 = .ok (.iaload, 1) := by decide +kernel
theorem dX1_shiftPlaces_42 : decode cX1_shiftPlaces 42 = .ok (.invokevirtual 106, 3) := by decide +kernel
theorem dX1_shiftPlaces_45 : decode cX1_shiftPlaces 45 = .ok (.aload_n 0, 1) := by decide +kernel
theorem dX1_shiftPlaces_46 : decode cX1_shiftPlaces 46 = .ok (.getfield 22, 3) := by decide +kernel
theorem dX1_shiftPlaces_49 : decode cX1_shiftPlaces 49 = .ok (.iload_n 2, 1) := by decide +kernel
theorem dX1_shiftPlaces_50 : decode cX1_shiftPlaces 50 = .ok (.aload_n 0, 1) := by decide +kernel
theorem dX1_shiftPlaces_51 : decode cX1_shiftPlaces 51 = .ok (.getfield 22, 3) := by decide +kernel
theorem dX1_shiftPlaces_54 : decode cX1_shiftPlaces 54 = .ok (.getfield 66, 3) := by decide +kernel
theorem dX1_shiftPlaces_57 : decode cX1_shiftPlaces 57 = .ok (.iload_n 2, 1) := by decide +kernel
theorem dX1_shiftPlaces_58 : decode cX1_shiftPlaces 58 = .ok (.iaload, 1) := by decide +kernel
theorem dX1_shiftPlaces_59 : decode cX1_shiftPlaces 59 = .ok (.iload_n 1, 1) := by decide +kernel
theorem dX1_shiftPlaces_60 : decode cX1_shiftPlaces 60 = .ok (.aload_n 0, 1) := by decide +kernel
theorem dX1_shiftPlaces_61 : decode cX1_shiftPlaces 61 = .ok (.getfield 22, 3) := by decide +kernel
theorem dX1_shiftPlaces_64 : decode cX1_shiftPlaces 64 = .ok (.getfield 97, 3) := by decide +kernel
theorem dX1_shiftPlaces_67 : decode cX1_shiftPlaces 67 = .ok (.iload_n 2, 1) := by decide +kernel
theorem dX1_shiftPlaces_68 : decode cX1_shiftPlaces 68 = .ok (.iaload, 1) := by decide +kernel
theorem dX1_shiftPlaces_69 : decode cX1_shiftPlaces 69 = .ok (.imul, 1) := by decide +kernel
theorem dX1_shiftPlaces_70 : decode cX1_shiftPlaces 70 = .ok (.iadd, 1) := by decide +kernel
theorem dX1_shiftPlaces_71 : decode cX1_shiftPlaces 71 = .ok (.invokestatic 110, 3) := by decide +kernel
theorem dX1_shiftPlaces_74 : decode cX1_shiftPlaces 74 = .ok (.aload_n 0, 1) := by decide +kernel
theorem dX1_shiftPlaces_75 : decode cX1_shiftPlaces 75 = .ok (.getfield 22, 3) := by decide +kernel
theorem dX1_shiftPlaces_78 : decode cX1_shiftPlaces 78 = .ok (.getfield 69, 3) := by decide +kernel
theorem dX1_shiftPlaces_81 : decode cX1_shiftPlaces 81 = .ok (.iload_n 2, 1) := by decide +kernel
theorem dX1_shiftPlaces_82 : decode cX1_shiftPlaces 82 = .ok (.iaload, 1) := by decide +kernel
theorem dX1_shiftPlaces_83 : decode cX1_shiftPlaces 83 = .ok (.iload_n 1, 1) := by decide +kernel
theorem dX1_shiftPlaces_84 : decode cX1_shiftPlaces 84 = .ok (.aload_n 0, 1) := by decide +kernel
theorem dX1_shiftPlaces_85 : decode cX1_shiftPlaces 85 = .ok (.getfield 22, 3) := by decide +kernel
theorem dX1_shiftPlaces_88 : decode cX1_shiftPlaces 88 = .ok (.getfield 100, 3) := by decide +kernel
theorem dX1_shiftPlaces_91 : decode cX1_shiftPlaces 91 = .ok (.iload_n 2, 1) := by decide +kernel
theorem dX1_shiftPlaces_92 : decode cX1_shiftPlaces 92 = .ok (.iaload, 1) := by decide +kernel
theorem dX1_shiftPlaces_93 : decode cX1_shiftPlaces 93 = .ok (.imul, 1) := by decide +kernel
theorem dX1_shiftPlaces_94 : decode cX1_shiftPlaces 94 = .ok (.iadd, 1) := by decide +kernel
theorem dX1_shiftPlaces_95 : decode cX1_shiftPlaces 95 = .ok (.invokestatic 110, 3) := by decide +kernel
theorem dX1_shiftPlaces_98 : decode cX1_shiftPlaces 98 = .ok (.invokevirtual 114, 3) := by decide +kernel
theorem dX1_shiftPlaces_101 : decode cX1_shiftPlaces 101 = .ok (.aload_n 0, 1) := by decide +kernel
theorem dX1_shiftPlaces_102 : decode cX1_shiftPlaces 102 = .ok (.getfield 26, 3) := by decide +kernel
theorem dX1_shiftPlaces_105 : decode cX1_shiftPlaces 105 = .ok (.aload_n 0, 1) := by decide +kernel
theorem dX1_shiftPlaces_106 : decode cX1_shiftPlaces 106 = .ok (.getfield 22, 3) := by decide +kernel
theorem dX1_shiftPlaces_109 : decode cX1_shiftPlaces 109 = .ok (.getfield 66, 3) := by decide +kernel
theorem dX1_shiftPlaces_112 : decode cX1_shiftPlaces 112 = .ok (.iload_n 2, 1) := by decide +kernel
theorem dX1_shiftPlaces_113 : decode cX1_shiftPlaces 113 = .ok (.iaload, 1) := by decide +kernel
theorem dX1_shiftPlaces_114 : decode cX1_shiftPlaces 114 = .ok (.aload_n 0, 1) := by decide +kernel
theorem dX1_shiftPlaces_115 : decode cX1_shiftPlaces 115 = .ok (.getfield 22, 3) := by decide +kernel
theorem dX1_shiftPlaces_118 : decode cX1_shiftPlaces 118 = .ok (.getfield 69, 3) := by decide +kernel
theorem dX1_shiftPlaces_121 : decode cX1_shiftPlaces 121 = .ok (.iload_n 2, 1) := by decide +kernel
theorem dX1_shiftPlaces_122 : decode cX1_shiftPlaces 122 = .ok (.iaload, 1) := by decide +kernel
theorem dX1_shiftPlaces_123 : decode cX1_shiftPlaces 123 = .ok (.invokevirtual 117, 3) := by decide +kernel
theorem dX1_shiftPlaces_126 : decode cX1_shiftPlaces 126 = .ok (.iinc 2 1, 3) := by decide +kernel
theorem dX1_shiftPlaces_129 : decode cX1_shiftPlaces 129 = .ok (.goto (-127), 3) := by decide +kernel
theorem dX1_shiftPlaces_132 : decode cX1_shiftPlaces 132 = .ok (.return_, 1) := by decide +kernel
theorem dX2_init_0 : decode cX2_init 0 = .ok (.aload_n 0, 1) := by decide +kernel
theorem dX2_init_1 : decode cX2_init 1 = .ok (.invokespecial 3, 3) := by decide +kernel
theorem dX2_init_4 : decode cX2_init 4 = .ok (.aload_n 0, 1) := by decide +kernel
theorem dX2_init_5 : decode cX2_init 5 = .ok (.bipush 40, 2) := by decide +kernel
theorem dX2_init_7 : decode cX2_init 7 = .ok (.newarray .boolean, 2) := by decide +kernel
theorem dX2_init_9 : decode cX2_init 9 = .ok (.putfield 9, 3) := by decide +kernel
theorem dX2_init_12 : decode cX2_init 12 = .ok (.aload_n 0, 1) := by decide +kernel
theorem dX2_init_13 : decode cX2_init 13 = .ok (.bipush 40, 2) := by decide +kernel
theorem dX2_init_15 : decode cX2_init 15 = .ok (.newarray .int, 2) := by decide +kernel
theorem dX2_init_17 : decode cX2_init 17 = .ok (.putfield 15, 3) := by decide +kernel
theorem dX2_init_20 : decode cX2_init 20 = .ok (.aload_n 0, 1) := by decide +kernel
theorem dX2_init_21 : decode cX2_init 21 = .ok (.bipush 40, 2) := by decide +kernel
theorem dX2_init_23 : decode cX2_init 23 = .ok (.newarray .int, 2) := by decide +kernel
theorem dX2_init_25 : decode cX2_init 25 = .ok (.putfield 19, 3) := by decide +kernel
theorem dX2_init_28 : decode cX2_init 28 = .ok (.aload_n 0, 1) := by decide +kernel
theorem dX2_init_29 : decode cX2_init 29 = .ok (.bipush 40, 2) := by decide +kernel
theorem dX2_init_31 : decode cX2_init 31 = .ok (.newarray .int, 2) := by decide +kernel
theorem dX2_init_33 : decode cX2_init 33 = .ok (.putfield 22, 3) := by decide +kernel
theorem dX2_init_36 : decode cX2_init 36 = .ok (.aload_n 0, 1) := by decide +kernel
theorem dX2_init_37 : decode cX2_init 37 = .ok (.bipush 40, 2) := by decide +kernel
theorem dX2_init_39 : decode cX2_init 39 = .ok (.newarray .int, 2) := by decide +kernel
theorem dX2_init_41 : decode cX2_init 41 = .ok (.putfield 25, 3) := by decide +kernel
theorem dX2_init_44 : decode cX2_init 44 = .ok (.aload_n 0, 1) := by decide +kernel
theorem dX2_init_45 : decode cX2_init 45 = .ok (.bipush 40, 2) := by decide +kernel
theorem dX2_init_47 : decode cX2_init 47 = .ok (.newarray .int, 2) := by decide +kernel
theorem dX2_init_49 : decode cX2_init 49 = .ok (.putfield 28, 3) := by decide +kernel
theorem dX2_init_52 : decode cX2_init 52 = .ok (.aload_n 0, 1) := by decide +kernel
theorem dX2_init_53 : decode cX2_init 53 = .ok (.iconst 0, 1) := by decide +kernel
theorem dX2_init_54 : decode cX2_init 54 = .ok (.putfield 31, 3) := by decide +kernel
theorem dX2_init_57 : decode cX2_init 57 = .ok (.return_, 1) := by decide +kernel
theorem dX2_has_0 : decode cX2_has 0 = .ok (.iload_n 1, 1) := by decide +kernel
theorem dX2_has_1 : decode cX2_has 1 = .ok (.ifCond .lt 22, 3) := by decide +kernel
theorem dX2_has_4 : decode cX2_has 4 = .ok (.iload_n 1, 1) := by decide +kernel
theorem dX2_has_5 : decode cX2_has 5 = .ok (.bipush 40, 2) := by decide +kernel
theorem dX2_has_7 : decode cX2_has 7 = .ok (.if_icmp .ge 16, 3) := by decide +kernel
theorem dX2_has_10 : decode cX2_has 10 = .ok (.aload_n 0, 1) := by decide +kernel
theorem dX2_has_11 : decode cX2_has 11 = .ok (.getfield 9, 3) := by decide +kernel
theorem dX2_has_14 : decode cX2_has 14 = .ok (.iload_n 1, 1) := by decide +kernel
theorem dX2_has_15 : decode cX2_has 15 = .ok (.baload, 1) := by decide +kernel
theorem dX2_has_16 : decode cX2_has 16 = .ok (.ifCond .eq 7, 3) := by decide +kernel
theorem dX2_has_19 : decode cX2_has 19 = .ok (.iconst 1, 1) := by decide +kernel
theorem dX2_has_20 : decode cX2_has 20 = .ok (.goto 4, 3) := by decide +kernel
theorem dX2_has_23 : decode cX2_has 23 = .ok (.iconst 0, 1) := by decide +kernel
theorem dX2_has_24 : decode cX2_has 24 = .ok (.ireturn, 1) := by decide +kernel
theorem dX2_leastFree_0 : decode cX2_leastFree 0 = .ok (.iconst 0, 1) := by decide +kernel
theorem dX2_leastFree_1 : decode cX2_leastFree 1 = .ok (.istore_n 1, 1) := by decide +kernel
theorem dX2_leastFree_2 : decode cX2_leastFree 2 = .ok (.iload_n 1, 1) := by decide +kernel
theorem dX2_leastFree_3 : decode cX2_leastFree 3 = .ok (.bipush 40, 2) := by decide +kernel
theorem dX2_leastFree_5 : decode cX2_leastFree 5 = .ok (.if_icmp .ge 20, 3) := by decide +kernel
theorem dX2_leastFree_8 : decode cX2_leastFree 8 = .ok (.aload_n 0, 1) := by decide +kernel
theorem dX2_leastFree_9 : decode cX2_leastFree 9 = .ok (.getfield 9, 3) := by decide +kernel
theorem dX2_leastFree_12 : decode cX2_leastFree 12 = .ok (.iload_n 1, 1) := by decide +kernel
theorem dX2_leastFree_13 : decode cX2_leastFree 13 = .ok (.baload, 1) := by decide +kernel
theorem dX2_leastFree_14 : decode cX2_leastFree 14 = .ok (.ifCond .ne 5, 3) := by decide +kernel
theorem dX2_leastFree_17 : decode cX2_leastFree 17 = .ok (.iload_n 1, 1) := by decide +kernel
theorem dX2_leastFree_18 : decode cX2_leastFree 18 = .ok (.ireturn, 1) := by decide +kernel
theorem dX2_leastFree_19 : decode cX2_leastFree 19 = .ok (.iinc 1 1, 3) := by decide +kernel
theorem dX2_leastFree_22 : decode cX2_leastFree 22 = .ok (.goto (-20), 3) := by decide +kernel
theorem dX2_leastFree_25 : decode cX2_leastFree 25 = .ok (.iconst (-1), 1) := by decide +kernel
theorem dX2_leastFree_26 : decode cX2_leastFree 26 = .ok (.ireturn, 1) := by decide +kernel
theorem dX2_add_0 : decode cX2_add 0 = .ok (.aload_n 0, 1) := by decide +kernel
theorem dX2_add_1 : decode cX2_add 1 = .ok (.getfield 9, 3) := by decide +kernel
theorem dX2_add_4 : decode cX2_add 4 = .ok (.iload_n 1, 1) := by decide +kernel
theorem dX2_add_5 : decode cX2_add 5 = .ok (.iconst 1, 1) := by decide +kernel
theorem dX2_add_6 : decode cX2_add 6 = .ok (.bastore, 1) := by decide +kernel
theorem dX2_add_7 : decode cX2_add 7 = .ok (.aload_n 0, 1) := by decide +kernel
theorem dX2_add_8 : decode cX2_add 8 = .ok (.iload_n 1, 1) := by decide +kernel
theorem dX2_add_9 : decode cX2_add 9 = .ok (.iload_n 2, 1) := by decide +kernel
theorem dX2_add_10 : decode cX2_add 10 = .ok (.iload_n 3, 1) := by decide +kernel
theorem dX2_add_11 : decode cX2_add 11 = .ok (.invokevirtual 35, 3) := by decide +kernel
theorem dX2_add_14 : decode cX2_add 14 = .ok (.aload_n 0, 1) := by decide +kernel
theorem dX2_add_15 : decode cX2_add 15 = .ok (.getfield 22, 3) := by decide +kernel
theorem dX2_add_18 : decode cX2_add 18 = .ok (.iload_n 1, 1) := by decide +kernel
theorem dX2_add_19 : decode cX2_add 19 = .ok (.iload 4, 2) := by decide +kernel
theorem dX2_add_21 : decode cX2_add 21 = .ok (.iastore, 1) := by decide +kernel
theorem dX2_add_22 : decode cX2_add 22 = .ok (.aload_n 0, 1) := by decide +kernel
theorem dX2_add_23 : decode cX2_add 23 = .ok (.iload_n 1, 1) := by decide +kernel
theorem dX2_add_24 : decode cX2_add 24 = .ok (.iconst 0, 1) := by decide +kernel
theorem dX2_add_25 : decode cX2_add 25 = .ok (.iconst 0, 1) := by decide +kernel
theorem dX2_add_26 : decode cX2_add 26 = .ok (.invokevirtual 39, 3) := by decide +kernel
theorem dX2_add_29 : decode cX2_add 29 = .ok (.aload_n 0, 1) := by decide +kernel
theorem dX2_add_30 : decode cX2_add 30 = .ok (.dup, 1) := by decide +kernel
theorem dX2_add_31 : decode cX2_add 31 = .ok (.getfield 31, 3) := by decide +kernel
theorem dX2_add_34 : decode cX2_add 34 = .ok (.iconst 1, 1) := by decide +kernel
theorem dX2_add_35 : decode cX2_add 35 = .ok (.iadd, 1) := by decide +kernel
theorem dX2_add_36 : decode cX2_add 36 = .ok (.putfield 31, 3) := by decide +kernel
theorem dX2_add_39 : decode cX2_add 39 = .ok (.return_, 1) := by decide +kernel
theorem dX2_remove_0 : decode cX2_remove 0 = .ok (.aload_n 0, 1) := by decide +kernel
theorem dX2_remove_1 : decode cX2_remove 1 = .ok (.getfield 9, 3) := by decide +kernel
theorem dX2_remove_4 : decode cX2_remove 4 = .ok (.iload_n 1, 1) := by decide +kernel
theorem dX2_remove_5 : decode cX2_remove 5 = .ok (.iconst 0, 1) := by decide +kernel
theorem dX2_remove_6 : decode cX2_remove 6 = .ok (.bastore, 1) := by decide +kernel
theorem dX2_remove_7 : decode cX2_remove 7 = .ok (.aload_n 0, 1) := by decide +kernel
theorem dX2_remove_8 : decode cX2_remove 8 = .ok (.dup, 1) := by decide +kernel
theorem dX2_remove_9 : decode cX2_remove 9 = .ok (.getfield 31, 3) := by decide +kernel
theorem dX2_remove_12 : decode cX2_remove 12 = .ok (.iconst 1, 1) := by decide +kernel
theorem dX2_remove_13 : decode cX2_remove 13 = .ok (.isub, 1) := by decide +kernel
theorem dX2_remove_14 : decode cX2_remove 14 = .ok (.putfield 31, 3) := by decide +kernel
theorem dX2_remove_17 : decode cX2_remove 17 = .ok (.return_, 1) := by decide +kernel
theorem dX2_put_0 : decode cX2_put 0 = .ok (.aload_n 0, 1) := by decide +kernel
theorem dX2_put_1 : decode cX2_put 1 = .ok (.getfield 15, 3) := by decide +kernel
theorem dX2_put_4 : decode cX2_put 4 = .ok (.iload_n 1, 1) := by decide +kernel
theorem dX2_put_5 : decode cX2_put 5 = .ok (.iload_n 2, 1) := by decide +kernel
theorem dX2_put_6 : decode cX2_put 6 = .ok (.iastore, 1) := by decide +kernel
theorem dX2_put_7 : decode cX2_put 7 = .ok (.aload_n 0, 1) := by decide +kernel
theorem dX2_put_8 : decode cX2_put 8 = .ok (.getfield 19, 3) := by decide +kernel
theorem dX2_put_11 : decode cX2_put 11 = .ok (.iload_n 1, 1) := by decide +kernel
theorem dX2_put_12 : decode cX2_put 12 = .ok (.iload_n 3, 1) := by decide +kernel
theorem dX2_put_13 : decode cX2_put 13 = .ok (.iastore, 1) := by decide +kernel
theorem dX2_put_14 : decode cX2_put 14 = .ok (.return_, 1) := by decide +kernel
theorem dX2_setPace_0 : decode cX2_setPace 0 = .ok (.aload_n 0, 1) := by decide +kernel
theorem dX2_setPace_1 : decode cX2_setPace 1 = .ok (.getfield 25, 3) := by decide +kernel
theorem dX2_setPace_4 : decode cX2_setPace 4 = .ok (.iload_n 1, 1) := by decide +kernel
theorem dX2_setPace_5 : decode cX2_setPace 5 = .ok (.iload_n 2, 1) := by decide +kernel
theorem dX2_setPace_6 : decode cX2_setPace 6 = .ok (.iastore, 1) := by decide +kernel
theorem dX2_setPace_7 : decode cX2_setPace 7 = .ok (.aload_n 0, 1) := by decide +kernel
theorem dX2_setPace_8 : decode cX2_setPace 8 = .ok (.getfield 28, 3) := by decide +kernel
theorem dX2_setPace_11 : decode cX2_setPace 11 = .ok (.iload_n 1, 1) := by decide +kernel
theorem dX2_setPace_12 : decode cX2_setPace 12 = .ok (.iload_n 3, 1) := by decide +kernel
theorem dX2_setPace_13 : decode cX2_setPace 13 = .ok (.iastore, 1) := by decide +kernel
theorem dX2_setPace_14 : decode cX2_setPace 14 = .ok (.return_, 1) := by decide +kernel
theorem dX2_read_0 : decode cX2_read 0 = .ok (.iload_n 2, 1) := by decide +kernel
theorem dX2_read_1 : decode cX2_read 1 = .ok (.tableswitch 70 0 4 #[35, 42, 49, 56, 63], 35) := by decide +kernel
theorem dX2_read_36 : decode cX2_read 36 = .ok (.aload_n 0, 1) := by decide +kernel
theorem dX2_read_37 : decode cX2_read 37 = .ok (.getfield 15, 3) := by decide +kernel
theorem dX2_read_40 : decode cX2_read 40 = .ok (.iload_n 1, 1) := by decide +kernel
theorem dX2_read_41 : decode cX2_read 41 = .ok (.iaload, 1) := by decide +kernel
theorem dX2_read_42 : decode cX2_read 42 = .ok (.ireturn, 1) := by decide +kernel
theorem dX2_read_43 : decode cX2_read 43 = .ok (.aload_n 0, 1) := by decide +kernel
theorem dX2_read_44 : decode cX2_read 44 = .ok (.getfield 19, 3) := by decide +kernel
theorem dX2_read_47 : decode cX2_read 47 = .ok (.iload_n 1, 1) := by decide +kernel
theorem dX2_read_48 : decode cX2_read 48 = .ok (.iaload, 1) := by decide +kernel
theorem dX2_read_49 : decode cX2_read 49 = .ok (.ireturn, 1) := by decide +kernel
theorem dX2_read_50 : decode cX2_read 50 = .ok (.aload_n 0, 1) := by decide +kernel
theorem dX2_read_51 : decode cX2_read 51 = .ok (.getfield 22, 3) := by decide +kernel
theorem dX2_read_54 : decode cX2_read 54 = .ok (.iload_n 1, 1) := by decide +kernel
theorem dX2_read_55 : decode cX2_read 55 = .ok (.iaload, 1) := by decide +kernel
theorem dX2_read_56 : decode cX2_read 56 = .ok (.ireturn, 1) := by decide +kernel
theorem dX2_read_57 : decode cX2_read 57 = .ok (.aload_n 0, 1) := by decide +kernel
theorem dX2_read_58 : decode cX2_read 58 = .ok (.getfield 25, 3) := by decide +kernel
theorem dX2_read_61 : decode cX2_read 61 = .ok (.iload_n 1, 1) := by decide +kernel
theorem dX2_read_62 : decode cX2_read 62 = .ok (.iaload, 1) := by decide +kernel
theorem dX2_read_63 : decode cX2_read 63 = .ok (.ireturn, 1) := by decide +kernel
theorem dX2_read_64 : decode cX2_read 64 = .ok (.aload_n 0, 1) := by decide +kernel
theorem dX2_read_65 : decode cX2_read 65 = .ok (.getfield 28, 3) := by decide +kernel
theorem dX2_read_68 : decode cX2_read 68 = .ok (.iload_n 1, 1) := by decide +kernel
theorem dX2_read_69 : decode cX2_read 69 = .ok (.iaload, 1) := by decide +kernel
theorem dX2_read_70 : decode cX2_read 70 = .ok (.ireturn, 1) := by decide +kernel
theorem dX2_read_71 : decode cX2_read 71 = .ok (.sipush (-2000), 3) := by decide +kernel
theorem dX2_read_74 : decode cX2_read 74 = .ok (.ireturn, 1) := by decide +kernel
theorem dX2_wholeBulk_0 : decode cX2_wholeBulk 0 = .ok (.iconst 0, 1) := by decide +kernel
theorem dX2_wholeBulk_1 : decode cX2_wholeBulk 1 = .ok (.istore_n 1, 1) := by decide +kernel
theorem dX2_wholeBulk_2 : decode cX2_wholeBulk 2 = .ok (.iconst 0, 1) := by decide +kernel
theorem dX2_wholeBulk_3 : decode cX2_wholeBulk 3 = .ok (.istore_n 2, 1) := by decide +kernel
theorem dX2_wholeBulk_4 : decode cX2_wholeBulk 4 = .ok (.iload_n 2, 1) := by decide +kernel
theorem dX2_wholeBulk_5 : decode cX2_wholeBulk 5 = .ok (.bipush 40, 2) := by decide +kernel
theorem dX2_wholeBulk_7 : decode cX2_wholeBulk 7 = .ok (.if_icmp .ge 30, 3) := by decide +kernel
theorem dX2_wholeBulk_10 : decode cX2_wholeBulk 10 = .ok (.aload_n 0, 1) := by decide +kernel
theorem dX2_wholeBulk_11 : decode cX2_wholeBulk 11 = .ok (.getfield 9, 3) := by decide +kernel
theorem dX2_wholeBulk_14 : decode cX2_wholeBulk 14 = .ok (.iload_n 2, 1) := by decide +kernel
theorem dX2_wholeBulk_15 : decode cX2_wholeBulk 15 = .ok (.baload, 1) := by decide +kernel
theorem dX2_wholeBulk_16 : decode cX2_wholeBulk 16 = .ok (.ifCond .eq 15, 3) := by decide +kernel
theorem dX2_wholeBulk_19 : decode cX2_wholeBulk 19 = .ok (.iload_n 1, 1) := by decide +kernel
theorem dX2_wholeBulk_20 : decode cX2_wholeBulk 20 = .ok (.aload_n 0, 1) := by decide +kernel
theorem dX2_wholeBulk_21 : decode cX2_wholeBulk 21 = .ok (.getfield 22, 3) := by decide +kernel
theorem dX2_wholeBulk_24 : decode cX2_wholeBulk 24 = .ok (.iload_n 2, 1) := by decide +kernel
theorem dX2_wholeBulk_25 : decode cX2_wholeBulk 25 = .ok (.iaload, 1) := by decide +kernel
theorem dX2_wholeBulk_26 : decode cX2_wholeBulk 26 = .ok (.invokestatic 42, 3) := by decide +kernel
theorem dX2_wholeBulk_29 : decode cX2_wholeBulk 29 = .ok (.iadd, 1) := by decide +kernel
theorem dX2_wholeBulk_30 : decode cX2_wholeBulk 30 = .ok (.istore_n 1, 1) := by decide +kernel
theorem dX2_wholeBulk_31 : decode cX2_wholeBulk 31 = .ok (.iinc 2 1, 3) := by decide +kernel
theorem dX2_wholeBulk_34 : decode cX2_wholeBulk 34 = .ok (.goto (-30), 3) := by decide +kernel
theorem dX2_wholeBulk_37 : decode cX2_wholeBulk 37 = .ok (.iload_n 1, 1) := by decide +kernel
theorem dX2_wholeBulk_38 : decode cX2_wholeBulk 38 = .ok (.ireturn, 1) := by decide +kernel
theorem dX2_nearerThan_0 : decode cX2_nearerThan 0 = .ok (.aload_n 0, 1) := by decide +kernel
theorem dX2_nearerThan_1 : decode cX2_nearerThan 1 = .ok (.iload_n 1, 1) := by decide +kernel
theorem dX2_nearerThan_2 : decode cX2_nearerThan 2 = .ok (.iload_n 2, 1) := by decide +kernel
theorem dX2_nearerThan_3 : decode cX2_nearerThan 3 = .ok (.iload_n 3, 1) := by decide +kernel
theorem dX2_nearerThan_4 : decode cX2_nearerThan 4 = .ok (.invokevirtual 48, 3) := by decide +kernel
theorem dX2_nearerThan_7 : decode cX2_nearerThan 7 = .ok (.istore 4, 2) := by decide +kernel
theorem dX2_nearerThan_9 : decode cX2_nearerThan 9 = .ok (.iconst 0, 1) := by decide +kernel
theorem dX2_nearerThan_10 : decode cX2_nearerThan 10 = .ok (.istore 5, 2) := by decide +kernel
theorem dX2_nearerThan_12 : decode cX2_nearerThan 12 = .ok (.iconst 0, 1) := by decide +kernel
theorem dX2_nearerThan_13 : decode cX2_nearerThan 13 = .ok (.istore 6, 2) := by decide +kernel
theorem dX2_nearerThan_15 : decode cX2_nearerThan 15 = .ok (.iload 6, 2) := by decide +kernel
theorem dX2_nearerThan_17 : decode cX2_nearerThan 17 = .ok (.bipush 40, 2) := by decide +kernel
theorem dX2_nearerThan_19 : decode cX2_nearerThan 19 = .ok (.if_icmp .ge 35, 3) := by decide +kernel
theorem dX2_nearerThan_22 : decode cX2_nearerThan 22 = .ok (.aload_n 0, 1) := by decide +kernel
theorem dX2_nearerThan_23 : decode cX2_nearerThan 23 = .ok (.getfield 9, 3) := by decide +kernel
theorem dX2_nearerThan_26 : decode cX2_nearerThan 26 = .ok (.iload 6, 2) := by decide +kernel
theorem dX2_nearerThan_28 : decode cX2_nearerThan 28 = .ok (.baload, 1) := by decide +kernel
theorem dX2_nearerThan_29 : decode cX2_nearerThan 29 = .ok (.ifCond .eq 19, 3) := by decide +kernel
theorem dX2_nearerThan_32 : decode cX2_nearerThan 32 = .ok (.aload_n 0, 1) := by decide +kernel
theorem dX2_nearerThan_33 : decode cX2_nearerThan 33 = .ok (.iload 6, 2) := by decide +kernel
theorem dX2_nearerThan_35 : decode cX2_nearerThan 35 = .ok (.iload_n 2, 1) := by decide +kernel
theorem dX2_nearerThan_36 : decode cX2_nearerThan 36 = .ok (.iload_n 3, 1) := by decide +kernel
theorem dX2_nearerThan_37 : decode cX2_nearerThan 37 = .ok (.invokevirtual 48, 3) := by decide +kernel
theorem dX2_nearerThan_40 : decode cX2_nearerThan 40 = .ok (.iload 4, 2) := by decide +kernel
theorem dX2_nearerThan_42 : decode cX2_nearerThan 42 = .ok (.if_icmp .ge 6, 3) := by decide +kernel
theorem dX2_nearerThan_45 : decode cX2_nearerThan 45 = .ok (.iinc 5 1, 3) := by decide +kernel
theorem dX2_nearerThan_48 : decode cX2_nearerThan 48 = .ok (.iinc 6 1, 3) := by decide +kernel
theorem dX2_nearerThan_51 : decode cX2_nearerThan 51 = .ok (.goto (-36), 3) := by decide +kernel
theorem dX2_nearerThan_54 : decode cX2_nearerThan 54 = .ok (.iload 5, 2) := by decide +kernel
theorem dX2_nearerThan_56 : decode cX2_nearerThan 56 = .ok (.ireturn, 1) := by decide +kernel
theorem dX2_rankKey_0 : decode cX2_rankKey 0 = .ok (.aload_n 0, 1) := by decide +kernel
theorem dX2_rankKey_1 : decode cX2_rankKey 1 = .ok (.getfield 15, 3) := by decide +kernel
theorem dX2_rankKey_4 : decode cX2_rankKey 4 = .ok (.iload_n 1, 1) := by decide +kernel
theorem dX2_rankKey_5 : decode cX2_rankKey 5 = .ok (.iaload, 1) := by decide +kernel
theorem dX2_rankKey_6 : decode cX2_rankKey 6 = .ok (.iload_n 2, 1) := by decide +kernel
theorem dX2_rankKey_7 : decode cX2_rankKey 7 = .ok (.isub, 1) := by decide +kernel
theorem dX2_rankKey_8 : decode cX2_rankKey 8 = .ok (.istore 4, 2) := by decide +kernel
theorem dX2_rankKey_10 : decode cX2_rankKey 10 = .ok (.aload_n 0, 1) := by decide +kernel
theorem dX2_rankKey_11 : decode cX2_rankKey 11 = .ok (.getfield 19, 3) := by decide +kernel
theorem dX2_rankKey_14 : decode cX2_rankKey 14 = .ok (.iload_n 1, 1) := by decide +kernel
theorem dX2_rankKey_15 : decode cX2_rankKey 15 = .ok (.iaload, 1) := by decide +kernel
theorem dX2_rankKey_16 : decode cX2_rankKey 16 = .ok (.iload_n 3, 1) := by decide +kernel
theorem dX2_rankKey_17 : decode cX2_rankKey 17 = .ok (.isub, 1) := by decide +kernel
theorem dX2_rankKey_18 : decode cX2_rankKey 18 = .ok (.istore 5, 2) := by decide +kernel
theorem dX2_rankKey_20 : decode cX2_rankKey 20 = .ok (.iload 4, 2) := by decide +kernel
theorem dX2_rankKey_22 : decode cX2_rankKey 22 = .ok (.iload 4, 2) := by decide +kernel
theorem dX2_rankKey_24 : decode cX2_rankKey 24 = .ok (.imul, 1) := by decide +kernel
theorem dX2_rankKey_25 : decode cX2_rankKey 25 = .ok (.iload 5, 2) := by decide +kernel
theorem dX2_rankKey_27 : decode cX2_rankKey 27 = .ok (.iload 5, 2) := by decide +kernel
theorem dX2_rankKey_29 : decode cX2_rankKey 29 = .ok (.imul, 1) := by decide +kernel
theorem dX2_rankKey_30 : decode cX2_rankKey 30 = .ok (.iadd, 1) := by decide +kernel
theorem dX2_rankKey_31 : decode cX2_rankKey 31 = .ok (.bipush 40, 2) := by decide +kernel
theorem dX2_rankKey_33 : decode cX2_rankKey 33 = .ok (.imul, 1) := by decide +kernel
theorem dX2_rankKey_34 : decode cX2_rankKey 34 = .ok (.iload_n 1, 1) := by decide +kernel
theorem dX2_rankKey_35 : decode cX2_rankKey 35 = .ok (.iadd, 1) := by decide +kernel
theorem dX2_rankKey_36 : decode cX2_rankKey 36 = .ok (.ireturn, 1) := by decide +kernel
theorem dX3_init_0 : decode cX3_init 0 = .ok (.aload_n 0, 1) := by decide +kernel
theorem dX3_init_1 : decode cX3_init 1 = .ok (.invokespecial 3, 3) := by decide +kernel
theorem dX3_init_4 : decode cX3_init 4 = .ok (.aload_n 0, 1) := by decide +kernel
theorem dX3_init_5 : decode cX3_init 5 = .ok (.bipush 25, 2) := by decide +kernel
theorem dX3_init_7 : decode cX3_init 7 = .ok (.newarray .long, 2) := by decide +kernel
theorem dX3_init_9 : decode cX3_init 9 = .ok (.putfield 9, 3) := by decide +kernel
theorem dX3_init_12 : decode cX3_init 12 = .ok (.return_, 1) := by decide +kernel
theorem dX3_get_0 : decode cX3_get 0 = .ok (.aload_n 0, 1) := by decide +kernel
theorem dX3_get_1 : decode cX3_get 1 = .ok (.getfield 9, 3) := by decide +kernel
theorem dX3_get_4 : decode cX3_get 4 = .ok (.iload_n 1, 1) := by decide +kernel
theorem dX3_get_5 : decode cX3_get 5 = .ok (.iload_n 2, 1) := by decide +kernel
theorem dX3_get_6 : decode cX3_get 6 = .ok (.invokestatic 15, 3) := by decide +kernel
theorem dX3_get_9 : decode cX3_get 9 = .ok (.laload, 1) := by decide +kernel
theorem dX3_get_10 : decode cX3_get 10 = .ok (.lreturn, 1) := by decide +kernel
theorem dX3_set_0 : decode cX3_set 0 = .ok (.aload_n 0, 1) := by decide +kernel
theorem dX3_set_1 : decode cX3_set 1 = .ok (.getfield 9, 3) := by decide +kernel
theorem dX3_set_4 : decode cX3_set 4 = .ok (.iload_n 1, 1) := by decide +kernel
theorem dX3_set_5 : decode cX3_set 5 = .ok (.iload_n 2, 1) := by decide +kernel
theorem dX3_set_6 : decode cX3_set 6 = .ok (.invokestatic 15, 3) := by decide +kernel
theorem dX3_set_9 : decode cX3_set 9 = .ok (.lload_n 3, 1) := by decide +kernel
theorem dX3_set_10 : decode cX3_set 10 = .ok (.lastore, 1) := by decide +kernel
theorem dX3_set_11 : decode cX3_set 11 = .ok (.return_, 1) := by decide +kernel
theorem dX3_add_0 : decode cX3_add 0 = .ok (.aload_n 0, 1) := by decide +kernel
theorem dX3_add_1 : decode cX3_add 1 = .ok (.getfield 9, 3) := by decide +kernel
theorem dX3_add_4 : decode cX3_add 4 = .ok (.iload_n 1, 1) := by decide +kernel
theorem dX3_add_5 : decode cX3_add 5 = .ok (.iload_n 2, 1) := by decide +kernel
theorem dX3_add_6 : decode cX3_add 6 = .ok (.invokestatic 15, 3) := by decide +kernel
theorem dX3_add_9 : decode cX3_add 9 = .ok (.dup2, 1) := by decide +kernel
theorem dX3_add_10 : decode cX3_add 10 = .ok (.laload, 1) := by decide +kernel
theorem dX3_add_11 : decode cX3_add 11 = .ok (.lload_n 3, 1) := by decide +kernel
theorem dX3_add_12 : decode cX3_add 12 = .ok (.ladd, 1) := by decide +kernel
theorem dX3_add_13 : decode cX3_add 13 = .ok (.lastore, 1) := by decide +kernel
theorem dX3_add_14 : decode cX3_add 14 = .ok (.return_, 1) := by decide +kernel
theorem dX3_clear_0 : decode cX3_clear 0 = .ok (.iconst 0, 1) := by decide +kernel
theorem dX3_clear_1 : decode cX3_clear 1 = .ok (.istore_n 1, 1) := by decide +kernel
theorem dX3_clear_2 : decode cX3_clear 2 = .ok (.iload_n 1, 1) := by decide +kernel
theorem dX3_clear_3 : decode cX3_clear 3 = .ok (.bipush 25, 2) := by decide +kernel
theorem dX3_clear_5 : decode cX3_clear 5 = .ok (.if_icmp .ge 16, 3) := by decide +kernel
theorem dX3_clear_8 : decode cX3_clear 8 = .ok (.aload_n 0, 1) := by decide +kernel
theorem dX3_clear_9 : decode cX3_clear 9 = .ok (.getfield 9, 3) := by decide +kernel
theorem dX3_clear_12 : decode cX3_clear 12 = .ok (.iload_n 1, 1) := by decide +kernel
theorem dX3_clear_13 : decode cX3_clear 13 = .ok (.lconst 0, 1) := by decide +kernel
theorem dX3_clear_14 : decode cX3_clear 14 = .ok (.lastore, 1) := by decide +kernel
theorem dX3_clear_15 : decode cX3_clear 15 = .ok (.iinc 1 1, 3) := by decide +kernel
theorem dX3_clear_18 : decode cX3_clear 18 = .ok (.goto (-16), 3) := by decide +kernel
theorem dX3_clear_21 : decode cX3_clear 21 = .ok (.return_, 1) := by decide +kernel
theorem dX3_valueAt_0 : decode cX3_valueAt 0 = .ok (.lconst 0, 1) := by decide +kernel
theorem dX3_valueAt_1 : decode cX3_valueAt 1 = .ok (.lstore 5, 2) := by decide +kernel
theorem dX3_valueAt_3 : decode cX3_valueAt 3 = .ok (.iconst 4, 1) := by decide +kernel
theorem dX3_valueAt_4 : decode cX3_valueAt 4 = .ok (.istore 7, 2) := by decide +kernel
theorem dX3_valueAt_6 : decode cX3_valueAt 6 = .ok (.iload 7, 2) := by decide +kernel
theorem dX3_valueAt_8 : decode cX3_valueAt 8 = .ok (.ifCond .lt 57, 3) := by decide +kernel
theorem dX3_valueAt_11 : decode cX3_valueAt 11 = .ok (.lconst 0, 1) := by decide +kernel
theorem dX3_valueAt_12 : decode cX3_valueAt 12 = .ok (.lstore 8, 2) := by decide +kernel
theorem dX3_valueAt_14 : decode cX3_valueAt 14 = .ok (.iconst 4, 1) := by decide +kernel
theorem dX3_valueAt_15 : decode cX3_valueAt 15 = .ok (.iload 7, 2) := by decide +kernel
theorem dX3_valueAt_17 : decode cX3_valueAt 17 = .ok (.isub, 1) := by decide +kernel
theorem dX3_valueAt_18 : decode cX3_valueAt 18 = .ok (.istore 10, 2) := by decide +kernel
theorem dX3_valueAt_20 : decode cX3_valueAt 20 = .ok (.iload 10, 2) := by decide +kernel
theorem dX3_valueAt_22 : decode cX3_valueAt 22 = .ok (.ifCond .lt 28, 3) := by decide +kernel
theorem dX3_valueAt_25 : decode cX3_valueAt 25 = .ok (.lload 8, 2) := by decide +kernel
theorem dX3_valueAt_27 : decode cX3_valueAt 27 = .ok (.lload_n 3, 1) := by decide +kernel
theorem dX3_valueAt_28 : decode cX3_valueAt 28 = .ok (.lmul, 1) := by decide +kernel
theorem dX3_valueAt_29 : decode cX3_valueAt 29 = .ok (.aload_n 0, 1) := by decide +kernel
theorem dX3_valueAt_30 : decode cX3_valueAt 30 = .ok (.getfield 9, 3) := by decide +kernel
theorem dX3_valueAt_33 : decode cX3_valueAt 33 = .ok (.iload 7, 2) := by decide +kernel
theorem dX3_valueAt_35 : decode cX3_valueAt 35 = .ok (.iload 10, 2) := by decide +kernel
theorem dX3_valueAt_37 : decode cX3_valueAt 37 = .ok (.invokestatic 15, 3) := by decide +kernel
theorem dX3_valueAt_40 : decode cX3_valueAt 40 = .ok (.laload, 1) := by decide +kernel
theorem dX3_valueAt_41 : decode cX3_valueAt 41 = .ok (.ladd, 1) := by decide +kernel
theorem dX3_valueAt_42 : decode cX3_valueAt 42 = .ok (.lstore 8, 2) := by decide +kernel
theorem dX3_valueAt_44 : decode cX3_valueAt 44 = .ok (.iinc 10 (-1), 3) := by decide +kernel
theorem dX3_valueAt_47 : decode cX3_valueAt 47 = .ok (.goto (-27), 3) := by decide +kernel
theorem dX3_valueAt_50 : decode cX3_valueAt 50 = .ok (.lload 5, 2) := by decide +kernel
theorem dX3_valueAt_52 : decode cX3_valueAt 52 = .ok (.lload_n 1, 1) := by decide +kernel
theorem dX3_valueAt_53 : decode cX3_valueAt 53 = .ok (.lmul, 1) := by decide +kernel
theorem dX3_valueAt_54 : decode cX3_valueAt 54 = .ok (.lload 8, 2) := by decide +kernel
theorem dX3_valueAt_56 : decode cX3_valueAt 56 = .ok (.ladd, 1) := by decide +kernel
theorem dX3_valueAt_57 : decode cX3_valueAt 57 = .ok (.lstore 5, 2) := by decide +kernel
theorem dX3_valueAt_59 : decode cX3_valueAt 59 = .ok (.iinc 7 (-1), 3) := by decide +kernel
theorem dX3_valueAt_62 : decode cX3_valueAt 62 = .ok (.goto (-56), 3) := by decide +kernel
theorem dX3_valueAt_65 : decode cX3_valueAt 65 = .ok (.lload 5, 2) := by decide +kernel
theorem dX3_valueAt_67 : decode cX3_valueAt 67 = .ok (.lreturn, 1) := by decide +kernel
theorem dX4_init_0 : decode cX4_init 0 = .ok (.aload_n 0, 1) := by decide +kernel
theorem dX4_init_1 : decode cX4_init 1 = .ok (.invokespecial 3, 3) := by decide +kernel
theorem dX4_init_4 : decode cX4_init 4 = .ok (.aload_n 0, 1) := by decide +kernel
theorem dX4_init_5 : decode cX4_init 5 = .ok (.new 9, 3) := by decide +kernel
theorem dX4_init_8 : decode cX4_init 8 = .ok (.dup, 1) := by decide +kernel
theorem dX4_init_9 : decode cX4_init 9 = .ok (.invokespecial 11, 3) := by decide +kernel
theorem dX4_init_12 : decode cX4_init 12 = .ok (.putfield 12, 3) := by decide +kernel
theorem dX4_init_15 : decode cX4_init 15 = .ok (.aload_n 0, 1) := by decide +kernel
theorem dX4_init_16 : decode cX4_init 16 = .ok (.aload_n 1, 1) := by decide +kernel
theorem dX4_init_17 : decode cX4_init 17 = .ok (.putfield 18, 3) := by decide +kernel
theorem dX4_init_20 : decode cX4_init 20 = .ok (.return_, 1) := by decide +kernel
theorem dX4_expandTerm_0 : decode cX4_expandTerm 0 = .ok (.aload_n 0, 1) := by decide +kernel
theorem dX4_expandTerm_1 : decode cX4_expandTerm 1 = .ok (.getfield 12, 3) := by decide +kernel
theorem dX4_expandTerm_4 : decode cX4_expandTerm 4 = .ok (.invokevirtual 21, 3) := by decide +kernel
theorem dX4_expandTerm_7 : decode cX4_expandTerm 7 = .ok (.iconst 0, 1) := by decide +kernel
theorem dX4_expandTerm_8 : decode cX4_expandTerm 8 = .ok (.istore_n 3, 1) := by decide +kernel
theorem dX4_expandTerm_9 : decode cX4_expandTerm 9 = .ok (.iload_n 3, 1) := by decide +kernel
theorem dX4_expandTerm_10 : decode cX4_expandTerm 10 = .ok (.iconst 4, 1) := by decide +kernel
theorem dX4_expandTerm_11 : decode cX4_expandTerm 11 = .ok (.if_icmp .gt 63, 3) := by decide +kernel
theorem dX4_expandTerm_14 : decode cX4_expandTerm 14 = .ok (.iconst 0, 1) := by decide +kernel
theorem dX4_expandTerm_15 : decode cX4_expandTerm 15 = .ok (.istore 4, 2) := by decide +kernel
theorem dX4_expandTerm_17 : decode cX4_expandTerm 17 = .ok (.iload_n 3, 1) := by decide +kernel
theorem dX4_expandTerm_18 : decode cX4_expandTerm 18 = .ok (.iload 4, 2) := by decide +kernel
theorem dX4_expandTerm_20 : decode cX4_expandTerm 20 = .ok (.iadd, 1) := by decide +kernel
theorem dX4_expandTerm_21 : decode cX4_expandTerm 21 = .ok (.iconst 4, 1) := by decide +kernel
theorem dX4_expandTerm_22 : decode cX4_expandTerm 22 = .ok (.if_icmp .gt 46, 3) := by decide +kernel
theorem dX4_expandTerm_25 : decode cX4_expandTerm 25 = .ok (.aload_n 0, 1) := by decide +kernel
theorem dX4_expandTerm_26 : decode cX4_expandTerm 26 = .ok (.getfield 18, 3) := by decide +kernel
theorem dX4_expandTerm_29 : decode cX4_expandTerm 29 = .ok (.iload_n 3, 1) := by decide +kernel
theorem dX4_expandTerm_30 : decode cX4_expandTerm 30 = .ok (.iload 4, 2) := by decide +kernel
theorem dX4_expandTerm_32 : decode cX4_expandTerm 32 = .ok (.invokevirtual 24, 3) := by decide +kernel
theorem dX4_expandTerm_35 : decode cX4_expandTerm 35 = .ok (.iconst 4, 1) := by decide +kernel
theorem dX4_expandTerm_36 : decode cX4_expandTerm 36 = .ok (.iload_n 3, 1) := by decide +kernel
theorem dX4_expandTerm_37 : decode cX4_expandTerm 37 = .ok (.isub, 1) := by decide +kernel
theorem dX4_expandTerm_38 : decode cX4_expandTerm 38 = .ok (.iload 4, 2) := by decide +kernel
theorem dX4_expandTerm_40 : decode cX4_expandTerm 40 = .ok (.isub, 1) := by decide +kernel
theorem dX4_expandTerm_41 : decode cX4_expandTerm 41 = .ok (.lshl, 1) := by decide +kernel
theorem dX4_expandTerm_42 : decode cX4_expandTerm 42 = .ok (.lstore 5, 2) := by decide +kernel
theorem dX4_expandTerm_44 : decode cX4_expandTerm 44 = .ok (.lload 5, 2) := by decide +kernel
theorem dX4_expandTerm_46 : decode cX4_expandTerm 46 = .ok (.lconst 0, 1) := by decide +kernel
theorem dX4_expandTerm_47 : decode cX4_expandTerm 47 = .ok (.lcmp, 1) := by decide +kernel
theorem dX4_expandTerm_48 : decode cX4_expandTerm 48 = .ok (.ifCond .eq 14, 3) := by decide +kernel
theorem dX4_expandTerm_51 : decode cX4_expandTerm 51 = .ok (.aload_n 0, 1) := by decide +kernel
theorem dX4_expandTerm_52 : decode cX4_expandTerm 52 = .ok (.iload_n 3, 1) := by decide +kernel
theorem dX4_expandTerm_53 : decode cX4_expandTerm 53 = .ok (.iload 4, 2) := by decide +kernel
theorem dX4_expandTerm_55 : decode cX4_expandTerm 55 = .ok (.lload 5, 2) := by decide +kernel
theorem dX4_expandTerm_57 : decode cX4_expandTerm 57 = .ok (.aload_n 1, 1) := by decide +kernel
theorem dX4_expandTerm_58 : decode cX4_expandTerm 58 = .ok (.iload_n 2, 1) := by decide +kernel
theorem dX4_expandTerm_59 : decode cX4_expandTerm 59 = .ok (.invokevirtual 28, 3) := by decide +kernel
theorem dX4_expandTerm_62 : decode cX4_expandTerm 62 = .ok (.iinc 4 1, 3) := by decide +kernel
theorem dX4_expandTerm_65 : decode cX4_expandTerm 65 = .ok (.goto (-48), 3) := by decide +kernel
theorem dX4_expandTerm_68 : decode cX4_expandTerm 68 = .ok (.iinc 3 1, 3) := by decide +kernel
theorem dX4_expandTerm_71 : decode cX4_expandTerm 71 = .ok (.goto (-62), 3) := by decide +kernel
theorem dX4_expandTerm_74 : decode cX4_expandTerm 74 = .ok (.return_, 1) := by decide +kernel
theorem dX4_expandEnd_0 : decode cX4_expandEnd 0 = .ok (.aload_n 0, 1) := by decide +kernel
theorem dX4_expandEnd_1 : decode cX4_expandEnd 1 = .ok (.getfield 12, 3) := by decide +kernel
theorem dX4_expandEnd_4 : decode cX4_expandEnd 4 = .ok (.invokevirtual 21, 3) := by decide +kernel
theorem dX4_expandEnd_7 : decode cX4_expandEnd 7 = .ok (.iconst 0, 1) := by decide +kernel
theorem dX4_expandEnd_8 : decode cX4_expandEnd 8 = .ok (.istore 5, 2) := by decide +kernel
theorem dX4_expandEnd_10 : decode cX4_expandEnd 10 = .ok (.iload 5, 2) := by decide +kernel
theorem dX4_expandEnd_12 : decode cX4_expandEnd 12 = .ok (.iconst 4, 1) := by decide +kernel
theorem dX4_expandEnd_13 : decode cX4_expandEnd 13 = .ok (.if_icmp .gt 73, 3) := by decide +kernel
theorem dX4_expandEnd_16 : decode cX4_expandEnd 16 = .ok (.iconst 0, 1) := by decide +kernel
theorem dX4_expandEnd_17 : decode cX4_expandEnd 17 = .ok (.istore 6, 2) := by decide +kernel
theorem dX4_expandEnd_19 : decode cX4_expandEnd 19 = .ok (.iload 5, 2) := by decide +kernel
theorem dX4_expandEnd_21 : decode cX4_expandEnd 21 = .ok (.iload 6, 2) := by decide +kernel
theorem dX4_expandEnd_23 : decode cX4_expandEnd 23 = .ok (.iadd, 1) := by decide +kernel
theorem dX4_expandEnd_24 : decode cX4_expandEnd 24 = .ok (.iconst 4, 1) := by decide +kernel
theorem dX4_expandEnd_25 : decode cX4_expandEnd 25 = .ok (.if_icmp .gt 55, 3) := by decide +kernel
theorem dX4_expandEnd_28 : decode cX4_expandEnd 28 = .ok (.aload_n 0, 1) := by decide +kernel
theorem dX4_expandEnd_29 : decode cX4_expandEnd 29 = .ok (.getfield 18, 3) := by decide +kernel
theorem dX4_expandEnd_32 : decode cX4_expandEnd 32 = .ok (.iload 5, 2) := by decide +kernel
theorem dX4_expandEnd_34 : decode cX4_expandEnd 34 = .ok (.iload 6, 2) := by decide +kernel
theorem dX4_expandEnd_36 : decode cX4_expandEnd 36 = .ok (.invokevirtual 24, 3) := by decide +kernel
theorem dX4_expandEnd_39 : decode cX4_expandEnd 39 = .ok (.invokestatic 32, 3) := by decide +kernel
theorem dX4_expandEnd_42 : decode cX4_expandEnd 42 = .ok (.iconst 4, 1) := by decide +kernel
theorem dX4_expandEnd_43 : decode cX4_expandEnd 43 = .ok (.iload 5, 2) := by decide +kernel
theorem dX4_expandEnd_45 : decode cX4_expandEnd 45 = .ok (.isub, 1) := by decide +kernel
theorem dX4_expandEnd_46 : decode cX4_expandEnd 46 = .ok (.iload 6, 2) := by decide +kernel
theorem dX4_expandEnd_48 : decode cX4_expandEnd 48 = .ok (.isub, 1) := by decide +kernel
theorem dX4_expandEnd_49 : decode cX4_expandEnd 49 = .ok (.lshl, 1) := by decide +kernel
theorem dX4_expandEnd_50 : decode cX4_expandEnd 50 = .ok (.lstore 7, 2) := by decide +kernel
theorem dX4_expandEnd_52 : decode cX4_expandEnd 52 = .ok (.lload 7, 2) := by decide +kernel
theorem dX4_expandEnd_54 : decode cX4_expandEnd 54 = .ok (.lconst 0, 1) := by decide +kernel
theorem dX4_expandEnd_55 : decode cX4_expandEnd 55 = .ok (.lcmp, 1) := by decide +kernel
theorem dX4_expandEnd_56 : decode cX4_expandEnd 56 = .ok (.ifCond .eq 18, 3) := by decide +kernel
theorem dX4_expandEnd_59 : decode cX4_expandEnd 59 = .ok (.aload_n 0, 1) := by decide +kernel
theorem dX4_expandEnd_60 : decode cX4_expandEnd 60 = .ok (.iload 5, 2) := by decide +kernel
theorem dX4_expandEnd_62 : decode cX4_expandEnd 62 = .ok (.iload 6, 2) := by decide +kernel
theorem dX4_expandEnd_64 : decode cX4_expandEnd 64 = .ok (.lload 7, 2) := by decide +kernel
theorem dX4_expandEnd_66 : decode cX4_expandEnd 66 = .ok (.lload_n 1, 1) := by decide +kernel
theorem dX4_expandEnd_67 : decode cX4_expandEnd 67 = .ok (.lmul, 1) := by decide +kernel
theorem dX4_expandEnd_68 : decode cX4_expandEnd 68 = .ok (.iload_n 3, 1) := by decide +kernel
theorem dX4_expandEnd_69 : decode cX4_expandEnd 69 = .ok (.iload 4, 2) := by decide +kernel
theorem dX4_expandEnd_71 : decode cX4_expandEnd 71 = .ok (.invokevirtual 38, 3) := by decide +kernel
theorem dX4_expandEnd_74 : decode cX4_expandEnd 74 = .ok (.iinc 6 1, 3) := by decide +kernel
theorem dX4_expandEnd_77 : decode cX4_expandEnd 77 = .ok (.goto (-58), 3) := by decide +kernel
theorem dX4_expandEnd_80 : decode cX4_expandEnd 80 = .ok (.iinc 5 1, 3) := by decide +kernel
theorem dX4_expandEnd_83 : decode cX4_expandEnd 83 = .ok (.goto (-73), 3) := by decide +kernel
theorem dX4_expandEnd_86 : decode cX4_expandEnd 86 = .ok (.return_, 1) := by decide +kernel
theorem dX4_addTermParts_0 : decode cX4_addTermParts 0 = .ok (.iconst 0, 1) := by decide +kernel
theorem dX4_addTermParts_1 : decode cX4_addTermParts 1 = .ok (.istore 7, 2) := by decide +kernel
theorem dX4_addTermParts_3 : decode cX4_addTermParts 3 = .ok (.iload 7, 2) := by decide +kernel
theorem dX4_addTermParts_5 : decode cX4_addTermParts 5 = .ok (.iload_n 1, 1) := by decide +kernel
theorem dX4_addTermParts_6 : decode cX4_addTermParts 6 = .ok (.if_icmp .gt 91, 3) := by decide +kernel
theorem dX4_addTermParts_9 : decode cX4_addTermParts 9 = .ok (.iconst 0, 1) := by decide +kernel
theorem dX4_addTermParts_10 : decode cX4_addTermParts 10 = .ok (.istore 8, 2) := by decide +kernel
theorem dX4_addTermParts_12 : decode cX4_addTermParts 12 = .ok (.iload 8, 2) := by decide +kernel
theorem dX4_addTermParts_14 : decode cX4_addTermParts 14 = .ok (.iload_n 2, 1) := by decide +kernel
theorem dX4_addTermParts_15 : decode cX4_addTermParts 15 = .ok (.if_icmp .gt 76, 3) := by decide +kernel
theorem dX4_addTermParts_18 : decode cX4_addTermParts 18 = .ok (.iload 7, 2) := by decide +kernel
theorem dX4_addTermParts_20 : decode cX4_addTermParts 20 = .ok (.iload 8, 2) := by decide +kernel
theorem dX4_addTermParts_22 : decode cX4_addTermParts 22 = .ok (.iadd, 1) := by decide +kernel
theorem dX4_addTermParts_23 : decode cX4_addTermParts 23 = .ok (.iload 6, 2) := by decide +kernel
theorem dX4_addTermParts_25 : decode cX4_addTermParts 25 = .ok (.if_icmp .gt 66, 3) := by decide +kernel
theorem dX4_addTermParts_28 : decode cX4_addTermParts 28 = .ok (.lload_n 3, 1) := by decide +kernel
theorem dX4_addTermParts_29 : decode cX4_addTermParts 29 = .ok (.iload_n 1, 1) := by decide +kernel
theorem dX4_addTermParts_30 : decode cX4_addTermParts 30 = .ok (.iload 7, 2) := by decide +kernel
theorem dX4_addTermParts_32 : decode cX4_addTermParts 32 = .ok (.iload_n 2, 1) := by decide +kernel
theorem dX4_addTermParts_33 : decode cX4_addTermParts 33 = .ok (.iload 8, 2) := by decide +kernel
theorem dX4_addTermParts_35 : decode cX4_addTermParts 35 = .ok (.invokestatic 42, 3) := by decide +kernel
theorem dX4_addTermParts_38 : decode cX4_addTermParts 38 = .ok (.lmul, 1) := by decide +kernel
theorem dX4_addTermParts_39 : decode cX4_addTermParts 39 = .ok (.aload 5, 2) := by decide +kernel
theorem dX4_addTermParts_41 : decode cX4_addTermParts 41 = .ok (.iload 7, 2) := by decide +kernel
theorem dX4_addTermParts_43 : decode cX4_addTermParts 43 = .ok (.iload 8, 2) := by decide +kernel
theorem dX4_addTermParts_45 : decode cX4_addTermParts 45 = .ok (.invokestatic 46, 3) := by decide +kernel
theorem dX4_addTermParts_48 : decode cX4_addTermParts 48 = .ok (.laload, 1) := by decide +kernel
theorem dX4_addTermParts_49 : decode cX4_addTermParts 49 = .ok (.lmul, 1) := by decide +kernel
theorem dX4_addTermParts_50 : decode cX4_addTermParts 50 = .ok (.lstore 9, 2) := by decide +kernel
theorem dX4_addTermParts_52 : decode cX4_addTermParts 52 = .ok (.aload_n 0, 1) := by decide +kernel
theorem dX4_addTermParts_53 : decode cX4_addTermParts 53 = .ok (.getfield 12, 3) := by decide +kernel
theorem dX4_addTermParts_56 : decode cX4_addTermParts 56 = .ok (.iload_n 1, 1) := by decide +kernel
theorem dX4_addTermParts_57 : decode cX4_addTermParts 57 = .ok (.iload 7, 2) := by decide +kernel
theorem dX4_addTermParts_59 : decode cX4_addTermParts 59 = .ok (.isub, 1) := by decide +kernel
theorem dX4_addTermParts_60 : decode cX4_addTermParts 60 = .ok (.iload_n 2, 1) := by decide +kernel
theorem dX4_addTermParts_61 : decode cX4_addTermParts 61 = .ok (.iload 8, 2) := by decide +kernel
theorem dX4_addTermParts_63 : decode cX4_addTermParts 63 = .ok (.isub, 1) := by decide +kernel
theorem dX4_addTermParts_64 : decode cX4_addTermParts 64 = .ok (.iload 7, 2) := by decide +kernel
theorem dX4_addTermParts_66 : decode cX4_addTermParts 66 = .ok (.iload 8, 2) := by decide +kernel
theorem dX4_addTermParts_68 : decode cX4_addTermParts 68 = .ok (.iadd, 1) := by decide +kernel
theorem dX4_addTermParts_69 : decode cX4_addTermParts 69 = .ok (.iconst 1, 1) := by decide +kernel
theorem dX4_addTermParts_70 : decode cX4_addTermParts 70 = .ok (.iand, 1) := by decide +kernel
theorem dX4_addTermParts_71 : decode cX4_addTermParts 71 = .ok (.ifCond .ne 8, 3) := by decide +kernel
theorem dX4_addTermParts_74 : decode cX4_addTermParts 74 = .ok (.lload 9, 2) := by decide +kernel
theorem dX4_addTermParts_76 : decode cX4_addTermParts 76 = .ok (.goto 6, 3) := by decide +kernel
theorem dX4_addTermParts_79 : decode cX4_addTermParts 79 = .ok (.lload 9, 2) := by decide +kernel
theorem dX4_addTermParts_81 : decode cX4_addTermParts 81 = .ok (.lneg, 1) := by decide +kernel
theorem dX4_addTermParts_82 : decode cX4_addTermParts 82 = .ok (.invokevirtual 50, 3) := by decide +kernel
theorem dX4_addTermParts_85 : decode cX4_addTermParts 85 = .ok (.iinc 8 1, 3) := by decide +kernel
theorem dX4_addTermParts_88 : decode cX4_addTermParts 88 = .ok (.goto (-76), 3) := by decide +kernel
theorem dX4_addTermParts_91 : decode cX4_addTermParts 91 = .ok (.iinc 7 1, 3) := by decide +kernel
theorem dX4_addTermParts_94 : decode cX4_addTermParts 94 = .ok (.goto (-91), 3) := by decide +kernel
theorem dX4_addTermParts_97 : decode cX4_addTermParts 97 = .ok (.return_, 1) := by decide +kernel
theorem dX4_addEndParts_0 : decode cX4_addEndParts 0 = .ok (.iconst 0, 1) := by decide +kernel
theorem dX4_addEndParts_1 : decode cX4_addEndParts 1 = .ok (.istore 7, 2) := by decide +kernel
theorem dX4_addEndParts_3 : decode cX4_addEndParts 3 = .ok (.iload 7, 2) := by decide +kernel
theorem dX4_addEndParts_5 : decode cX4_addEndParts 5 = .ok (.iload_n 1, 1) := by decide +kernel
theorem dX4_addEndParts_6 : decode cX4_addEndParts 6 = .ok (.if_icmp .gt 72, 3) := by decide +kernel
theorem dX4_addEndParts_9 : decode cX4_addEndParts 9 = .ok (.iconst 0, 1) := by decide +kernel
theorem dX4_addEndParts_10 : decode cX4_addEndParts 10 = .ok (.iload 6, 2) := by decide +kernel
theorem dX4_addEndParts_12 : decode cX4_addEndParts 12 = .ok (.iconst 1, 1) := by decide +kernel
theorem dX4_addEndParts_13 : decode cX4_addEndParts 13 = .ok (.iadd, 1) := by decide +kernel
theorem dX4_addEndParts_14 : decode cX4_addEndParts 14 = .ok (.iload 7, 2) := by decide +kernel
theorem dX4_addEndParts_16 : decode cX4_addEndParts 16 = .ok (.isub, 1) := by decide +kernel
theorem dX4_addEndParts_17 : decode cX4_addEndParts 17 = .ok (.invokestatic 54, 3) := by decide +kernel
theorem dX4_addEndParts_20 : decode cX4_addEndParts 20 = .ok (.istore 8, 2) := by decide +kernel
theorem dX4_addEndParts_22 : decode cX4_addEndParts 22 = .ok (.iload 8, 2) := by decide +kernel
theorem dX4_addEndParts_24 : decode cX4_addEndParts 24 = .ok (.iload_n 2, 1) := by decide +kernel
theorem dX4_addEndParts_25 : decode cX4_addEndParts 25 = .ok (.if_icmp .gt 47, 3) := by decide +kernel
theorem dX4_addEndParts_28 : decode cX4_addEndParts 28 = .ok (.aload_n 0, 1) := by decide +kernel
theorem dX4_addEndParts_29 : decode cX4_addEndParts 29 = .ok (.getfield 12, 3) := by decide +kernel
theorem dX4_addEndParts_32 : decode cX4_addEndParts 32 = .ok (.iload_n 1, 1) := by decide +kernel
theorem dX4_addEndParts_33 : decode cX4_addEndParts 33 = .ok (.iload 7, 2) := by decide +kernel
theorem dX4_addEndParts_35 : decode cX4_addEndParts 35 = .ok (.isub, 1) := by decide +kernel
theorem dX4_addEndParts_36 : decode cX4_addEndParts 36 = .ok (.iload_n 2, 1) := by decide +kernel
theorem dX4_addEndParts_37 : decode cX4_addEndParts 37 = .ok (.iload 8, 2) := by decide +kernel
theorem dX4_addEndParts_39 : decode cX4_addEndParts 39 = .ok (.isub, 1) := by decide +kernel
theorem dX4_addEndParts_40 : decode cX4_addEndParts 40 = .ok (.lload_n 3, 1) := by decide +kernel
theorem dX4_addEndParts_41 : decode cX4_addEndParts 41 = .ok (.iload_n 1, 1) := by decide +kernel
theorem dX4_addEndParts_42 : decode cX4_addEndParts 42 = .ok (.iload 7, 2) := by decide +kernel
theorem dX4_addEndParts_44 : decode cX4_addEndParts 44 = .ok (.iload_n 2, 1) := by decide +kernel
theorem dX4_addEndParts_45 : decode cX4_addEndParts 45 = .ok (.iload 8, 2) := by decide +kernel
theorem dX4_addEndParts_47 : decode cX4_addEndParts 47 = .ok (.invokestatic 42, 3) := by decide +kernel
theorem dX4_addEndParts_50 : decode cX4_addEndParts 50 = .ok (.lmul, 1) := by decide +kernel
theorem dX4_addEndParts_51 : decode cX4_addEndParts 51 = .ok (.iload 5, 2) := by decide +kernel
theorem dX4_addEndParts_53 : decode cX4_addEndParts 53 = .ok (.i2l, 1) := by decide +kernel
theorem dX4_addEndParts_54 : decode cX4_addEndParts 54 = .ok (.iload 7, 2) := by decide +kernel
theorem dX4_addEndParts_56 : decode cX4_addEndParts 56 = .ok (.iload 8, 2) := by decide +kernel
theorem dX4_addEndParts_58 : decode cX4_addEndParts 58 = .ok (.iadd, 1) := by decide +kernel
theorem dX4_addEndParts_59 : decode cX4_addEndParts 59 = .ok (.invokestatic 57, 3) := by decide +kernel
theorem dX4_addEndParts_62 : decode cX4_addEndParts 62 = .ok (.lmul, 1) := by decide +kernel
theorem dX4_addEndParts_63 : decode cX4_addEndParts 63 = .ok (.invokevirtual 50, 3) := by decide +kernel
theorem dX4_addEndParts_66 : decode cX4_addEndParts 66 = .ok (.iinc 8 1, 3) := by decide +kernel
theorem dX4_addEndParts_69 : decode cX4_addEndParts 69 = .ok (.goto (-47), 3) := by decide +kernel
theorem dX4_addEndParts_72 : decode cX4_addEndParts 72 = .ok (.iinc 7 1, 3) := by decide +kernel
theorem dX4_addEndParts_75 : decode cX4_addEndParts 75 = .ok (.goto (-72), 3) := by decide +kernel
theorem dX4_addEndParts_78 : decode cX4_addEndParts 78 = .ok (.return_, 1) := by decide +kernel
theorem dX4_waysToChoose_0 : decode cX4_waysToChoose 0 = .ok (.getstatic 61, 3) := by decide +kernel
theorem dX4_waysToChoose_3 : decode cX4_waysToChoose 3 = .ok (.iload_n 0, 1) := by decide +kernel
theorem dX4_waysToChoose_4 : decode cX4_waysToChoose 4 = .ok (.iload_n 1, 1) := by decide +kernel
theorem dX4_waysToChoose_5 : decode cX4_waysToChoose 5 = .ok (.invokestatic 46, 3) := by decide +kernel
theorem dX4_waysToChoose_8 : decode cX4_waysToChoose 8 = .ok (.iaload, 1) := by decide +kernel
theorem dX4_waysToChoose_9 : decode cX4_waysToChoose 9 = .ok (.getstatic 61, 3) := by decide +kernel
theorem dX4_waysToChoose_12 : decode cX4_waysToChoose 12 = .ok (.iload_n 2, 1) := by decide +kernel
theorem dX4_waysToChoose_13 : decode cX4_waysToChoose 13 = .ok (.iload_n 3, 1) := by decide +kernel
theorem dX4_waysToChoose_14 : decode cX4_waysToChoose 14 = .ok (.invokestatic 46, 3) := by decide +kernel
theorem dX4_waysToChoose_17 : decode cX4_waysToChoose 17 = .ok (.iaload, 1) := by decide +kernel
theorem dX4_waysToChoose_18 : decode cX4_waysToChoose 18 = .ok (.imul, 1) := by decide +kernel
theorem dX4_waysToChoose_19 : decode cX4_waysToChoose 19 = .ok (.i2l, 1) := by decide +kernel
theorem dX4_waysToChoose_20 : decode cX4_waysToChoose 20 = .ok (.lreturn, 1) := by decide +kernel
theorem dX4_power_0 : decode cX4_power 0 = .ok (.lconst 1, 1) := by decide +kernel
theorem dX4_power_1 : decode cX4_power 1 = .ok (.lstore_n 3, 1) := by decide +kernel
theorem dX4_power_2 : decode cX4_power 2 = .ok (.iconst 0, 1) := by decide +kernel
theorem dX4_power_3 : decode cX4_power 3 = .ok (.istore 5, 2) := by decide +kernel
theorem dX4_power_5 : decode cX4_power 5 = .ok (.iload 5, 2) := by decide +kernel
theorem dX4_power_7 : decode cX4_power 7 = .ok (.iload_n 2, 1) := by decide +kernel
theorem dX4_power_8 : decode cX4_power 8 = .ok (.if_icmp .ge 13, 3) := by decide +kernel
theorem dX4_power_11 : decode cX4_power 11 = .ok (.lload_n 3, 1) := by decide +kernel
theorem dX4_power_12 : decode cX4_power 12 = .ok (.lload_n 0, 1) := by decide +kernel
theorem dX4_power_13 : decode cX4_power 13 = .ok (.lmul, 1) := by decide +kernel
theorem dX4_power_14 : decode cX4_power 14 = .ok (.lstore_n 3, 1) := by decide +kernel
theorem dX4_power_15 : decode cX4_power 15 = .ok (.iinc 5 1, 3) := by decide +kernel
theorem dX4_power_18 : decode cX4_power 18 = .ok (.goto (-13), 3) := by decide +kernel
theorem dX4_power_21 : decode cX4_power 21 = .ok (.lload_n 3, 1) := by decide +kernel
theorem dX4_power_22 : decode cX4_power 22 = .ok (.lreturn, 1) := by decide +kernel
theorem dX5_init_0 : decode cX5_init 0 = .ok (.aload_n 0, 1) := by decide +kernel
theorem dX5_init_1 : decode cX5_init 1 = .ok (.invokespecial 3, 3) := by decide +kernel
theorem dX5_init_4 : decode cX5_init 4 = .ok (.aload_n 0, 1) := by decide +kernel
theorem dX5_init_5 : decode cX5_init 5 = .ok (.bipush 40, 2) := by decide +kernel
theorem dX5_init_7 : decode cX5_init 7 = .ok (.newarray .int, 2) := by decide +kernel
theorem dX5_init_9 : decode cX5_init 9 = .ok (.putfield 9, 3) := by decide +kernel
theorem dX5_init_12 : decode cX5_init 12 = .ok (.aload_n 0, 1) := by decide +kernel
theorem dX5_init_13 : decode cX5_init 13 = .ok (.bipush 40, 2) := by decide +kernel
theorem dX5_init_15 : decode cX5_init 15 = .ok (.newarray .int, 2) := by decide +kernel
theorem dX5_init_17 : decode cX5_init 17 = .ok (.putfield 15, 3) := by decide +kernel
theorem dX5_init_20 : decode cX5_init 20 = .ok (.aload_n 0, 1) := by decide +kernel
theorem dX5_init_21 : decode cX5_init 21 = .ok (.bipush 40, 2) := by decide +kernel
theorem dX5_init_23 : decode cX5_init 23 = .ok (.newarray .int, 2) := by decide +kernel
theorem dX5_init_25 : decode cX5_init 25 = .ok (.putfield 18, 3) := by decide +kernel
theorem dX5_init_28 : decode cX5_init 28 = .ok (.aload_n 0, 1) := by decide +kernel
theorem dX5_init_29 : decode cX5_init 29 = .ok (.iconst 0, 1) := by decide +kernel
theorem dX5_init_30 : decode cX5_init 30 = .ok (.putfield 21, 3) := by decide +kernel
theorem dX5_init_33 : decode cX5_init 33 = .ok (.aload_n 0, 1) := by decide +kernel
theorem dX5_init_34 : decode cX5_init 34 = .ok (.iconst 0, 1) := by decide +kernel
theorem dX5_init_35 : decode cX5_init 35 = .ok (.putfield 25, 3) := by decide +kernel
theorem dX5_init_38 : decode cX5_init 38 = .ok (.aload_n 0, 1) := by decide +kernel
theorem dX5_init_39 : decode cX5_init 39 = .ok (.iconst 0, 1) := by decide +kernel
theorem dX5_init_40 : decode cX5_init 40 = .ok (.putfield 28, 3) := by decide +kernel
theorem dX5_init_43 : decode cX5_init 43 = .ok (.aload_n 0, 1) := by decide +kernel
theorem dX5_init_44 : decode cX5_init 44 = .ok (.iconst 1, 1) := by decide +kernel
theorem dX5_init_45 : decode cX5_init 45 = .ok (.putfield 31, 3) := by decide +kernel
theorem dX5_init_48 : decode cX5_init 48 = .ok (.aload_n 0, 1) := by decide +kernel
theorem dX5_init_49 : decode cX5_init 49 = .ok (.aload_n 1, 1) := by decide +kernel
theorem dX5_init_50 : decode cX5_init 50 = .ok (.putfield 34, 3) := by decide +kernel
theorem dX5_init_53 : decode cX5_init 53 = .ok (.aload_n 0, 1) := by decide +kernel
theorem dX5_init_54 : decode cX5_init 54 = .ok (.aload_n 2, 1) := by decide +kernel
theorem dX5_init_55 : decode cX5_init 55 = .ok (.putfield 38, 3) := by decide +kernel
theorem dX5_init_58 : decode cX5_init 58 = .ok (.return_, 1) := by decide +kernel
theorem dX5_trace_0 : decode cX5_trace 0 = .ok (.aload_n 0, 1) := by decide +kernel
theorem dX5_trace_1 : decode cX5_trace 1 = .ok (.iload_n 1, 1) := by decide +kernel
theorem dX5_trace_2 : decode cX5_trace 2 = .ok (.putfield 25, 3) := by decide +kernel
theorem dX5_trace_5 : decode cX5_trace 5 = .ok (.aload_n 0, 1) := by decide +kernel
theorem dX5_trace_6 : decode cX5_trace 6 = .ok (.iload_n 2, 1) := by decide +kernel
theorem dX5_trace_7 : decode cX5_trace 7 = .ok (.putfield 28, 3) := by decide +kernel
theorem dX5_trace_10 : decode cX5_trace 10 = .ok (.aload_n 0, 1) := by decide +kernel
theorem dX5_trace_11 : decode cX5_trace 11 = .ok (.iload_n 3, 1) := by decide +kernel
theorem dX5_trace_12 : decode cX5_trace 12 = .ok (.putfield 31, 3) := by decide +kernel
theorem dX5_trace_15 : decode cX5_trace 15 = .ok (.aload_n 0, 1) := by decide +kernel
theorem dX5_trace_16 : decode cX5_trace 16 = .ok (.iconst 0, 1) := by decide +kernel
theorem dX5_trace_17 : decode cX5_trace 17 = .ok (.putfield 21, 3) := by decide +kernel
theorem dX5_trace_20 : decode cX5_trace 20 = .ok (.aload_n 0, 1) := by decide +kernel
theorem dX5_trace_21 : decode cX5_trace 21 = .ok (.iconst 0, 1) := by decide +kernel
theorem dX5_trace_22 : decode cX5_trace 22 = .ok (.iconst 0, 1) := by decide +kernel
theorem dX5_trace_23 : decode cX5_trace 23 = .ok (.iconst 0, 1) := by decide +kernel
theorem dX5_trace_24 : decode cX5_trace 24 = .ok (.invokevirtual 42, 3) := by decide +kernel
theorem dX5_trace_27 : decode cX5_trace 27 = .ok (.return_, 1) := by decide +kernel
theorem dX5_read_0 : decode cX5_read 0 = .ok (.iload_n 1, 1) := by decide +kernel
theorem dX5_read_1 : decode cX5_read 1 = .ok (.ifCond .lt 11, 3) := by decide +kernel
theorem dX5_read_4 : decode cX5_read 4 = .ok (.iload_n 1, 1) := by decide +kernel
theorem dX5_read_5 : decode cX5_read 5 = .ok (.aload_n 0, 1) := by decide +kernel
theorem dX5_read_6 : decode cX5_read 6 = .ok (.getfield 21, 3) := by decide +kernel
theorem dX5_read_9 : decode cX5_read 9 = .ok (.if_icmp .lt 5, 3) := by decide +kernel
theorem dX5_read_12 : decode cX5_read 12 = .ok (.iconst (-1), 1) := by decide +kernel
theorem dX5_read_13 : decode cX5_read 13 = .ok (.ireturn, 1) := by decide +kernel
theorem dX5_read_14 : decode cX5_read 14 = .ok (.iload_n 2, 1) := by decide +kernel
theorem dX5_read_15 : decode cX5_read 15 = .ok (.lookupswitch 39 #[(0, 25), (1, 32)], 25) := by decide +kernel
theorem dX5_read_40 : decode cX5_read 40 = .ok (.aload_n 0, 1) := by decide +kernel
theorem dX5_read_41 : decode cX5_read 41 = .ok (.getfield 9, 3) := by decide +kernel
theorem dX5_read_44 : decode cX5_read 44 = .ok (.iload_n 1, 1) := by decide +kernel
theorem dX5_read_45 : decode cX5_read 45 = .ok (.iaload, 1) := by decide +kernel
theorem dX5_read_46 : decode cX5_read 46 = .ok (.ireturn, 1) := by decide +kernel
theorem dX5_read_47 : decode cX5_read 47 = .ok (.aload_n 0, 1) := by decide +kernel
theorem dX5_read_48 : decode cX5_read 48 = .ok (.getfield 15, 3) := by decide +kernel
theorem dX5_read_51 : decode cX5_read 51 = .ok (.iload_n 1, 1) := by decide +kernel
theorem dX5_read_52 : decode cX5_read 52 = .ok (.iaload, 1) := by decide +kernel
theorem dX5_read_53 : decode cX5_read 53 = .ok (.ireturn, 1) := by decide +kernel
theorem dX5_read_54 : decode cX5_read 54 = .ok (.aload_n 0, 1) := by decide +kernel
theorem dX5_read_55 : decode cX5_read 55 = .ok (.getfield 18, 3) := by decide +kernel
theorem dX5_read_58 : decode cX5_read 58 = .ok (.iload_n 1, 1) := by decide +kernel
theorem dX5_read_59 : decode cX5_read 59 = .ok (.iaload, 1) := by decide +kernel
theorem dX5_read_60 : decode cX5_read 60 = .ok (.ireturn, 1) := by decide +kernel
theorem dX5_visit_0 : decode cX5_visit 0 = .ok (.iload_n 1, 1) := by decide +kernel
theorem dX5_visit_1 : decode cX5_visit 1 = .ok (.iconst 5, 1) := by decide +kernel
theorem dX5_visit_2 : decode cX5_visit 2 = .ok (.if_icmp .gt 16, 3) := by decide +kernel
theorem dX5_visit_5 : decode cX5_visit 5 = .ok (.aload_n 0, 1) := by decide +kernel
theorem dX5_visit_6 : decode cX5_visit 6 = .ok (.getfield 38, 3) := by decide +kernel
theorem dX5_visit_9 : decode cX5_visit 9 = .ok (.iload_n 1, 1) := by decide +kernel
theorem dX5_visit_10 : decode cX5_visit 10 = .ok (.iload_n 2, 1) := by decide +kernel
theorem dX5_visit_11 : decode cX5_visit 11 = .ok (.iload_n 3, 1) := by decide +kernel
theorem dX5_visit_12 : decode cX5_visit 12 = .ok (.invokevirtual 46, 3) := by decide +kernel
theorem dX5_visit_15 : decode cX5_visit 15 = .ok (.ifCond .ne 4, 3) := by decide +kernel
theorem dX5_visit_18 : decode cX5_visit 18 = .ok (.return_, 1) := by decide +kernel
theorem dX5_visit_19 : decode cX5_visit 19 = .ok (.aload_n 0, 1) := by decide +kernel
theorem dX5_visit_20 : decode cX5_visit 20 = .ok (.iload_n 1, 1) := by decide +kernel
theorem dX5_visit_21 : decode cX5_visit 21 = .ok (.iload_n 2, 1) := by decide +kernel
theorem dX5_visit_22 : decode cX5_visit 22 = .ok (.iload_n 3, 1) := by decide +kernel
theorem dX5_visit_23 : decode cX5_visit 23 = .ok (.invokevirtual 52, 3) := by decide +kernel
theorem dX5_visit_26 : decode cX5_visit 26 = .ok (.ifCond .eq 13, 3) := by decide +kernel
theorem dX5_visit_29 : decode cX5_visit 29 = .ok (.aload_n 0, 1) := by decide +kernel
theorem dX5_visit_30 : decode cX5_visit 30 = .ok (.iload_n 1, 1) := by decide +kernel
theorem dX5_visit_31 : decode cX5_visit 31 = .ok (.iload_n 2, 1) := by decide +kernel
theorem dX5_visit_32 : decode cX5_visit 32 = .ok (.iload_n 3, 1) := by decide +kernel
theorem dX5_visit_33 : decode cX5_visit 33 = .ok (.invokevirtual 56, 3) := by decide +kernel
theorem dX5_visit_36 : decode cX5_visit 36 = .ok (.goto 86, 3) := by decide +kernel
theorem dX5_visit_39 : decode cX5_visit 39 = .ok (.aload_n 0, 1) := by decide +kernel
theorem dX5_visit_40 : decode cX5_visit 40 = .ok (.getfield 38, 3) := by decide +kernel
theorem dX5_visit_43 : decode cX5_visit 43 = .ok (.iload_n 1, 1) := by decide +kernel
theorem dX5_visit_44 : decode cX5_visit 44 = .ok (.iload_n 2, 1) := by decide +kernel
theorem dX5_visit_45 : decode cX5_visit 45 = .ok (.iload_n 3, 1) := by decide +kernel
theorem dX5_visit_46 : decode cX5_visit 46 = .ok (.invokevirtual 59, 3) := by decide +kernel
theorem dX5_visit_49 : decode cX5_visit 49 = .ok (.ifCond .eq 66, 3) := by decide +kernel
theorem dX5_visit_52 : decode cX5_visit 52 = .ok (.aload_n 0, 1) := by decide +kernel
theorem dX5_visit_53 : decode cX5_visit 53 = .ok (.iload_n 1, 1) := by decide +kernel
theorem dX5_visit_54 : decode cX5_visit 54 = .ok (.iconst 1, 1) := by decide +kernel
theorem dX5_visit_55 : decode cX5_visit 55 = .ok (.iadd, 1) := by decide +kernel
theorem dX5_visit_56 : decode cX5_visit 56 = .ok (.iconst 2, 1) := by decide +kernel
theorem dX5_visit_57 : decode cX5_visit 57 = .ok (.iload_n 2, 1) := by decide +kernel
theorem dX5_visit_58 : decode cX5_visit 58 = .ok (.imul, 1) := by decide +kernel
theorem dX5_visit_59 : decode cX5_visit 59 = .ok (.iconst 2, 1) := by decide +kernel
theorem dX5_visit_60 : decode cX5_visit 60 = .ok (.iload_n 3, 1) := by decide +kernel
theorem dX5_visit_61 : decode cX5_visit 61 = .ok (.imul, 1) := by decide +kernel
theorem dX5_visit_62 : decode cX5_visit 62 = .ok (.invokevirtual 42, 3) := by decide +kernel
theorem dX5_visit_65 : decode cX5_visit 65 = .ok (.aload_n 0, 1) := by decide +kernel
theorem dX5_visit_66 : decode cX5_visit 66 = .ok (.iload_n 1, 1) := by decide +kernel
theorem dX5_visit_67 : decode cX5_visit 67 = .ok (.iconst 1, 1) := by decide +kernel
theorem dX5_visit_68 : decode cX5_visit 68 = .ok (.iadd, 1) := by decide +kernel
theorem dX5_visit_69 : decode cX5_visit 69 = .ok (.iconst 2, 1) := by decide +kernel
theorem dX5_visit_70 : decode cX5_visit 70 = .ok (.iload_n 2, 1) := by decide +kernel
theorem dX5_visit_71 : decode cX5_visit 71 = .ok (.imul, 1) := by decide +kernel
theorem dX5_visit_72 : decode cX5_visit 72 = .ok (.iconst 1, 1) := by decide +kernel
theorem dX5_visit_73 : decode cX5_visit 73 = .ok (.iadd, 1) := by decide +kernel
theorem dX5_visit_74 : decode cX5_visit 74 = .ok (.iconst 2, 1) := by decide +kernel
theorem dX5_visit_75 : decode cX5_visit 75 = .ok (.iload_n 3, 1) := by decide +kernel
theorem dX5_visit_76 : decode cX5_visit 76 = .ok (.imul, 1) := by decide +kernel
theorem dX5_visit_77 : decode cX5_visit 77 = .ok (.invokevirtual 42, 3) := by decide +kernel
theorem dX5_visit_80 : decode cX5_visit 80 = .ok (.aload_n 0, 1) := by decide +kernel
theorem dX5_visit_81 : decode cX5_visit 81 = .ok (.iload_n 1, 1) := by decide +kernel
theorem dX5_visit_82 : decode cX5_visit 82 = .ok (.iconst 1, 1) := by decide +kernel
theorem dX5_visit_83 : decode cX5_visit 83 = .ok (.iadd, 1) := by decide +kernel
theorem dX5_visit_84 : decode cX5_visit 84 = .ok (.iconst 2, 1) := by decide +kernel
theorem dX5_visit_85 : decode cX5_visit 85 = .ok (.iload_n 2, 1) := by decide +kernel
theorem dX5_visit_86 : decode cX5_visit 86 = .ok (.imul, 1) := by decide +kernel
theorem dX5_visit_87 : decode cX5_visit 87 = .ok (.iconst 2, 1) := by decide +kernel
theorem dX5_visit_88 : decode cX5_visit 88 = .ok (.iload_n 3, 1) := by decide +kernel
theorem dX5_visit_89 : decode cX5_visit 89 = .ok (.imul, 1) := by decide +kernel
theorem dX5_visit_90 : decode cX5_visit 90 = .ok (.iconst 1, 1) := by decide +kernel
theorem dX5_visit_91 : decode cX5_visit 91 = .ok (.iadd, 1) := by decide +kernel
theorem dX5_visit_92 : decode cX5_visit 92 = .ok (.invokevirtual 42, 3) := by decide +kernel
theorem dX5_visit_95 : decode cX5_visit 95 = .ok (.aload_n 0, 1) := by decide +kernel
theorem dX5_visit_96 : decode cX5_visit 96 = .ok (.iload_n 1, 1) := by decide +kernel
theorem dX5_visit_97 : decode cX5_visit 97 = .ok (.iconst 1, 1) := by decide +kernel
theorem dX5_visit_98 : decode cX5_visit 98 = .ok (.iadd, 1) := by decide +kernel
theorem dX5_visit_99 : decode cX5_visit 99 = .ok (.iconst 2, 1) := by decide +kernel
theorem dX5_visit_100 : decode cX5_visit 100 = .ok (.iload_n 2, 1) := by decide +kernel
theorem dX5_visit_101 : decode cX5_visit 101 = .ok (.imul, 1) := by decide +kernel
theorem dX5_visit_102 : decode cX5_visit 102 = .ok (.iconst 1, 1) := by decide +kernel
theorem dX5_visit_103 : decode cX5_visit 103 = .ok (.iadd, 1) := by decide +kernel
theorem dX5_visit_104 : decode cX5_visit 104 = .ok (.iconst 2, 1) := by decide +kernel
theorem dX5_visit_105 : decode cX5_visit 105 = .ok (.iload_n 3, 1) := by decide +kernel
theorem dX5_visit_106 : decode cX5_visit 106 = .ok (.imul, 1) := by decide +kernel
theorem dX5_visit_107 : decode cX5_visit 107 = .ok (.iconst 1, 1) := by decide +kernel
theorem dX5_visit_108 : decode cX5_visit 108 = .ok (.iadd, 1) := by decide +kernel
theorem dX5_visit_109 : decode cX5_visit 109 = .ok (.invokevirtual 42, 3) := by decide +kernel
theorem dX5_visit_112 : decode cX5_visit 112 = .ok (.goto 10, 3) := by decide +kernel
theorem dX5_visit_115 : decode cX5_visit 115 = .ok (.aload_n 0, 1) := by decide +kernel
theorem dX5_visit_116 : decode cX5_visit 116 = .ok (.iload_n 1, 1) := by decide +kernel
theorem dX5_visit_117 : decode cX5_visit 117 = .ok (.iload_n 2, 1) := by decide +kernel
theorem dX5_visit_118 : decode cX5_visit 118 = .ok (.iload_n 3, 1) := by decide +kernel
theorem dX5_visit_119 : decode cX5_visit 119 = .ok (.invokevirtual 62, 3) := by decide +kernel
theorem dX5_visit_122 : decode cX5_visit 122 = .ok (.return_, 1) := by decide +kernel
theorem dX5_isFar_0 : decode cX5_isFar 0 = .ok (.iconst 2, 1) := by decide +kernel
theorem dX5_isFar_1 : decode cX5_isFar 1 = .ok (.iload_n 1, 1) := by decide +kernel
theorem dX5_isFar_2 : decode cX5_isFar 2 = .ok (.invokestatic 65, 3) := by decide +kernel
theorem dX5_isFar_5 : decode cX5_isFar 5 = .ok (.imul, 1) := by decide +kernel
theorem dX5_isFar_6 : decode cX5_isFar 6 = .ok (.aload_n 0, 1) := by decide +kernel
theorem dX5_isFar_7 : decode cX5_isFar 7 = .ok (.getfield 31, 3) := by decide +kernel
theorem dX5_isFar_10 : decode cX5_isFar 10 = .ok (.imul, 1) := by decide +kernel
theorem dX5_isFar_11 : decode cX5_isFar 11 = .ok (.istore 4, 2) := by decide +kernel
theorem dX5_isFar_13 : decode cX5_isFar 13 = .ok (.aload_n 0, 1) := by decide +kernel
theorem dX5_isFar_14 : decode cX5_isFar 14 = .ok (.getfield 25, 3) := by decide +kernel
theorem dX5_isFar_17 : decode cX5_isFar 17 = .ok (.iload_n 1, 1) := by decide +kernel
theorem dX5_isFar_18 : decode cX5_isFar 18 = .ok (.iload_n 2, 1) := by decide +kernel
theorem dX5_isFar_19 : decode cX5_isFar 19 = .ok (.invokestatic 69, 3) := by decide +kernel
theorem dX5_isFar_22 : decode cX5_isFar 22 = .ok (.invokestatic 72, 3) := by decide +kernel
theorem dX5_isFar_25 : decode cX5_isFar 25 = .ok (.iload 4, 2) := by decide +kernel
theorem dX5_isFar_27 : decode cX5_isFar 27 = .ok (.if_icmp .ge 20, 3) := by decide +kernel
theorem dX5_isFar_30 : decode cX5_isFar 30 = .ok (.aload_n 0, 1) := by decide +kernel
theorem dX5_isFar_31 : decode cX5_isFar 31 = .ok (.getfield 28, 3) := by decide +kernel
theorem dX5_isFar_34 : decode cX5_isFar 34 = .ok (.iload_n 1, 1) := by decide +kernel
theorem dX5_isFar_35 : decode cX5_isFar 35 = .ok (.iload_n 3, 1) := by decide +kernel
theorem dX5_isFar_36 : decode cX5_isFar 36 = .ok (.invokestatic 69, 3) := by decide +kernel
theorem dX5_isFar_39 : decode cX5_isFar 39 = .ok (.invokestatic 72, 3) := by decide +kernel
theorem dX5_isFar_42 : decode cX5_isFar 42 = .ok (.iload 4, 2) := by decide +kernel
theorem dX5_isFar_44 : decode cX5_isFar 44 = .ok (.if_icmp .lt 7, 3) := by decide +kernel
theorem dX5_isFar_47 : decode cX5_isFar 47 = .ok (.iconst 1, 1) := by decide +kernel
theorem dX5_isFar_48 : decode cX5_isFar 48 = .ok (.goto 4, 3) := by decide +kernel
theorem dX5_isFar_51 : decode cX5_isFar 51 = .ok (.iconst 0, 1) := by decide +kernel
theorem dX5_isFar_52 : decode cX5_isFar 52 = .ok (.ireturn, 1) := by decide +kernel
theorem dX5_notePoints_0 : decode cX5_notePoints 0 = .ok (.iconst 0, 1) := by decide +kernel
theorem dX5_notePoints_1 : decode cX5_notePoints 1 = .ok (.istore 4, 2) := by decide +kernel
theorem dX5_notePoints_3 : decode cX5_notePoints 3 = .ok (.iload 4, 2) := by decide +kernel
theorem dX5_notePoints_5 : decode cX5_notePoints 5 = .ok (.bipush 40, 2) := by decide +kernel
theorem dX5_notePoints_7 : decode cX5_notePoints 7 = .ok (.if_icmp .ge 32, 3) := by decide +kernel
theorem dX5_notePoints_10 : decode cX5_notePoints 10 = .ok (.aload_n 0, 1) := by decide +kernel
theorem dX5_notePoints_11 : decode cX5_notePoints 11 = .ok (.getfield 38, 3) := by decide +kernel
theorem dX5_notePoints_14 : decode cX5_notePoints 14 = .ok (.iload_n 1, 1) := by decide +kernel
theorem dX5_notePoints_15 : decode cX5_notePoints 15 = .ok (.iload_n 2, 1) := by decide +kernel
theorem dX5_notePoints_16 : decode cX5_notePoints 16 = .ok (.iload_n 3, 1) := by decide +kernel
theorem dX5_notePoints_17 : decode cX5_notePoints 17 = .ok (.iload 4, 2) := by decide +kernel
theorem dX5_notePoints_19 : decode cX5_notePoints 19 = .ok (.invokevirtual 77, 3) := by decide +kernel
theorem dX5_notePoints_22 : decode cX5_notePoints 22 = .ok (.ifCond .eq 11, 3) := by decide +kernel
theorem dX5_notePoints_25 : decode cX5_notePoints 25 = .ok (.aload_n 0, 1) := by decide +kernel
theorem dX5_notePoints_26 : decode cX5_notePoints 26 = .ok (.iconst (-1), 1) := by decide +kernel
theorem dX5_notePoints_27 : decode cX5_notePoints 27 = .ok (.iload 4, 2) := by decide +kernel
theorem dX5_notePoints_29 : decode cX5_notePoints 29 = .ok (.iconst (-1), 1) := by decide +kernel
theorem dX5_notePoints_30 : decode cX5_notePoints 30 = .ok (.invokevirtual 56, 3) := by decide +kernel
theorem dX5_notePoints_33 : decode cX5_notePoints 33 = .ok (.iinc 4 1, 3) := by decide +kernel
theorem dX5_notePoints_36 : decode cX5_notePoints 36 = .ok (.goto (-33), 3) := by decide +kernel
theorem dX5_notePoints_39 : decode cX5_notePoints 39 = .ok (.return_, 1) := by decide +kernel
theorem dX5_note_0 : decode cX5_note 0 = .ok (.aload_n 0, 1) := by decide +kernel
theorem dX5_note_1 : decode cX5_note 1 = .ok (.getfield 21, 3) := by decide +kernel
theorem dX5_note_4 : decode cX5_note 4 = .ok (.bipush 40, 2) := by decide +kernel
theorem dX5_note_6 : decode cX5_note 6 = .ok (.if_icmp .ge 43, 3) := by decide +kernel
theorem dX5_note_9 : decode cX5_note 9 = .ok (.aload_n 0, 1) := by decide +kernel
theorem dX5_note_10 : decode cX5_note 10 = .ok (.getfield 9, 3) := by decide +kernel
theorem dX5_note_13 : decode cX5_note 13 = .ok (.aload_n 0, 1) := by decide +kernel
theorem dX5_note_14 : decode cX5_note 14 = .ok (.getfield 21, 3) := by decide +kernel
theorem dX5_note_17 : decode cX5_note 17 = .ok (.iload_n 1, 1) := by decide +kernel
theorem dX5_note_18 : decode cX5_note 18 = .ok (.iastore, 1) := by decide +kernel
theorem dX5_note_19 : decode cX5_note 19 = .ok (.aload_n 0, 1) := by decide +kernel
theorem dX5_note_20 : decode cX5_note 20 = .ok (.getfield 15, 3) := by decide +kernel
theorem dX5_note_23 : decode cX5_note 23 = .ok (.aload_n 0, 1) := by decide +kernel
theorem dX5_note_24 : decode cX5_note 24 = .ok (.getfield 21, 3) := by decide +kernel
theorem dX5_note_27 : decode cX5_note 27 = .ok (.iload_n 2, 1) := by decide +kernel
theorem dX5_note_28 : decode cX5_note 28 = .ok (.iastore, 1) := by decide +kernel
theorem dX5_note_29 : decode cX5_note 29 = .ok (.aload_n 0, 1) := by decide +kernel
theorem dX5_note_30 : decode cX5_note 30 = .ok (.getfield 18, 3) := by decide +kernel
theorem dX5_note_33 : decode cX5_note 33 = .ok (.aload_n 0, 1) := by decide +kernel
theorem dX5_note_34 : decode cX5_note 34 = .ok (.getfield 21, 3) := by decide +kernel
theorem dX5_note_37 : decode cX5_note 37 = .ok (.iload_n 3, 1) := by decide +kernel
theorem dX5_note_38 : decode cX5_note 38 = .ok (.iastore, 1) := by decide +kernel
theorem dX5_note_39 : decode cX5_note 39 = .ok (.aload_n 0, 1) := by decide +kernel
theorem dX5_note_40 : decode cX5_note 40 = .ok (.dup, 1) := by decide +kernel
theorem dX5_note_41 : decode cX5_note 41 = .ok (.getfield 21, 3) := by decide +kernel
theorem dX5_note_44 : decode cX5_note 44 = .ok (.iconst 1, 1) := by decide +kernel
theorem dX5_note_45 : decode cX5_note 45 = .ok (.iadd, 1) := by decide +kernel
theorem dX5_note_46 : decode cX5_note 46 = .ok (.putfield 21, 3) := by decide +kernel
theorem dX5_note_49 : decode cX5_note 49 = .ok (.return_, 1) := by decide +kernel
theorem dJ9_abs_0f7a4_0 : decode cJ9_abs_0f7a4 0 = .ok (.iload_n 0, 1) := by decide +kernel
theorem dJ9_abs_0f7a4_1 : decode cJ9_abs_0f7a4 1 = .ok (.ifCond .ge 8, 3) := by decide +kernel
theorem dJ9_abs_0f7a4_4 : decode cJ9_abs_0f7a4 4 = .ok (.iload_n 0, 1) := by decide +kernel
theorem dJ9_abs_0f7a4_5 : decode cJ9_abs_0f7a4 5 = .ok (.ineg, 1) := by decide +kernel
theorem dJ9_abs_0f7a4_6 : decode cJ9_abs_0f7a4 6 = .ok (.goto 4, 3) := by decide +kernel
theorem dJ9_abs_0f7a4_9 : decode cJ9_abs_0f7a4 9 = .ok (.iload_n 0, 1) := by decide +kernel
theorem dJ9_abs_0f7a4_10 : decode cJ9_abs_0f7a4 10 = .ok (.ireturn, 1) := by decide +kernel
theorem dJ9_abs_067f4_0 : decode cJ9_abs_067f4 0 = .ok (.lload_n 0, 1) := by decide +kernel
theorem dJ9_abs_067f4_1 : decode cJ9_abs_067f4 1 = .ok (.lconst 0, 1) := by decide +kernel
theorem dJ9_abs_067f4_2 : decode cJ9_abs_067f4 2 = .ok (.lcmp, 1) := by decide +kernel
theorem dJ9_abs_067f4_3 : decode cJ9_abs_067f4 3 = .ok (.ifCond .ge 8, 3) := by decide +kernel
theorem dJ9_abs_067f4_6 : decode cJ9_abs_067f4 6 = .ok (.lload_n 0, 1) := by decide +kernel
theorem dJ9_abs_067f4_7 : decode cJ9_abs_067f4 7 = .ok (.lneg, 1) := by decide +kernel
theorem dJ9_abs_067f4_8 : decode cJ9_abs_067f4 8 = .ok (.goto 4, 3) := by decide +kernel
theorem dJ9_abs_067f4_11 : decode cJ9_abs_067f4 11 = .ok (.lload_n 0, 1) := by decide +kernel
theorem dJ9_abs_067f4_12 : decode cJ9_abs_067f4 12 = .ok (.lreturn, 1) := by decide +kernel
theorem dJ9_max_7cf53_0 : decode cJ9_max_7cf53 0 = .ok (.iload_n 0, 1) := by decide +kernel
theorem dJ9_max_7cf53_1 : decode cJ9_max_7cf53 1 = .ok (.iload_n 1, 1) := by decide +kernel
theorem dJ9_max_7cf53_2 : decode cJ9_max_7cf53 2 = .ok (.if_icmp .lt 7, 3) := by decide +kernel
theorem dJ9_max_7cf53_5 : decode cJ9_max_7cf53 5 = .ok (.iload_n 0, 1) := by decide +kernel
theorem dJ9_max_7cf53_6 : decode cJ9_max_7cf53 6 = .ok (.goto 4, 3) := by decide +kernel
theorem dJ9_max_7cf53_9 : decode cJ9_max_7cf53 9 = .ok (.iload_n 1, 1) := by decide +kernel
theorem dJ9_max_7cf53_10 : decode cJ9_max_7cf53 10 = .ok (.ireturn, 1) := by decide +kernel
end
section
theorem dX6_init_0 : decode cX6_init 0 = .ok (.aload_n 0, 1) := by decide +kernel
theorem dX6_init_1 : decode cX6_init 1 = .ok (.invokespecial 1, 3) := by decide +kernel
theorem dX6_init_4 : decode cX6_init 4 = .ok (.aload_n 0, 1) := by decide +kernel
theorem dX6_init_5 : decode cX6_init 5 = .ok (.new 7, 3) := by decide +kernel
theorem dX6_init_8 : decode cX6_init 8 = .ok (.dup, 1) := by decide +kernel
theorem dX6_init_9 : decode cX6_init 9 = .ok (.invokespecial 9, 3) := by decide +kernel
theorem dX6_init_12 : decode cX6_init 12 = .ok (.putfield 10, 3) := by decide +kernel
theorem dX6_init_15 : decode cX6_init 15 = .ok (.aload_n 0, 1) := by decide +kernel
theorem dX6_init_16 : decode cX6_init 16 = .ok (.new 16, 3) := by decide +kernel
theorem dX6_init_19 : decode cX6_init 19 = .ok (.dup, 1) := by decide +kernel
theorem dX6_init_20 : decode cX6_init 20 = .ok (.aload_n 0, 1) := by decide +kernel
theorem dX6_init_21 : decode cX6_init 21 = .ok (.getfield 10, 3) := by decide +kernel
theorem dX6_init_24 : decode cX6_init 24 = .ok (.invokespecial 18, 3) := by decide +kernel
theorem dX6_init_27 : decode cX6_init 27 = .ok (.putfield 21, 3) := by decide +kernel
theorem dX6_init_30 : decode cX6_init 30 = .ok (.aload_n 0, 1) := by decide +kernel
theorem dX6_init_31 : decode cX6_init 31 = .ok (.new 25, 3) := by decide +kernel
theorem dX6_init_34 : decode cX6_init 34 = .ok (.dup, 1) := by decide +kernel
theorem dX6_init_35 : decode cX6_init 35 = .ok (.invokespecial 27, 3) := by decide +kernel
theorem dX6_init_38 : decode cX6_init 38 = .ok (.putfield 28, 3) := by decide +kernel
theorem dX6_init_41 : decode cX6_init 41 = .ok (.aload_n 0, 1) := by decide +kernel
theorem dX6_init_42 : decode cX6_init 42 = .ok (.getfield 28, 3) := by decide +kernel
theorem dX6_init_45 : decode cX6_init 45 = .ok (.iconst 0, 1) := by decide +kernel
theorem dX6_init_46 : decode cX6_init 46 = .ok (.iconst 0, 1) := by decide +kernel
theorem dX6_init_47 : decode cX6_init 47 = .ok (.lconst 1, 1) := by decide +kernel
theorem dX6_init_48 : decode cX6_init 48 = .ok (.invokevirtual 32, 3) := by decide +kernel
theorem dX6_init_51 : decode cX6_init 51 = .ok (.aload_n 0, 1) := by decide +kernel
theorem dX6_init_52 : decode cX6_init 52 = .ok (.new 36, 3) := by decide +kernel
theorem dX6_init_55 : decode cX6_init 55 = .ok (.dup, 1) := by decide +kernel
theorem dX6_init_56 : decode cX6_init 56 = .ok (.aload_n 0, 1) := by decide +kernel
theorem dX6_init_57 : decode cX6_init 57 = .ok (.getfield 28, 3) := by decide +kernel
theorem dX6_init_60 : decode cX6_init 60 = .ok (.invokespecial 38, 3) := by decide +kernel
theorem dX6_init_63 : decode cX6_init 63 = .ok (.putfield 41, 3) := by decide +kernel
theorem dX6_init_66 : decode cX6_init 66 = .ok (.aload_n 0, 1) := by decide +kernel
theorem dX6_init_67 : decode cX6_init 67 = .ok (.new 45, 3) := by decide +kernel
theorem dX6_init_70 : decode cX6_init 70 = .ok (.dup, 1) := by decide +kernel
theorem dX6_init_71 : decode cX6_init 71 = .ok (.aload_n 0, 1) := by decide +kernel
theorem dX6_init_72 : decode cX6_init 72 = .ok (.getfield 10, 3) := by decide +kernel
theorem dX6_init_75 : decode cX6_init 75 = .ok (.aload_n 0, 1) := by decide +kernel
theorem dX6_init_76 : decode cX6_init 76 = .ok (.getfield 21, 3) := by decide +kernel
theorem dX6_init_79 : decode cX6_init 79 = .ok (.invokespecial 47, 3) := by decide +kernel
theorem dX6_init_82 : decode cX6_init 82 = .ok (.putfield 50, 3) := by decide +kernel
theorem dX6_init_85 : decode cX6_init 85 = .ok (.aload_n 0, 1) := by decide +kernel
theorem dX6_init_86 : decode cX6_init 86 = .ok (.new 54, 3) := by decide +kernel
theorem dX6_init_89 : decode cX6_init 89 = .ok (.dup, 1) := by decide +kernel
theorem dX6_init_90 : decode cX6_init 90 = .ok (.aload_n 0, 1) := by decide +kernel
theorem dX6_init_91 : decode cX6_init 91 = .ok (.getfield 10, 3) := by decide +kernel
theorem dX6_init_94 : decode cX6_init 94 = .ok (.aload_n 0, 1) := by decide +kernel
theorem dX6_init_95 : decode cX6_init 95 = .ok (.getfield 21, 3) := by decide +kernel
theorem dX6_init_98 : decode cX6_init 98 = .ok (.aload_n 0, 1) := by decide +kernel
theorem dX6_init_99 : decode cX6_init 99 = .ok (.getfield 41, 3) := by decide +kernel
theorem dX6_init_102 : decode cX6_init 102 = .ok (.invokespecial 56, 3) := by decide +kernel
theorem dX6_init_105 : decode cX6_init 105 = .ok (.putfield 59, 3) := by decide +kernel
theorem dX6_init_108 : decode cX6_init 108 = .ok (.return_, 1) := by decide +kernel
theorem dX6_point_0 : decode cX6_point 0 = .ok (.iload_n 1, 1) := by decide +kernel
theorem dX6_point_1 : decode cX6_point 1 = .ok (.iload_n 2, 1) := by decide +kernel
theorem dX6_point_2 : decode cX6_point 2 = .ok (.invokestatic 63, 3) := by decide +kernel
theorem dX6_point_5 : decode cX6_point 5 = .ok (.ifCond .eq 10, 3) := by decide +kernel
theorem dX6_point_8 : decode cX6_point 8 = .ok (.iload_n 3, 1) := by decide +kernel
theorem dX6_point_9 : decode cX6_point 9 = .ok (.invokestatic 67, 3) := by decide +kernel
theorem dX6_point_12 : decode cX6_point 12 = .ok (.ifCond .ne 6, 3) := by decide +kernel
theorem dX6_point_15 : decode cX6_point 15 = .ok (.bipush (-2), 2) := by decide +kernel
theorem dX6_point_17 : decode cX6_point 17 = .ok (.ireturn, 1) := by decide +kernel
theorem dX6_point_18 : decode cX6_point 18 = .ok (.aload_n 0, 1) := by decide +kernel
theorem dX6_point_19 : decode cX6_point 19 = .ok (.getfield 10, 3) := by decide +kernel
theorem dX6_point_22 : decode cX6_point 22 = .ok (.invokevirtual 71, 3) := by decide +kernel
theorem dX6_point_25 : decode cX6_point 25 = .ok (.istore 4, 2) := by decide +kernel
theorem dX6_point_27 : decode cX6_point 27 = .ok (.iload 4, 2) := by decide +kernel
theorem dX6_point_29 : decode cX6_point 29 = .ok (.iconst (-1), 1) := by decide +kernel
theorem dX6_point_30 : decode cX6_point 30 = .ok (.if_icmp .ne 6, 3) := by decide +kernel
theorem dX6_point_33 : decode cX6_point 33 = .ok (.bipush (-4), 2) := by decide +kernel
theorem dX6_point_35 : decode cX6_point 35 = .ok (.ireturn, 1) := by decide +kernel
theorem dX6_point_36 : decode cX6_point 36 = .ok (.aload_n 0, 1) := by decide +kernel
theorem dX6_point_37 : decode cX6_point 37 = .ok (.getfield 10, 3) := by decide +kernel
theorem dX6_point_40 : decode cX6_point 40 = .ok (.iload 4, 2) := by decide +kernel
theorem dX6_point_42 : decode cX6_point 42 = .ok (.iload_n 1, 1) := by decide +kernel
theorem dX6_point_43 : decode cX6_point 43 = .ok (.iload_n 2, 1) := by decide +kernel
theorem dX6_point_44 : decode cX6_point 44 = .ok (.iload_n 3, 1) := by decide +kernel
theorem dX6_point_45 : decode cX6_point 45 = .ok (.invokevirtual 75, 3) := by decide +kernel
theorem dX6_point_48 : decode cX6_point 48 = .ok (.aload_n 0, 1) := by decide +kernel
theorem dX6_point_49 : decode cX6_point 49 = .ok (.getfield 21, 3) := by decide +kernel
theorem dX6_point_52 : decode cX6_point 52 = .ok (.iload_n 1, 1) := by decide +kernel
theorem dX6_point_53 : decode cX6_point 53 = .ok (.iload_n 2, 1) := by decide +kernel
theorem dX6_point_54 : decode cX6_point 54 = .ok (.invokevirtual 79, 3) := by decide +kernel
theorem dX6_point_57 : decode cX6_point 57 = .ok (.iload 4, 2) := by decide +kernel
theorem dX6_point_59 : decode cX6_point 59 = .ok (.ireturn, 1) := by decide +kernel
theorem dX6_take_0 : decode cX6_take 0 = .ok (.aload_n 0, 1) := by decide +kernel
theorem dX6_take_1 : decode cX6_take 1 = .ok (.getfield 10, 3) := by decide +kernel
theorem dX6_take_4 : decode cX6_take 4 = .ok (.iload_n 1, 1) := by decide +kernel
theorem dX6_take_5 : decode cX6_take 5 = .ok (.invokevirtual 83, 3) := by decide +kernel
theorem dX6_take_8 : decode cX6_take 8 = .ok (.ifCond .ne 6, 3) := by decide +kernel
theorem dX6_take_11 : decode cX6_take 11 = .ok (.bipush (-2), 2) := by decide +kernel
theorem dX6_take_13 : decode cX6_take 13 = .ok (.ireturn, 1) := by decide +kernel
theorem dX6_take_14 : decode cX6_take 14 = .ok (.aload_n 0, 1) := by decide +kernel
theorem dX6_take_15 : decode cX6_take 15 = .ok (.getfield 21, 3) := by decide +kernel
theorem dX6_take_18 : decode cX6_take 18 = .ok (.aload_n 0, 1) := by decide +kernel
theorem dX6_take_19 : decode cX6_take 19 = .ok (.getfield 10, 3) := by decide +kernel
theorem dX6_take_22 : decode cX6_take 22 = .ok (.getfield 86, 3) := by decide +kernel
theorem dX6_take_25 : decode cX6_take 25 = .ok (.iload_n 1, 1) := by decide +kernel
theorem dX6_take_26 : decode cX6_take 26 = .ok (.iaload, 1) := by decide +kernel
theorem dX6_take_27 : decode cX6_take 27 = .ok (.aload_n 0, 1) := by decide +kernel
theorem dX6_take_28 : decode cX6_take 28 = .ok (.getfield 10, 3) := by decide +kernel
theorem dX6_take_31 : decode cX6_take 31 = .ok (.getfield 90, 3) := by decide +kernel
theorem dX6_take_34 : decode cX6_take 34 = .ok (.iload_n 1, 1) := by decide +kernel
theorem dX6_take_35 : decode cX6_take 35 = .ok (.iaload, 1) := by decide +kernel
theorem dX6_take_36 : decode cX6_take 36 = .ok (.invokevirtual 93, 3) := by decide +kernel
theorem dX6_take_39 : decode cX6_take 39 = .ok (.aload_n 0, 1) := by decide +kernel
theorem dX6_take_40 : decode cX6_take 40 = .ok (.getfield 10, 3) := by decide +kernel
theorem dX6_take_43 : decode cX6_take 43 = .ok (.iload_n 1, 1) := by decide +kernel
theorem dX6_take_44 : decode cX6_take 44 = .ok (.invokevirtual 96, 3) := by decide +kernel
theorem dX6_take_47 : decode cX6_take 47 = .ok (.aload_n 0, 1) := by decide +kernel
theorem dX6_take_48 : decode cX6_take 48 = .ok (.getfield 10, 3) := by decide +kernel
theorem dX6_take_51 : decode cX6_take 51 = .ok (.getfield 100, 3) := by decide +kernel
theorem dX6_take_54 : decode cX6_take 54 = .ok (.ireturn, 1) := by decide +kernel
theorem dX6_move_0 : decode cX6_move 0 = .ok (.aload_n 0, 1) := by decide +kernel
theorem dX6_move_1 : decode cX6_move 1 = .ok (.getfield 10, 3) := by decide +kernel
theorem dX6_move_4 : decode cX6_move 4 = .ok (.iload_n 1, 1) := by decide +kernel
theorem dX6_move_5 : decode cX6_move 5 = .ok (.invokevirtual 83, 3) := by decide +kernel
theorem dX6_move_8 : decode cX6_move 8 = .ok (.ifCond .eq 11, 3) := by decide +kernel
theorem dX6_move_11 : decode cX6_move 11 = .ok (.iload_n 2, 1) := by decide +kernel
theorem dX6_move_12 : decode cX6_move 12 = .ok (.iload_n 3, 1) := by decide +kernel
theorem dX6_move_13 : decode cX6_move 13 = .ok (.invokestatic 63, 3) := by decide +kernel
theorem dX6_move_16 : decode cX6_move 16 = .ok (.ifCond .ne 6, 3) := by decide +kernel
theorem dX6_move_19 : decode cX6_move 19 = .ok (.bipush (-2), 2) := by decide +kernel
theorem dX6_move_21 : decode cX6_move 21 = .ok (.ireturn, 1) := by decide +kernel
theorem dX6_move_22 : decode cX6_move 22 = .ok (.aload_n 0, 1) := by decide +kernel
theorem dX6_move_23 : decode cX6_move 23 = .ok (.getfield 21, 3) := by decide +kernel
theorem dX6_move_26 : decode cX6_move 26 = .ok (.aload_n 0, 1) := by decide +kernel
theorem dX6_move_27 : decode cX6_move 27 = .ok (.getfield 10, 3) := by decide +kernel
theorem dX6_move_30 : decode cX6_move 30 = .ok (.getfield 86, 3) := by decide +kernel
theorem dX6_move_33 : decode cX6_move 33 = .ok (.iload_n 1, 1) := by decide +kernel
theorem dX6_move_34 : decode cX6_move 34 = .ok (.iaload, 1) := by decide +kernel
theorem dX6_move_35 : decode cX6_move 35 = .ok (.aload_n 0, 1) := by decide +kernel
theorem dX6_move_36 : decode cX6_move 36 = .ok (.getfield 10, 3) := by decide +kernel
theorem dX6_move_39 : decode cX6_move 39 = .ok (.getfield 90, 3) := by decide +kernel
theorem dX6_move_42 : decode cX6_move 42 = .ok (.iload_n 1, 1) := by decide +kernel
theorem dX6_move_43 : decode cX6_move 43 = .ok (.iaload, 1) := by decide +kernel
theorem dX6_move_44 : decode cX6_move 44 = .ok (.invokevirtual 93, 3) := by decide +kernel
theorem dX6_move_47 : decode cX6_move 47 = .ok (.aload_n 0, 1) := by decide +kernel
theorem dX6_move_48 : decode cX6_move 48 = .ok (.getfield 10, 3) := by decide +kernel
theorem dX6_move_51 : decode cX6_move 51 = .ok (.iload_n 1, 1) := by decide +kernel
theorem dX6_move_52 : decode cX6_move 52 = .ok (.iload_n 2, 1) := by decide +kernel
theorem dX6_move_53 : decode cX6_move 53 = .ok (.iload_n 3, 1) := by decide +kernel
theorem dX6_move_54 : decode cX6_move 54 = .ok (.invokevirtual 104, 3) := by decide +kernel
theorem dX6_move_57 : decode cX6_move 57 = .ok (.aload_n 0, 1) := by decide +kernel
theorem dX6_move_58 : decode cX6_move 58 = .ok (.getfield 21, 3) := by decide +kernel
theorem dX6_move_61 : decode cX6_move 61 = .ok (.iload_n 2, 1) := by decide +kernel
theorem dX6_move_62 : decode cX6_move 62 = .ok (.iload_n 3, 1) := by decide +kernel
theorem dX6_move_63 : decode cX6_move 63 = .ok (.invokevirtual 79, 3) := by decide +kernel
theorem dX6_move_66 : decode cX6_move 66 = .ok (.iconst 1, 1) := by decide +kernel
theorem dX6_move_67 : decode cX6_move 67 = .ok (.ireturn, 1) := by decide +kernel
theorem dX6_weigh_0 : decode cX6_weigh 0 = .ok (.aload_n 0, 1) := by decide +kernel
theorem dX6_weigh_1 : decode cX6_weigh 1 = .ok (.getfield 10, 3) := by decide +kernel
theorem dX6_weigh_4 : decode cX6_weigh 4 = .ok (.iload_n 1, 1) := by decide +kernel
theorem dX6_weigh_5 : decode cX6_weigh 5 = .ok (.invokevirtual 83, 3) := by decide +kernel
theorem dX6_weigh_8 : decode cX6_weigh 8 = .ok (.ifCond .eq 10, 3) := by decide +kernel
theorem dX6_weigh_11 : decode cX6_weigh 11 = .ok (.iload_n 2, 1) := by decide +kernel
theorem dX6_weigh_12 : decode cX6_weigh 12 = .ok (.invokestatic 67, 3) := by decide +kernel
theorem dX6_weigh_15 : decode cX6_weigh 15 = .ok (.ifCond .ne 7, 3) := by decide +kernel
theorem dX6_weigh_18 : decode cX6_weigh 18 = .ok (.sipush (-2000), 3) := by decide +kernel
theorem dX6_weigh_21 : decode cX6_weigh 21 = .ok (.ireturn, 1) := by decide +kernel
theorem dX6_weigh_22 : decode cX6_weigh 22 = .ok (.aload_n 0, 1) := by decide +kernel
theorem dX6_weigh_23 : decode cX6_weigh 23 = .ok (.getfield 10, 3) := by decide +kernel
theorem dX6_weigh_26 : decode cX6_weigh 26 = .ok (.getfield 108, 3) := by decide +kernel
theorem dX6_weigh_29 : decode cX6_weigh 29 = .ok (.iload_n 1, 1) := by decide +kernel
theorem dX6_weigh_30 : decode cX6_weigh 30 = .ok (.iaload, 1) := by decide +kernel
theorem dX6_weigh_31 : decode cX6_weigh 31 = .ok (.istore_n 3, 1) := by decide +kernel
theorem dX6_weigh_32 : decode cX6_weigh 32 = .ok (.aload_n 0, 1) := by decide +kernel
theorem dX6_weigh_33 : decode cX6_weigh 33 = .ok (.getfield 10, 3) := by decide +kernel
theorem dX6_weigh_36 : decode cX6_weigh 36 = .ok (.getfield 108, 3) := by decide +kernel
theorem dX6_weigh_39 : decode cX6_weigh 39 = .ok (.iload_n 1, 1) := by decide +kernel
theorem dX6_weigh_40 : decode cX6_weigh 40 = .ok (.iload_n 2, 1) := by decide +kernel
theorem dX6_weigh_41 : decode cX6_weigh 41 = .ok (.iastore, 1) := by decide +kernel
theorem dX6_weigh_42 : decode cX6_weigh 42 = .ok (.iload_n 3, 1) := by decide +kernel
theorem dX6_weigh_43 : decode cX6_weigh 43 = .ok (.ireturn, 1) := by decide +kernel
theorem dX6_pace_0 : decode cX6_pace 0 = .ok (.aload_n 0, 1) := by decide +kernel
theorem dX6_pace_1 : decode cX6_pace 1 = .ok (.getfield 10, 3) := by decide +kernel
theorem dX6_pace_4 : decode cX6_pace 4 = .ok (.iload_n 1, 1) := by decide +kernel
theorem dX6_pace_5 : decode cX6_pace 5 = .ok (.invokevirtual 83, 3) := by decide +kernel
theorem dX6_pace_8 : decode cX6_pace 8 = .ok (.ifCond .eq 17, 3) := by decide +kernel
theorem dX6_pace_11 : decode cX6_pace 11 = .ok (.iload_n 2, 1) := by decide +kernel
theorem dX6_pace_12 : decode cX6_pace 12 = .ok (.invokestatic 111, 3) := by decide +kernel
theorem dX6_pace_15 : decode cX6_pace 15 = .ok (.ifCond .eq 10, 3) := by decide +kernel
theorem dX6_pace_18 : decode cX6_pace 18 = .ok (.iload_n 3, 1) := by decide +kernel
theorem dX6_pace_19 : decode cX6_pace 19 = .ok (.invokestatic 111, 3) := by decide +kernel
theorem dX6_pace_22 : decode cX6_pace 22 = .ok (.ifCond .ne 6, 3) := by decide +kernel
theorem dX6_pace_25 : decode cX6_pace 25 = .ok (.bipush (-2), 2) := by decide +kernel
theorem dX6_pace_27 : decode cX6_pace 27 = .ok (.ireturn, 1) := by decide +kernel
theorem dX6_pace_28 : decode cX6_pace 28 = .ok (.aload_n 0, 1) := by decide +kernel
theorem dX6_pace_29 : decode cX6_pace 29 = .ok (.getfield 10, 3) := by decide +kernel
theorem dX6_pace_32 : decode cX6_pace 32 = .ok (.iload_n 1, 1) := by decide +kernel
theorem dX6_pace_33 : decode cX6_pace 33 = .ok (.iload_n 2, 1) := by decide +kernel
theorem dX6_pace_34 : decode cX6_pace 34 = .ok (.iload_n 3, 1) := by decide +kernel
theorem dX6_pace_35 : decode cX6_pace 35 = .ok (.invokevirtual 114, 3) := by decide +kernel
theorem dX6_pace_38 : decode cX6_pace 38 = .ok (.iconst 1, 1) := by decide +kernel
theorem dX6_pace_39 : decode cX6_pace 39 = .ok (.ireturn, 1) := by decide +kernel
theorem dX6_at_0 : decode cX6_at 0 = .ok (.aload_n 0, 1) := by decide +kernel
theorem dX6_at_1 : decode cX6_at 1 = .ok (.getfield 10, 3) := by decide +kernel
theorem dX6_at_4 : decode cX6_at 4 = .ok (.iload_n 1, 1) := by decide +kernel
theorem dX6_at_5 : decode cX6_at 5 = .ok (.invokevirtual 83, 3) := by decide +kernel
theorem dX6_at_8 : decode cX6_at 8 = .ok (.ifCond .ne 7, 3) := by decide +kernel
theorem dX6_at_11 : decode cX6_at 11 = .ok (.sipush (-2000), 3) := by decide +kernel
theorem dX6_at_14 : decode cX6_at 14 = .ok (.ireturn, 1) := by decide +kernel
theorem dX6_at_15 : decode cX6_at 15 = .ok (.aload_n 0, 1) := by decide +kernel
theorem dX6_at_16 : decode cX6_at 16 = .ok (.getfield 10, 3) := by decide +kernel
theorem dX6_at_19 : decode cX6_at 19 = .ok (.iload_n 1, 1) := by decide +kernel
theorem dX6_at_20 : decode cX6_at 20 = .ok (.iload_n 2, 1) := by decide +kernel
theorem dX6_at_21 : decode cX6_at 21 = .ok (.invokevirtual 117, 3) := by decide +kernel
theorem dX6_at_24 : decode cX6_at 24 = .ok (.ireturn, 1) := by decide +kernel
theorem dX6_kernel_0 : decode cX6_kernel 0 = .ok (.iload_n 1, 1) := by decide +kernel
theorem dX6_kernel_1 : decode cX6_kernel 1 = .ok (.iload_n 2, 1) := by decide +kernel
theorem dX6_kernel_2 : decode cX6_kernel 2 = .ok (.invokestatic 121, 3) := by decide +kernel
theorem dX6_kernel_5 : decode cX6_kernel 5 = .ok (.ifCond .eq 15, 3) := by decide +kernel
theorem dX6_kernel_8 : decode cX6_kernel 8 = .ok (.iload_n 3, 1) := by decide +kernel
theorem dX6_kernel_9 : decode cX6_kernel 9 = .ok (.bipush (-9), 2) := by decide +kernel
theorem dX6_kernel_11 : decode cX6_kernel 11 = .ok (.if_icmp .lt 9, 3) := by decide +kernel
theorem dX6_kernel_14 : decode cX6_kernel 14 = .ok (.iload_n 3, 1) := by decide +kernel
theorem dX6_kernel_15 : decode cX6_kernel 15 = .ok (.bipush 9, 2) := by decide +kernel
theorem dX6_kernel_17 : decode cX6_kernel 17 = .ok (.if_icmp .le 7, 3) := by decide +kernel
theorem dX6_kernel_20 : decode cX6_kernel 20 = .ok (.sipush (-2000), 3) := by decide +kernel
theorem dX6_kernel_23 : decode cX6_kernel 23 = .ok (.ireturn, 1) := by decide +kernel
theorem dX6_kernel_24 : decode cX6_kernel 24 = .ok (.aload_n 0, 1) := by decide +kernel
theorem dX6_kernel_25 : decode cX6_kernel 25 = .ok (.getfield 28, 3) := by decide +kernel
theorem dX6_kernel_28 : decode cX6_kernel 28 = .ok (.iload_n 1, 1) := by decide +kernel
theorem dX6_kernel_29 : decode cX6_kernel 29 = .ok (.iload_n 2, 1) := by decide +kernel
theorem dX6_kernel_30 : decode cX6_kernel 30 = .ok (.invokevirtual 124, 3) := by decide +kernel
theorem dX6_kernel_33 : decode cX6_kernel 33 = .ok (.l2i, 1) := by decide +kernel
theorem dX6_kernel_34 : decode cX6_kernel 34 = .ok (.istore 4, 2) := by decide +kernel
theorem dX6_kernel_36 : decode cX6_kernel 36 = .ok (.aload_n 0, 1) := by decide +kernel
theorem dX6_kernel_37 : decode cX6_kernel 37 = .ok (.getfield 28, 3) := by decide +kernel
theorem dX6_kernel_40 : decode cX6_kernel 40 = .ok (.iload_n 1, 1) := by decide +kernel
theorem dX6_kernel_41 : decode cX6_kernel 41 = .ok (.iload_n 2, 1) := by decide +kernel
theorem dX6_kernel_42 : decode cX6_kernel 42 = .ok (.iload_n 3, 1) := by decide +kernel
theorem dX6_kernel_43 : decode cX6_kernel 43 = .ok (.i2l, 1) := by decide +kernel
theorem dX6_kernel_44 : decode cX6_kernel 44 = .ok (.invokevirtual 32, 3) := by decide +kernel
theorem dX6_kernel_47 : decode cX6_kernel 47 = .ok (.iload 4, 2) := by decide +kernel
theorem dX6_kernel_49 : decode cX6_kernel 49 = .ok (.ireturn, 1) := by decide +kernel
theorem dX6_capacity_0 : decode cX6_capacity 0 = .ok (.iload_n 1, 1) := by decide +kernel
theorem dX6_capacity_1 : decode cX6_capacity 1 = .ok (.iconst 1, 1) := by decide +kernel
theorem dX6_capacity_2 : decode cX6_capacity 2 = .ok (.if_icmp .lt 9, 3) := by decide +kernel
theorem dX6_capacity_5 : decode cX6_capacity 5 = .ok (.iload_n 1, 1) := by decide +kernel
theorem dX6_capacity_6 : decode cX6_capacity 6 = .ok (.bipush 8, 2) := by decide +kernel
theorem dX6_capacity_8 : decode cX6_capacity 8 = .ok (.if_icmp .le 6, 3) := by decide +kernel
theorem dX6_capacity_11 : decode cX6_capacity 11 = .ok (.bipush (-2), 2) := by decide +kernel
theorem dX6_capacity_13 : decode cX6_capacity 13 = .ok (.ireturn, 1) := by decide +kernel
theorem dX6_capacity_14 : decode cX6_capacity 14 = .ok (.aload_n 0, 1) := by decide +kernel
theorem dX6_capacity_15 : decode cX6_capacity 15 = .ok (.getfield 21, 3) := by decide +kernel
theorem dX6_capacity_18 : decode cX6_capacity 18 = .ok (.getfield 128, 3) := by decide +kernel
theorem dX6_capacity_21 : decode cX6_capacity 21 = .ok (.istore_n 2, 1) := by decide +kernel
theorem dX6_capacity_22 : decode cX6_capacity 22 = .ok (.aload_n 0, 1) := by decide +kernel
theorem dX6_capacity_23 : decode cX6_capacity 23 = .ok (.getfield 21, 3) := by decide +kernel
theorem dX6_capacity_26 : decode cX6_capacity 26 = .ok (.iload_n 1, 1) := by decide +kernel
theorem dX6_capacity_27 : decode cX6_capacity 27 = .ok (.putfield 128, 3) := by decide +kernel
theorem dX6_capacity_30 : decode cX6_capacity 30 = .ok (.iload_n 2, 1) := by decide +kernel
theorem dX6_capacity_31 : decode cX6_capacity 31 = .ok (.ireturn, 1) := by decide +kernel
theorem dX6_sum_0 : decode cX6_sum 0 = .ok (.iload_n 1, 1) := by decide +kernel
theorem dX6_sum_1 : decode cX6_sum 1 = .ok (.iload_n 2, 1) := by decide +kernel
theorem dX6_sum_2 : decode cX6_sum 2 = .ok (.invokestatic 63, 3) := by decide +kernel
theorem dX6_sum_5 : decode cX6_sum 5 = .ok (.ifCond .ne 7, 3) := by decide +kernel
theorem dX6_sum_8 : decode cX6_sum 8 = .ok (.ldc2_w 131, 3) := by decide +kernel
theorem dX6_sum_11 : decode cX6_sum 11 = .ok (.lreturn, 1) := by decide +kernel
theorem dX6_sum_12 : decode cX6_sum 12 = .ok (.lconst 0, 1) := by decide +kernel
theorem dX6_sum_13 : decode cX6_sum 13 = .ok (.lstore_n 3, 1) := by decide +kernel
theorem dX6_sum_14 : decode cX6_sum 14 = .ok (.iconst 0, 1) := by decide +kernel
theorem dX6_sum_15 : decode cX6_sum 15 = .ok (.istore 5, 2) := by decide +kernel
theorem dX6_sum_17 : decode cX6_sum 17 = .ok (.iload 5, 2) := by decide +kernel
theorem dX6_sum_19 : decode cX6_sum 19 = .ok (.bipush 40, 2) := by decide +kernel
theorem dX6_sum_21 : decode cX6_sum 21 = .ok (.if_icmp .ge 33, 3) := by decide +kernel
theorem dX6_sum_24 : decode cX6_sum 24 = .ok (.aload_n 0, 1) := by decide +kernel
theorem dX6_sum_25 : decode cX6_sum 25 = .ok (.getfield 10, 3) := by decide +kernel
theorem dX6_sum_28 : decode cX6_sum 28 = .ok (.getfield 133, 3) := by decide +kernel
theorem dX6_sum_31 : decode cX6_sum 31 = .ok (.iload 5, 2) := by decide +kernel
theorem dX6_sum_33 : decode cX6_sum 33 = .ok (.baload, 1) := by decide +kernel
theorem dX6_sum_34 : decode cX6_sum 34 = .ok (.ifCond .eq 14, 3) := by decide +kernel
theorem dX6_sum_37 : decode cX6_sum 37 = .ok (.lload_n 3, 1) := by decide +kernel
theorem dX6_sum_38 : decode cX6_sum 38 = .ok (.aload_n 0, 1) := by decide +kernel
theorem dX6_sum_39 : decode cX6_sum 39 = .ok (.iload 5, 2) := by decide +kernel
theorem dX6_sum_41 : decode cX6_sum 41 = .ok (.iload_n 1, 1) := by decide +kernel
theorem dX6_sum_42 : decode cX6_sum 42 = .ok (.iload_n 2, 1) := by decide +kernel
theorem dX6_sum_43 : decode cX6_sum 43 = .ok (.invokevirtual 137, 3) := by decide +kernel
theorem dX6_sum_46 : decode cX6_sum 46 = .ok (.ladd, 1) := by decide +kernel
theorem dX6_sum_47 : decode cX6_sum 47 = .ok (.lstore_n 3, 1) := by decide +kernel
theorem dX6_sum_48 : decode cX6_sum 48 = .ok (.iinc 5 1, 3) := by decide +kernel
theorem dX6_sum_51 : decode cX6_sum 51 = .ok (.goto (-34), 3) := by decide +kernel
theorem dX6_sum_54 : decode cX6_sum 54 = .ok (.lload_n 3, 1) := by decide +kernel
theorem dX6_sum_55 : decode cX6_sum 55 = .ok (.lreturn, 1) := by decide +kernel
theorem dX6_across_0 : decode cX6_across 0 = .ok (.iload_n 1, 1) := by decide +kernel
theorem dX6_across_1 : decode cX6_across 1 = .ok (.iload_n 2, 1) := by decide +kernel
theorem dX6_across_2 : decode cX6_across 2 = .ok (.invokestatic 63, 3) := by decide +kernel
theorem dX6_across_5 : decode cX6_across 5 = .ok (.ifCond .eq 20, 3) := by decide +kernel
theorem dX6_across_8 : decode cX6_across 8 = .ok (.iload_n 3, 1) := by decide +kernel
theorem dX6_across_9 : decode cX6_across 9 = .ok (.ifCond .lt 16, 3) := by decide +kernel
theorem dX6_across_12 : decode cX6_across 12 = .ok (.iload_n 3, 1) := by decide +kernel
theorem dX6_across_13 : decode cX6_across 13 = .ok (.iconst 4, 1) := by decide +kernel
theorem dX6_across_14 : decode cX6_across 14 = .ok (.if_icmp .gt 11, 3) := by decide +kernel
theorem dX6_across_17 : decode cX6_across 17 = .ok (.iload 4, 2) := by decide +kernel
theorem dX6_across_19 : decode cX6_across 19 = .ok (.invokestatic 141, 3) := by decide +kernel
theorem dX6_across_22 : decode cX6_across 22 = .ok (.ifCond .ne 7, 3) := by decide +kernel
theorem dX6_across_25 : decode cX6_across 25 = .ok (.ldc2_w 131, 3) := by decide +kernel
theorem dX6_across_28 : decode cX6_across 28 = .ok (.lreturn, 1) := by decide +kernel
theorem dX6_across_29 : decode cX6_across 29 = .ok (.aload_n 0, 1) := by decide +kernel
theorem dX6_across_30 : decode cX6_across 30 = .ok (.getfield 50, 3) := by decide +kernel
theorem dX6_across_33 : decode cX6_across 33 = .ok (.iload_n 1, 1) := by decide +kernel
theorem dX6_across_34 : decode cX6_across 34 = .ok (.iload_n 2, 1) := by decide +kernel
theorem dX6_across_35 : decode cX6_across 35 = .ok (.iload 4, 2) := by decide +kernel
theorem dX6_across_37 : decode cX6_across 37 = .ok (.invokevirtual 144, 3) := by decide +kernel
theorem dX6_across_40 : decode cX6_across 40 = .ok (.iload 5, 2) := by decide +kernel
theorem dX6_across_42 : decode cX6_across 42 = .ok (.tableswitch 51 0 2 #[26, 34, 42], 26) := by decide +kernel
theorem dX6_across_68 : decode cX6_across 68 = .ok (.aload_n 0, 1) := by decide +kernel
theorem dX6_across_69 : decode cX6_across 69 = .ok (.iload_n 1, 1) := by decide +kernel
theorem dX6_across_70 : decode cX6_across 70 = .ok (.iload_n 2, 1) := by decide +kernel
theorem dX6_across_71 : decode cX6_across 71 = .ok (.iload_n 3, 1) := by decide +kernel
theorem dX6_across_72 : decode cX6_across 72 = .ok (.invokevirtual 147, 3) := by decide +kernel
theorem dX6_across_75 : decode cX6_across 75 = .ok (.lreturn, 1) := by decide +kernel
theorem dX6_across_76 : decode cX6_across 76 = .ok (.aload_n 0, 1) := by decide +kernel
theorem dX6_across_77 : decode cX6_across 77 = .ok (.iload_n 1, 1) := by decide +kernel
theorem dX6_across_78 : decode cX6_across 78 = .ok (.iload_n 2, 1) := by decide +kernel
theorem dX6_across_79 : decode cX6_across 79 = .ok (.iload_n 3, 1) := by decide +kernel
theorem dX6_across_80 : decode cX6_across 80 = .ok (.invokevirtual 150, 3) := by decide +kernel
theorem dX6_across_83 : decode cX6_across 83 = .ok (.lreturn, 1) := by decide +kernel
theorem dX6_across_84 : decode cX6_across 84 = .ok (.aload_n 0, 1) := by decide +kernel
theorem dX6_across_85 : decode cX6_across 85 = .ok (.getfield 50, 3) := by decide +kernel
theorem dX6_across_88 : decode cX6_across 88 = .ok (.getfield 153, 3) := by decide +kernel
theorem dX6_across_91 : decode cX6_across 91 = .ok (.i2l, 1) := by decide +kernel
theorem dX6_across_92 : decode cX6_across 92 = .ok (.lreturn, 1) := by decide +kernel
theorem dX6_across_93 : decode cX6_across 93 = .ok (.ldc2_w 131, 3) := by decide +kernel
theorem dX6_across_96 : decode cX6_across 96 = .ok (.lreturn, 1) := by decide +kernel
theorem dX6_order_0 : decode cX6_order 0 = .ok (.iload_n 1, 1) := by decide +kernel
theorem dX6_order_1 : decode cX6_order 1 = .ok (.iload_n 2, 1) := by decide +kernel
theorem dX6_order_2 : decode cX6_order 2 = .ok (.invokestatic 63, 3) := by decide +kernel
theorem dX6_order_5 : decode cX6_order 5 = .ok (.ifCond .eq 17, 3) := by decide +kernel
theorem dX6_order_8 : decode cX6_order 8 = .ok (.iload_n 3, 1) := by decide +kernel
theorem dX6_order_9 : decode cX6_order 9 = .ok (.invokestatic 141, 3) := by decide +kernel
theorem dX6_order_12 : decode cX6_order 12 = .ok (.ifCond .eq 10, 3) := by decide +kernel
theorem dX6_order_15 : decode cX6_order 15 = .ok (.lload 4, 2) := by decide +kernel
theorem dX6_order_17 : decode cX6_order 17 = .ok (.lconst 0, 1) := by decide +kernel
theorem dX6_order_18 : decode cX6_order 18 = .ok (.lcmp, 1) := by decide +kernel
theorem dX6_order_19 : decode cX6_order 19 = .ok (.ifCond .ge 6, 3) := by decide +kernel
theorem dX6_order_22 : decode cX6_order 22 = .ok (.bipush (-2), 2) := by decide +kernel
theorem dX6_order_24 : decode cX6_order 24 = .ok (.ireturn, 1) := by decide +kernel
theorem dX6_order_25 : decode cX6_order 25 = .ok (.aload_n 0, 1) := by decide +kernel
theorem dX6_order_26 : decode cX6_order 26 = .ok (.getfield 50, 3) := by decide +kernel
theorem dX6_order_29 : decode cX6_order 29 = .ok (.iload_n 1, 1) := by decide +kernel
theorem dX6_order_30 : decode cX6_order 30 = .ok (.iload_n 2, 1) := by decide +kernel
theorem dX6_order_31 : decode cX6_order 31 = .ok (.iload_n 3, 1) := by decide +kernel
theorem dX6_order_32 : decode cX6_order 32 = .ok (.invokevirtual 144, 3) := by decide +kernel
theorem dX6_order_35 : decode cX6_order 35 = .ok (.iconst 0, 1) := by decide +kernel
theorem dX6_order_36 : decode cX6_order 36 = .ok (.istore 6, 2) := by decide +kernel
theorem dX6_order_38 : decode cX6_order 38 = .ok (.iload 6, 2) := by decide +kernel
theorem dX6_order_40 : decode cX6_order 40 = .ok (.iconst 4, 1) := by decide +kernel
theorem dX6_order_41 : decode cX6_order 41 = .ok (.if_icmp .ge 26, 3) := by decide +kernel
theorem dX6_order_44 : decode cX6_order 44 = .ok (.aload_n 0, 1) := by decide +kernel
theorem dX6_order_45 : decode cX6_order 45 = .ok (.iload_n 1, 1) := by decide +kernel
theorem dX6_order_46 : decode cX6_order 46 = .ok (.iload_n 2, 1) := by decide +kernel
theorem dX6_order_47 : decode cX6_order 47 = .ok (.iload 6, 2) := by decide +kernel
theorem dX6_order_49 : decode cX6_order 49 = .ok (.invokevirtual 150, 3) := by decide +kernel
theorem dX6_order_52 : decode cX6_order 52 = .ok (.lload 4, 2) := by decide +kernel
theorem dX6_order_54 : decode cX6_order 54 = .ok (.lcmp, 1) := by decide +kernel
theorem dX6_order_55 : decode cX6_order 55 = .ok (.ifCond .gt 6, 3) := by decide +kernel
theorem dX6_order_58 : decode cX6_order 58 = .ok (.iload 6, 2) := by decide +kernel
theorem dX6_order_60 : decode cX6_order 60 = .ok (.ireturn, 1) := by decide +kernel
theorem dX6_order_61 : decode cX6_order 61 = .ok (.iinc 6 1, 3) := by decide +kernel
theorem dX6_order_64 : decode cX6_order 64 = .ok (.goto (-26), 3) := by decide +kernel
theorem dX6_order_67 : decode cX6_order 67 = .ok (.iconst 4, 1) := by decide +kernel
theorem dX6_order_68 : decode cX6_order 68 = .ok (.ireturn, 1) := by decide +kernel
theorem dX6_way_0 : decode cX6_way 0 = .ok (.iload_n 1, 1) := by decide +kernel
theorem dX6_way_1 : decode cX6_way 1 = .ok (.iload_n 2, 1) := by decide +kernel
theorem dX6_way_2 : decode cX6_way 2 = .ok (.invokestatic 63, 3) := by decide +kernel
theorem dX6_way_5 : decode cX6_way 5 = .ok (.ifCond .eq 26, 3) := by decide +kernel
theorem dX6_way_8 : decode cX6_way 8 = .ok (.iload_n 3, 1) := by decide +kernel
theorem dX6_way_9 : decode cX6_way 9 = .ok (.invokestatic 141, 3) := by decide +kernel
theorem dX6_way_12 : decode cX6_way 12 = .ok (.ifCond .eq 19, 3) := by decide +kernel
theorem dX6_way_15 : decode cX6_way 15 = .ok (.iload 4, 2) := by decide +kernel
theorem dX6_way_17 : decode cX6_way 17 = .ok (.ifCond .lt 14, 3) := by decide +kernel
theorem dX6_way_20 : decode cX6_way 20 = .ok (.iload 5, 2) := by decide +kernel
theorem dX6_way_22 : decode cX6_way 22 = .ok (.ifCond .lt 9, 3) := by decide +kernel
theorem dX6_way_25 : decode cX6_way 25 = .ok (.iload 5, 2) := by decide +kernel
theorem dX6_way_27 : decode cX6_way 27 = .ok (.iconst 2, 1) := by decide +kernel
theorem dX6_way_28 : decode cX6_way 28 = .ok (.if_icmp .le 6, 3) := by decide +kernel
theorem dX6_way_31 : decode cX6_way 31 = .ok (.bipush (-2), 2) := by decide +kernel
theorem dX6_way_33 : decode cX6_way 33 = .ok (.ireturn, 1) := by decide +kernel
theorem dX6_way_34 : decode cX6_way 34 = .ok (.aload_n 0, 1) := by decide +kernel
theorem dX6_way_35 : decode cX6_way 35 = .ok (.getfield 50, 3) := by decide +kernel
theorem dX6_way_38 : decode cX6_way 38 = .ok (.iload_n 1, 1) := by decide +kernel
theorem dX6_way_39 : decode cX6_way 39 = .ok (.iload_n 2, 1) := by decide +kernel
theorem dX6_way_40 : decode cX6_way 40 = .ok (.iload_n 3, 1) := by decide +kernel
theorem dX6_way_41 : decode cX6_way 41 = .ok (.invokevirtual 144, 3) := by decide +kernel
theorem dX6_way_44 : decode cX6_way 44 = .ok (.aload_n 0, 1) := by decide +kernel
theorem dX6_way_45 : decode cX6_way 45 = .ok (.getfield 50, 3) := by decide +kernel
theorem dX6_way_48 : decode cX6_way 48 = .ok (.iload 4, 2) := by decide +kernel
theorem dX6_way_50 : decode cX6_way 50 = .ok (.iload 5, 2) := by decide +kernel
theorem dX6_way_52 : decode cX6_way 52 = .ok (.invokevirtual 156, 3) := by decide +kernel
theorem dX6_way_55 : decode cX6_way 55 = .ok (.ireturn, 1) := by decide +kernel
theorem dX6_box_0 : decode cX6_box 0 = .ok (.aload_n 0, 1) := by decide +kernel
theorem dX6_box_1 : decode cX6_box 1 = .ok (.getfield 21, 3) := by decide +kernel
theorem dX6_box_4 : decode cX6_box 4 = .ok (.iload_n 1, 1) := by decide +kernel
theorem dX6_box_5 : decode cX6_box 5 = .ok (.iload_n 2, 1) := by decide +kernel
theorem dX6_box_6 : decode cX6_box 6 = .ok (.iload_n 3, 1) := by decide +kernel
theorem dX6_box_7 : decode cX6_box 7 = .ok (.invokevirtual 157, 3) := by decide +kernel
theorem dX6_box_10 : decode cX6_box 10 = .ok (.ifCond .ne 6, 3) := by decide +kernel
theorem dX6_box_13 : decode cX6_box 13 = .ok (.bipush (-2), 2) := by decide +kernel
theorem dX6_box_15 : decode cX6_box 15 = .ok (.ireturn, 1) := by decide +kernel
theorem dX6_box_16 : decode cX6_box 16 = .ok (.iload 4, 2) := by decide +kernel
theorem dX6_box_18 : decode cX6_box 18 = .ok (.tableswitch 74 0 2 #[26, 37, 55], 26) := by decide +kernel
theorem dX6_box_44 : decode cX6_box 44 = .ok (.aload_n 0, 1) := by decide +kernel
theorem dX6_box_45 : decode cX6_box 45 = .ok (.getfield 21, 3) := by decide +kernel
theorem dX6_box_48 : decode cX6_box 48 = .ok (.iload_n 1, 1) := by decide +kernel
theorem dX6_box_49 : decode cX6_box 49 = .ok (.iload_n 2, 1) := by decide +kernel
theorem dX6_box_50 : decode cX6_box 50 = .ok (.iload_n 3, 1) := by decide +kernel
theorem dX6_box_51 : decode cX6_box 51 = .ok (.invokevirtual 161, 3) := by decide +kernel
theorem dX6_box_54 : decode cX6_box 54 = .ok (.ireturn, 1) := by decide +kernel
theorem dX6_box_55 : decode cX6_box 55 = .ok (.aload_n 0, 1) := by decide +kernel
theorem dX6_box_56 : decode cX6_box 56 = .ok (.getfield 21, 3) := by decide +kernel
theorem dX6_box_59 : decode cX6_box 59 = .ok (.iload_n 1, 1) := by decide +kernel
theorem dX6_box_60 : decode cX6_box 60 = .ok (.iload_n 2, 1) := by decide +kernel
theorem dX6_box_61 : decode cX6_box 61 = .ok (.iload_n 3, 1) := by decide +kernel
theorem dX6_box_62 : decode cX6_box 62 = .ok (.invokevirtual 165, 3) := by decide +kernel
theorem dX6_box_65 : decode cX6_box 65 = .ok (.aload_n 0, 1) := by decide +kernel
theorem dX6_box_66 : decode cX6_box 66 = .ok (.getfield 21, 3) := by decide +kernel
theorem dX6_box_69 : decode cX6_box 69 = .ok (.getfield 168, 3) := by decide +kernel
theorem dX6_box_72 : decode cX6_box 72 = .ok (.ireturn, 1) := by decide +kernel
theorem dX6_box_73 : decode cX6_box 73 = .ok (.aload_n 0, 1) := by decide +kernel
theorem dX6_box_74 : decode cX6_box 74 = .ok (.getfield 21, 3) := by decide +kernel
theorem dX6_box_77 : decode cX6_box 77 = .ok (.iload_n 1, 1) := by decide +kernel
theorem dX6_box_78 : decode cX6_box 78 = .ok (.iload_n 2, 1) := by decide +kernel
theorem dX6_box_79 : decode cX6_box 79 = .ok (.iload_n 3, 1) := by decide +kernel
theorem dX6_box_80 : decode cX6_box 80 = .ok (.invokevirtual 171, 3) := by decide +kernel
theorem dX6_box_83 : decode cX6_box 83 = .ok (.ifCond .eq 7, 3) := by decide +kernel
theorem dX6_box_86 : decode cX6_box 86 = .ok (.iconst 1, 1) := by decide +kernel
theorem dX6_box_87 : decode cX6_box 87 = .ok (.goto 4, 3) := by decide +kernel
theorem dX6_box_90 : decode cX6_box 90 = .ok (.iconst 0, 1) := by decide +kernel
theorem dX6_box_91 : decode cX6_box 91 = .ok (.ireturn, 1) := by decide +kernel
theorem dX6_box_92 : decode cX6_box 92 = .ok (.bipush (-2), 2) := by decide +kernel
theorem dX6_box_94 : decode cX6_box 94 = .ok (.ireturn, 1) := by decide +kernel
theorem dX6_moment_0 : decode cX6_moment 0 = .ok (.aload_n 0, 1) := by decide +kernel
theorem dX6_moment_1 : decode cX6_moment 1 = .ok (.getfield 21, 3) := by decide +kernel
theorem dX6_moment_4 : decode cX6_moment 4 = .ok (.iload_n 1, 1) := by decide +kernel
theorem dX6_moment_5 : decode cX6_moment 5 = .ok (.iload_n 2, 1) := by decide +kernel
theorem dX6_moment_6 : decode cX6_moment 6 = .ok (.iload_n 3, 1) := by decide +kernel
theorem dX6_moment_7 : decode cX6_moment 7 = .ok (.invokevirtual 157, 3) := by decide +kernel
theorem dX6_moment_10 : decode cX6_moment 10 = .ok (.ifCond .eq 13, 3) := by decide +kernel
theorem dX6_moment_13 : decode cX6_moment 13 = .ok (.iload 4, 2) := by decide +kernel
theorem dX6_moment_15 : decode cX6_moment 15 = .ok (.iload 5, 2) := by decide +kernel
theorem dX6_moment_17 : decode cX6_moment 17 = .ok (.invokestatic 121, 3) := by decide +kernel
theorem dX6_moment_20 : decode cX6_moment 20 = .ok (.ifCond .ne 7, 3) := by decide +kernel
theorem dX6_moment_23 : decode cX6_moment 23 = .ok (.ldc2_w 131, 3) := by decide +kernel
theorem dX6_moment_26 : decode cX6_moment 26 = .ok (.lreturn, 1) := by decide +kernel
theorem dX6_moment_27 : decode cX6_moment 27 = .ok (.aload_n 0, 1) := by decide +kernel
theorem dX6_moment_28 : decode cX6_moment 28 = .ok (.getfield 21, 3) := by decide +kernel
theorem dX6_moment_31 : decode cX6_moment 31 = .ok (.iload_n 1, 1) := by decide +kernel
theorem dX6_moment_32 : decode cX6_moment 32 = .ok (.iload_n 2, 1) := by decide +kernel
theorem dX6_moment_33 : decode cX6_moment 33 = .ok (.iload_n 3, 1) := by decide +kernel
theorem dX6_moment_34 : decode cX6_moment 34 = .ok (.invokevirtual 165, 3) := by decide +kernel
theorem dX6_moment_37 : decode cX6_moment 37 = .ok (.aload_n 0, 1) := by decide +kernel
theorem dX6_moment_38 : decode cX6_moment 38 = .ok (.getfield 21, 3) := by decide +kernel
theorem dX6_moment_41 : decode cX6_moment 41 = .ok (.getfield 174, 3) := by decide +kernel
theorem dX6_moment_44 : decode cX6_moment 44 = .ok (.iload 4, 2) := by decide +kernel
theorem dX6_moment_46 : decode cX6_moment 46 = .ok (.iload 5, 2) := by decide +kernel
theorem dX6_moment_48 : decode cX6_moment 48 = .ok (.invokestatic 178, 3) := by decide +kernel
theorem dX6_moment_51 : decode cX6_moment 51 = .ok (.laload, 1) := by decide +kernel
theorem dX6_moment_52 : decode cX6_moment 52 = .ok (.lreturn, 1) := by decide +kernel
theorem dX6_leaf_0 : decode cX6_leaf 0 = .ok (.iload_n 1, 1) := by decide +kernel
theorem dX6_leaf_1 : decode cX6_leaf 1 = .ok (.iload_n 2, 1) := by decide +kernel
theorem dX6_leaf_2 : decode cX6_leaf 2 = .ok (.invokestatic 63, 3) := by decide +kernel
theorem dX6_leaf_5 : decode cX6_leaf 5 = .ok (.ifCond .ne 6, 3) := by decide +kernel
theorem dX6_leaf_8 : decode cX6_leaf 8 = .ok (.bipush (-2), 2) := by decide +kernel
theorem dX6_leaf_10 : decode cX6_leaf 10 = .ok (.ireturn, 1) := by decide +kernel
theorem dX6_leaf_11 : decode cX6_leaf 11 = .ok (.aload_n 0, 1) := by decide +kernel
theorem dX6_leaf_12 : decode cX6_leaf 12 = .ok (.getfield 21, 3) := by decide +kernel
theorem dX6_leaf_15 : decode cX6_leaf 15 = .ok (.iload_n 1, 1) := by decide +kernel
theorem dX6_leaf_16 : decode cX6_leaf 16 = .ok (.iload_n 2, 1) := by decide +kernel
theorem dX6_leaf_17 : decode cX6_leaf 17 = .ok (.invokevirtual 181, 3) := by decide +kernel
theorem dX6_leaf_20 : decode cX6_leaf 20 = .ok (.ireturn, 1) := by decide +kernel
theorem dX6_nearest_0 : decode cX6_nearest 0 = .ok (.iload_n 1, 1) := by decide +kernel
theorem dX6_nearest_1 : decode cX6_nearest 1 = .ok (.iload_n 2, 1) := by decide +kernel
theorem dX6_nearest_2 : decode cX6_nearest 2 = .ok (.invokestatic 63, 3) := by decide +kernel
theorem dX6_nearest_5 : decode cX6_nearest 5 = .ok (.ifCond .eq 7, 3) := by decide +kernel
theorem dX6_nearest_8 : decode cX6_nearest 8 = .ok (.iload_n 3, 1) := by decide +kernel
theorem dX6_nearest_9 : decode cX6_nearest 9 = .ok (.ifCond .ge 6, 3) := by decide +kernel
theorem dX6_nearest_12 : decode cX6_nearest 12 = .ok (.bipush (-2), 2) := by decide +kernel
theorem dX6_nearest_14 : decode cX6_nearest 14 = .ok (.ireturn, 1) := by decide +kernel
theorem dX6_nearest_15 : decode cX6_nearest 15 = .ok (.iconst 0, 1) := by decide +kernel
theorem dX6_nearest_16 : decode cX6_nearest 16 = .ok (.istore 4, 2) := by decide +kernel
theorem dX6_nearest_18 : decode cX6_nearest 18 = .ok (.iload 4, 2) := by decide +kernel
theorem dX6_nearest_20 : decode cX6_nearest 20 = .ok (.bipush 40, 2) := by decide +kernel
theorem dX6_nearest_22 : decode cX6_nearest 22 = .ok (.if_icmp .ge 40, 3) := by decide +kernel
theorem dX6_nearest_25 : decode cX6_nearest 25 = .ok (.aload_n 0, 1) := by decide +kernel
theorem dX6_nearest_26 : decode cX6_nearest 26 = .ok (.getfield 10, 3) := by decide +kernel
theorem dX6_nearest_29 : decode cX6_nearest 29 = .ok (.getfield 133, 3) := by decide +kernel
theorem dX6_nearest_32 : decode cX6_nearest 32 = .ok (.iload 4, 2) := by decide +kernel
theorem dX6_nearest_34 : decode cX6_nearest 34 = .ok (.baload, 1) := by decide +kernel
theorem dX6_nearest_35 : decode cX6_nearest 35 = .ok (.ifCond .eq 21, 3) := by decide +kernel
theorem dX6_nearest_38 : decode cX6_nearest 38 = .ok (.aload_n 0, 1) := by decide +kernel
theorem dX6_nearest_39 : decode cX6_nearest 39 = .ok (.getfield 10, 3) := by decide +kernel
theorem dX6_nearest_42 : decode cX6_nearest 42 = .ok (.iload 4, 2) := by decide +kernel
theorem dX6_nearest_44 : decode cX6_nearest 44 = .ok (.iload_n 1, 1) := by decide +kernel
theorem dX6_nearest_45 : decode cX6_nearest 45 = .ok (.iload_n 2, 1) := by decide +kernel
theorem dX6_nearest_46 : decode cX6_nearest 46 = .ok (.invokevirtual 184, 3) := by decide +kernel
theorem dX6_nearest_49 : decode cX6_nearest 49 = .ok (.iload_n 3, 1) := by decide +kernel
theorem dX6_nearest_50 : decode cX6_nearest 50 = .ok (.if_icmp .ne 6, 3) := by decide +kernel
theorem dX6_nearest_53 : decode cX6_nearest 53 = .ok (.iload 4, 2) := by decide +kernel
theorem dX6_nearest_55 : decode cX6_nearest 55 = .ok (.ireturn, 1) := by decide +kernel
theorem dX6_nearest_56 : decode cX6_nearest 56 = .ok (.iinc 4 1, 3) := by decide +kernel
theorem dX6_nearest_59 : decode cX6_nearest 59 = .ok (.goto (-41), 3) := by decide +kernel
theorem dX6_nearest_62 : decode cX6_nearest 62 = .ok (.iconst (-1), 1) := by decide +kernel
theorem dX6_nearest_63 : decode cX6_nearest 63 = .ok (.ireturn, 1) := by decide +kernel
theorem dX6_step_0 : decode cX6_step 0 = .ok (.iload_n 1, 1) := by decide +kernel
theorem dX6_step_1 : decode cX6_step 1 = .ok (.ifCond .eq 15, 3) := by decide +kernel
theorem dX6_step_4 : decode cX6_step 4 = .ok (.iload_n 1, 1) := by decide +kernel
theorem dX6_step_5 : decode cX6_step 5 = .ok (.bipush (-8), 2) := by decide +kernel
theorem dX6_step_7 : decode cX6_step 7 = .ok (.if_icmp .lt 9, 3) := by decide +kernel
theorem dX6_step_10 : decode cX6_step 10 = .ok (.iload_n 1, 1) := by decide +kernel
theorem dX6_step_11 : decode cX6_step 11 = .ok (.bipush 8, 2) := by decide +kernel
theorem dX6_step_13 : decode cX6_step 13 = .ok (.if_icmp .le 6, 3) := by decide +kernel
theorem dX6_step_16 : decode cX6_step 16 = .ok (.bipush (-2), 2) := by decide +kernel
theorem dX6_step_18 : decode cX6_step 18 = .ok (.ireturn, 1) := by decide +kernel
theorem dX6_step_19 : decode cX6_step 19 = .ok (.iconst 0, 1) := by decide +kernel
theorem dX6_step_20 : decode cX6_step 20 = .ok (.istore_n 2, 1) := by decide +kernel
theorem dX6_step_21 : decode cX6_step 21 = .ok (.iload_n 2, 1) := by decide +kernel
theorem dX6_step_22 : decode cX6_step 22 = .ok (.iload_n 1, 1) := by decide +kernel
theorem dX6_step_23 : decode cX6_step 23 = .ok (.if_icmp .ge 16, 3) := by decide +kernel
theorem dX6_step_26 : decode cX6_step 26 = .ok (.aload_n 0, 1) := by decide +kernel
theorem dX6_step_27 : decode cX6_step 27 = .ok (.getfield 59, 3) := by decide +kernel
theorem dX6_step_30 : decode cX6_step 30 = .ok (.invokevirtual 187, 3) := by decide +kernel
theorem dX6_step_33 : decode cX6_step 33 = .ok (.iinc 2 1, 3) := by decide +kernel
theorem dX6_step_36 : decode cX6_step 36 = .ok (.goto (-15), 3) := by decide +kernel
theorem dX6_step_39 : decode cX6_step 39 = .ok (.iconst 0, 1) := by decide +kernel
theorem dX6_step_40 : decode cX6_step 40 = .ok (.istore_n 2, 1) := by decide +kernel
theorem dX6_step_41 : decode cX6_step 41 = .ok (.iload_n 2, 1) := by decide +kernel
theorem dX6_step_42 : decode cX6_step 42 = .ok (.iload_n 1, 1) := by decide +kernel
theorem dX6_step_43 : decode cX6_step 43 = .ok (.if_icmp .le 16, 3) := by decide +kernel
theorem dX6_step_46 : decode cX6_step 46 = .ok (.aload_n 0, 1) := by decide +kernel
theorem dX6_step_47 : decode cX6_step 47 = .ok (.getfield 59, 3) := by decide +kernel
theorem dX6_step_50 : decode cX6_step 50 = .ok (.invokevirtual 190, 3) := by decide +kernel
theorem dX6_step_53 : decode cX6_step 53 = .ok (.iinc 2 (-1), 3) := by decide +kernel
theorem dX6_step_56 : decode cX6_step 56 = .ok (.goto (-15), 3) := by decide +kernel
theorem dX6_step_59 : decode cX6_step 59 = .ok (.aload_n 0, 1) := by decide +kernel
theorem dX6_step_60 : decode cX6_step 60 = .ok (.getfield 59, 3) := by decide +kernel
theorem dX6_step_63 : decode cX6_step 63 = .ok (.getfield 193, 3) := by decide +kernel
theorem dX6_step_66 : decode cX6_step 66 = .ok (.ireturn, 1) := by decide +kernel
theorem dX6_count_0 : decode cX6_count 0 = .ok (.iload_n 1, 1) := by decide +kernel
theorem dX6_count_1 : decode cX6_count 1 = .ok (.tableswitch 91 0 5 #[39, 47, 59, 67, 75, 83], 39) := by decide +kernel
theorem dX6_count_40 : decode cX6_count 40 = .ok (.aload_n 0, 1) := by decide +kernel
theorem dX6_count_41 : decode cX6_count 41 = .ok (.getfield 10, 3) := by decide +kernel
theorem dX6_count_44 : decode cX6_count 44 = .ok (.getfield 100, 3) := by decide +kernel
theorem dX6_count_47 : decode cX6_count 47 = .ok (.ireturn, 1) := by decide +kernel
theorem dX6_count_48 : decode cX6_count 48 = .ok (.iconst 1, 1) := by decide +kernel
theorem dX6_count_49 : decode cX6_count 49 = .ok (.iconst 4, 1) := by decide +kernel
theorem dX6_count_50 : decode cX6_count 50 = .ok (.aload_n 0, 1) := by decide +kernel
theorem dX6_count_51 : decode cX6_count 51 = .ok (.getfield 21, 3) := by decide +kernel
theorem dX6_count_54 : decode cX6_count 54 = .ok (.invokevirtual 196, 3) := by decide +kernel
theorem dX6_count_57 : decode cX6_count 57 = .ok (.imul, 1) := by decide +kernel
theorem dX6_count_58 : decode cX6_count 58 = .ok (.iadd, 1) := by decide +kernel
theorem dX6_count_59 : decode cX6_count 59 = .ok (.ireturn, 1) := by decide +kernel
theorem dX6_count_60 : decode cX6_count 60 = .ok (.aload_n 0, 1) := by decide +kernel
theorem dX6_count_61 : decode cX6_count 61 = .ok (.getfield 21, 3) := by decide +kernel
theorem dX6_count_64 : decode cX6_count 64 = .ok (.invokevirtual 196, 3) := by decide +kernel
theorem dX6_count_67 : decode cX6_count 67 = .ok (.ireturn, 1) := by decide +kernel
theorem dX6_count_68 : decode cX6_count 68 = .ok (.aload_n 0, 1) := by decide +kernel
theorem dX6_count_69 : decode cX6_count 69 = .ok (.getfield 21, 3) := by decide +kernel
theorem dX6_count_72 : decode cX6_count 72 = .ok (.invokevirtual 199, 3) := by decide +kernel
theorem dX6_count_75 : decode cX6_count 75 = .ok (.ireturn, 1) := by decide +kernel
theorem dX6_count_76 : decode cX6_count 76 = .ok (.aload_n 0, 1) := by decide +kernel
theorem dX6_count_77 : decode cX6_count 77 = .ok (.getfield 59, 3) := by decide +kernel
theorem dX6_count_80 : decode cX6_count 80 = .ok (.getfield 193, 3) := by decide +kernel
theorem dX6_count_83 : decode cX6_count 83 = .ok (.ireturn, 1) := by decide +kernel
theorem dX6_count_84 : decode cX6_count 84 = .ok (.aload_n 0, 1) := by decide +kernel
theorem dX6_count_85 : decode cX6_count 85 = .ok (.getfield 10, 3) := by decide +kernel
theorem dX6_count_88 : decode cX6_count 88 = .ok (.invokevirtual 202, 3) := by decide +kernel
theorem dX6_count_91 : decode cX6_count 91 = .ok (.ireturn, 1) := by decide +kernel
theorem dX6_count_92 : decode cX6_count 92 = .ok (.bipush (-2), 2) := by decide +kernel
theorem dX6_count_94 : decode cX6_count 94 = .ok (.ireturn, 1) := by decide +kernel
theorem dX6_digest_0 : decode cX6_digest 0 = .ok (.ldc2_w 205, 3) := by decide +kernel
theorem dX6_digest_3 : decode cX6_digest 3 = .ok (.lstore_n 1, 1) := by decide +kernel
theorem dX6_digest_4 : decode cX6_digest 4 = .ok (.iconst 0, 1) := by decide +kernel
theorem dX6_digest_5 : decode cX6_digest 5 = .ok (.istore_n 3, 1) := by decide +kernel
theorem dX6_digest_6 : decode cX6_digest 6 = .ok (.iload_n 3, 1) := by decide +kernel
theorem dX6_digest_7 : decode cX6_digest 7 = .ok (.iconst 5, 1) := by decide +kernel
theorem dX6_digest_8 : decode cX6_digest 8 = .ok (.if_icmp .gt 22, 3) := by decide +kernel
theorem dX6_digest_11 : decode cX6_digest 11 = .ok (.ldc2_w 207, 3) := by decide +kernel
theorem dX6_digest_14 : decode cX6_digest 14 = .ok (.lload_n 1, 1) := by decide +kernel
theorem dX6_digest_15 : decode cX6_digest 15 = .ok (.lmul, 1) := by decide +kernel
theorem dX6_digest_16 : decode cX6_digest 16 = .ok (.aload_n 0, 1) := by decide +kernel
theorem dX6_digest_17 : decode cX6_digest 17 = .ok (.iload_n 3, 1) := by decide +kernel
theorem dX6_digest_18 : decode cX6_digest 18 = .ok (.invokevirtual 209, 3) := by decide +kernel
theorem dX6_digest_21 : decode cX6_digest 21 = .ok (.i2l, 1) := by decide +kernel
theorem dX6_digest_22 : decode cX6_digest 22 = .ok (.ladd, 1) := by decide +kernel
theorem dX6_digest_23 : decode cX6_digest 23 = .ok (.lstore_n 1, 1) := by decide +kernel
theorem dX6_digest_24 : decode cX6_digest 24 = .ok (.iinc 3 1, 3) := by decide +kernel
theorem dX6_digest_27 : decode cX6_digest 27 = .ok (.goto (-21), 3) := by decide +kernel
theorem dX6_digest_30 : decode cX6_digest 30 = .ok (.aload_n 0, 1) := by decide +kernel
theorem dX6_digest_31 : decode cX6_digest 31 = .ok (.lload_n 1, 1) := by decide +kernel
theorem dX6_digest_32 : decode cX6_digest 32 = .ok (.invokevirtual 213, 3) := by decide +kernel
theorem dX6_digest_35 : decode cX6_digest 35 = .ok (.lstore_n 1, 1) := by decide +kernel
theorem dX6_digest_36 : decode cX6_digest 36 = .ok (.aload_n 0, 1) := by decide +kernel
theorem dX6_digest_37 : decode cX6_digest 37 = .ok (.lload_n 1, 1) := by decide +kernel
theorem dX6_digest_38 : decode cX6_digest 38 = .ok (.invokevirtual 217, 3) := by decide +kernel
theorem dX6_digest_41 : decode cX6_digest 41 = .ok (.lstore_n 1, 1) := by decide +kernel
theorem dX6_digest_42 : decode cX6_digest 42 = .ok (.ldc2_w 207, 3) := by decide +kernel
theorem dX6_digest_45 : decode cX6_digest 45 = .ok (.lload_n 1, 1) := by decide +kernel
theorem dX6_digest_46 : decode cX6_digest 46 = .ok (.lmul, 1) := by decide +kernel
theorem dX6_digest_47 : decode cX6_digest 47 = .ok (.aload_n 0, 1) := by decide +kernel
theorem dX6_digest_48 : decode cX6_digest 48 = .ok (.getfield 21, 3) := by decide +kernel
theorem dX6_digest_51 : decode cX6_digest 51 = .ok (.getfield 128, 3) := by decide +kernel
theorem dX6_digest_54 : decode cX6_digest 54 = .ok (.i2l, 1) := by decide +kernel
theorem dX6_digest_55 : decode cX6_digest 55 = .ok (.ladd, 1) := by decide +kernel
theorem dX6_digest_56 : decode cX6_digest 56 = .ok (.lstore_n 1, 1) := by decide +kernel
theorem dX6_digest_57 : decode cX6_digest 57 = .ok (.aload_n 0, 1) := by decide +kernel
theorem dX6_digest_58 : decode cX6_digest 58 = .ok (.lload_n 1, 1) := by decide +kernel
theorem dX6_digest_59 : decode cX6_digest 59 = .ok (.invokevirtual 220, 3) := by decide +kernel
theorem dX6_digest_62 : decode cX6_digest 62 = .ok (.lreturn, 1) := by decide +kernel
theorem dX6_digestPoints_0 : decode cX6_digestPoints 0 = .ok (.lload_n 1, 1) := by decide +kernel
theorem dX6_digestPoints_1 : decode cX6_digestPoints 1 = .ok (.lstore_n 3, 1) := by decide +kernel
theorem dX6_digestPoints_2 : decode cX6_digestPoints 2 = .ok (.iconst 0, 1) := by decide +kernel
theorem dX6_digestPoints_3 : decode cX6_digestPoints 3 = .ok (.istore 5, 2) := by decide +kernel
theorem dX6_digestPoints_5 : decode cX6_digestPoints 5 = .ok (.iload 5, 2) := by decide +kernel
theorem dX6_digestPoints_7 : decode cX6_digestPoints 7 = .ok (.bipush 40, 2) := by decide +kernel
theorem dX6_digestPoints_9 : decode cX6_digestPoints 9 = .ok (.if_icmp .ge 66, 3) := by decide +kernel
theorem dX6_digestPoints_12 : decode cX6_digestPoints 12 = .ok (.aload_n 0, 1) := by decide +kernel
theorem dX6_digestPoints_13 : decode cX6_digestPoints 13 = .ok (.getfield 10, 3) := by decide +kernel
theorem dX6_digestPoints_16 : decode cX6_digestPoints 16 = .ok (.getfield 133, 3) := by decide +kernel
theorem dX6_digestPoints_19 : decode cX6_digestPoints 19 = .ok (.iload 5, 2) := by decide +kernel
theorem dX6_digestPoints_21 : decode cX6_digestPoints 21 = .ok (.baload, 1) := by decide +kernel
theorem dX6_digestPoints_22 : decode cX6_digestPoints 22 = .ok (.ifCond .eq 47, 3) := by decide +kernel
theorem dX6_digestPoints_25 : decode cX6_digestPoints 25 = .ok (.ldc2_w 207, 3) := by decide +kernel
theorem dX6_digestPoints_28 : decode cX6_digestPoints 28 = .ok (.lload_n 3, 1) := by decide +kernel
theorem dX6_digestPoints_29 : decode cX6_digestPoints 29 = .ok (.lmul, 1) := by decide +kernel
theorem dX6_digestPoints_30 : decode cX6_digestPoints 30 = .ok (.iload 5, 2) := by decide +kernel
theorem dX6_digestPoints_32 : decode cX6_digestPoints 32 = .ok (.i2l, 1) := by decide +kernel
theorem dX6_digestPoints_33 : decode cX6_digestPoints 33 = .ok (.ladd, 1) := by decide +kernel
theorem dX6_digestPoints_34 : decode cX6_digestPoints 34 = .ok (.lstore_n 3, 1) := by decide +kernel
theorem dX6_digestPoints_35 : decode cX6_digestPoints 35 = .ok (.iconst 0, 1) := by decide +kernel
theorem dX6_digestPoints_36 : decode cX6_digestPoints 36 = .ok (.istore 6, 2) := by decide +kernel
theorem dX6_digestPoints_38 : decode cX6_digestPoints 38 = .ok (.iload 6, 2) := by decide +kernel
theorem dX6_digestPoints_40 : decode cX6_digestPoints 40 = .ok (.iconst 4, 1) := by decide +kernel
theorem dX6_digestPoints_41 : decode cX6_digestPoints 41 = .ok (.if_icmp .gt 28, 3) := by decide +kernel
theorem dX6_digestPoints_44 : decode cX6_digestPoints 44 = .ok (.ldc2_w 207, 3) := by decide +kernel
theorem dX6_digestPoints_47 : decode cX6_digestPoints 47 = .ok (.lload_n 3, 1) := by decide +kernel
theorem dX6_digestPoints_48 : decode cX6_digestPoints 48 = .ok (.lmul, 1) := by decide +kernel
theorem dX6_digestPoints_49 : decode cX6_digestPoints 49 = .ok (.aload_n 0, 1) := by decide +kernel
theorem dX6_digestPoints_50 : decode cX6_digestPoints 50 = .ok (.getfield 10, 3) := by decide +kernel
theorem dX6_digestPoints_53 : decode cX6_digestPoints 53 = .ok (.iload 5, 2) := by decide +kernel
theorem dX6_digestPoints_55 : decode cX6_digestPoints 55 = .ok (.iload 6, 2) := by decide +kernel
theorem dX6_digestPoints_57 : decode cX6_digestPoints 57 = .ok (.invokevirtual 117, 3) := by decide +kernel
theorem dX6_digestPoints_60 : decode cX6_digestPoints 60 = .ok (.i2l, 1) := by decide +kernel
theorem dX6_digestPoints_61 : decode cX6_digestPoints 61 = .ok (.ladd, 1) := by decide +kernel
theorem dX6_digestPoints_62 : decode cX6_digestPoints 62 = .ok (.lstore_n 3, 1) := by decide +kernel
theorem dX6_digestPoints_63 : decode cX6_digestPoints 63 = .ok (.iinc 6 1, 3) := by decide +kernel
theorem dX6_digestPoints_66 : decode cX6_digestPoints 66 = .ok (.goto (-28), 3) := by decide +kernel
theorem dX6_digestPoints_69 : decode cX6_digestPoints 69 = .ok (.iinc 5 1, 3) := by decide +kernel
theorem dX6_digestPoints_72 : decode cX6_digestPoints 72 = .ok (.goto (-67), 3) := by decide +kernel
theorem dX6_digestPoints_75 : decode cX6_digestPoints 75 = .ok (.lload_n 3, 1) := by decide +kernel
theorem dX6_digestPoints_76 : decode cX6_digestPoints 76 = .ok (.lreturn, 1) := by decide +kernel
theorem dX6_digestFactors_0 : decode cX6_digestFactors 0 = .ok (.lload_n 1, 1) := by decide +kernel
theorem dX6_digestFactors_1 : decode cX6_digestFactors 1 = .ok (.lstore_n 3, 1) := by decide +kernel
theorem dX6_digestFactors_2 : decode cX6_digestFactors 2 = .ok (.iconst 0, 1) := by decide +kernel
theorem dX6_digestFactors_3 : decode cX6_digestFactors 3 = .ok (.istore 5, 2) := by decide +kernel
theorem dX6_digestFactors_5 : decode cX6_digestFactors 5 = .ok (.iload 5, 2) := by decide +kernel
theorem dX6_digestFactors_7 : decode cX6_digestFactors 7 = .ok (.iconst 4, 1) := by decide +kernel
theorem dX6_digestFactors_8 : decode cX6_digestFactors 8 = .ok (.if_icmp .gt 45, 3) := by decide +kernel
theorem dX6_digestFactors_11 : decode cX6_digestFactors 11 = .ok (.iconst 0, 1) := by decide +kernel
theorem dX6_digestFactors_12 : decode cX6_digestFactors 12 = .ok (.istore 6, 2) := by decide +kernel
theorem dX6_digestFactors_14 : decode cX6_digestFactors 14 = .ok (.iload 5, 2) := by decide +kernel
theorem dX6_digestFactors_16 : decode cX6_digestFactors 16 = .ok (.iload 6, 2) := by decide +kernel
theorem dX6_digestFactors_18 : decode cX6_digestFactors 18 = .ok (.iadd, 1) := by decide +kernel
theorem dX6_digestFactors_19 : decode cX6_digestFactors 19 = .ok (.iconst 4, 1) := by decide +kernel
theorem dX6_digestFactors_20 : decode cX6_digestFactors 20 = .ok (.if_icmp .gt 27, 3) := by decide +kernel
theorem dX6_digestFactors_23 : decode cX6_digestFactors 23 = .ok (.ldc2_w 207, 3) := by decide +kernel
theorem dX6_digestFactors_26 : decode cX6_digestFactors 26 = .ok (.lload_n 3, 1) := by decide +kernel
theorem dX6_digestFactors_27 : decode cX6_digestFactors 27 = .ok (.lmul, 1) := by decide +kernel
theorem dX6_digestFactors_28 : decode cX6_digestFactors 28 = .ok (.aload_n 0, 1) := by decide +kernel
theorem dX6_digestFactors_29 : decode cX6_digestFactors 29 = .ok (.getfield 28, 3) := by decide +kernel
theorem dX6_digestFactors_32 : decode cX6_digestFactors 32 = .ok (.iload 5, 2) := by decide +kernel
theorem dX6_digestFactors_34 : decode cX6_digestFactors 34 = .ok (.iload 6, 2) := by decide +kernel
theorem dX6_digestFactors_36 : decode cX6_digestFactors 36 = .ok (.invokevirtual 124, 3) := by decide +kernel
theorem dX6_digestFactors_39 : decode cX6_digestFactors 39 = .ok (.ladd, 1) := by decide +kernel
theorem dX6_digestFactors_40 : decode cX6_digestFactors 40 = .ok (.lstore_n 3, 1) := by decide +kernel
theorem dX6_digestFactors_41 : decode cX6_digestFactors 41 = .ok (.iinc 6 1, 3) := by decide +kernel
theorem dX6_digestFactors_44 : decode cX6_digestFactors 44 = .ok (.goto (-30), 3) := by decide +kernel
theorem dX6_digestFactors_47 : decode cX6_digestFactors 47 = .ok (.iinc 5 1, 3) := by decide +kernel
theorem dX6_digestFactors_50 : decode cX6_digestFactors 50 = .ok (.goto (-45), 3) := by decide +kernel
theorem dX6_digestFactors_53 : decode cX6_digestFactors 53 = .ok (.lload_n 3, 1) := by decide +kernel
theorem dX6_digestFactors_54 : decode cX6_digestFactors 54 = .ok (.lreturn, 1) := by decide +kernel
theorem dX6_digestBoxes_0 : decode cX6_digestBoxes 0 = .ok (.lload_n 1, 1) := by decide +kernel
theorem dX6_digestBoxes_1 : decode cX6_digestBoxes 1 = .ok (.lstore_n 3, 1) := by decide +kernel
theorem dX6_digestBoxes_2 : decode cX6_digestBoxes 2 = .ok (.iconst 0, 1) := by decide +kernel
theorem dX6_digestBoxes_3 : decode cX6_digestBoxes 3 = .ok (.istore 5, 2) := by decide +kernel
theorem dX6_digestBoxes_5 : decode cX6_digestBoxes 5 = .ok (.iload 5, 2) := by decide +kernel
theorem dX6_digestBoxes_7 : decode cX6_digestBoxes 7 = .ok (.iconst 5, 1) := by decide +kernel
theorem dX6_digestBoxes_8 : decode cX6_digestBoxes 8 = .ok (.if_icmp .gt 75, 3) := by decide +kernel
theorem dX6_digestBoxes_11 : decode cX6_digestBoxes 11 = .ok (.iconst 1, 1) := by decide +kernel
theorem dX6_digestBoxes_12 : decode cX6_digestBoxes 12 = .ok (.iload 5, 2) := by decide +kernel
theorem dX6_digestBoxes_14 : decode cX6_digestBoxes 14 = .ok (.ishl, 1) := by decide +kernel
theorem dX6_digestBoxes_15 : decode cX6_digestBoxes 15 = .ok (.istore 6, 2) := by decide +kernel
theorem dX6_digestBoxes_17 : decode cX6_digestBoxes 17 = .ok (.iconst 0, 1) := by decide +kernel
theorem dX6_digestBoxes_18 : decode cX6_digestBoxes 18 = .ok (.istore 7, 2) := by decide +kernel
theorem dX6_digestBoxes_20 : decode cX6_digestBoxes 20 = .ok (.iload 7, 2) := by decide +kernel
theorem dX6_digestBoxes_22 : decode cX6_digestBoxes 22 = .ok (.iload 6, 2) := by decide +kernel
theorem dX6_digestBoxes_24 : decode cX6_digestBoxes 24 = .ok (.if_icmp .ge 53, 3) := by decide +kernel
theorem dX6_digestBoxes_27 : decode cX6_digestBoxes 27 = .ok (.iconst 0, 1) := by decide +kernel
theorem dX6_digestBoxes_28 : decode cX6_digestBoxes 28 = .ok (.istore 8, 2) := by decide +kernel
theorem dX6_digestBoxes_30 : decode cX6_digestBoxes 30 = .ok (.iload 8, 2) := by decide +kernel
theorem dX6_digestBoxes_32 : decode cX6_digestBoxes 32 = .ok (.iload 6, 2) := by decide +kernel
theorem dX6_digestBoxes_34 : decode cX6_digestBoxes 34 = .ok (.if_icmp .ge 37, 3) := by decide +kernel
theorem dX6_digestBoxes_37 : decode cX6_digestBoxes 37 = .ok (.aload_n 0, 1) := by decide +kernel
theorem dX6_digestBoxes_38 : decode cX6_digestBoxes 38 = .ok (.getfield 21, 3) := by decide +kernel
theorem dX6_digestBoxes_41 : decode cX6_digestBoxes 41 = .ok (.iload 5, 2) := by decide +kernel
theorem dX6_digestBoxes_43 : decode cX6_digestBoxes 43 = .ok (.iload 8, 2) := by decide +kernel
theorem dX6_digestBoxes_45 : decode cX6_digestBoxes 45 = .ok (.iload 7, 2) := by decide +kernel
theorem dX6_digestBoxes_47 : decode cX6_digestBoxes 47 = .ok (.invokevirtual 157, 3) := by decide +kernel
theorem dX6_digestBoxes_50 : decode cX6_digestBoxes 50 = .ok (.ifCond .eq 15, 3) := by decide +kernel
theorem dX6_digestBoxes_53 : decode cX6_digestBoxes 53 = .ok (.aload_n 0, 1) := by decide +kernel
theorem dX6_digestBoxes_54 : decode cX6_digestBoxes 54 = .ok (.lload_n 3, 1) := by decide +kernel
theorem dX6_digestBoxes_55 : decode cX6_digestBoxes 55 = .ok (.iload 5, 2) := by decide +kernel
theorem dX6_digestBoxes_57 : decode cX6_digestBoxes 57 = .ok (.iload 8, 2) := by decide +kernel
theorem dX6_digestBoxes_59 : decode cX6_digestBoxes 59 = .ok (.iload 7, 2) := by decide +kernel
theorem dX6_digestBoxes_61 : decode cX6_digestBoxes 61 = .ok (.invokevirtual 223, 3) := by decide +kernel
theorem dX6_digestBoxes_64 : decode cX6_digestBoxes 64 = .ok (.lstore_n 3, 1) := by decide +kernel
theorem dX6_digestBoxes_65 : decode cX6_digestBoxes 65 = .ok (.iinc 8 1, 3) := by decide +kernel
theorem dX6_digestBoxes_68 : decode cX6_digestBoxes 68 = .ok (.goto (-38), 3) := by decide +kernel
theorem dX6_digestBoxes_71 : decode cX6_digestBoxes 71 = .ok (.iinc 7 1, 3) := by decide +kernel
theorem dX6_digestBoxes_74 : decode cX6_digestBoxes 74 = .ok (.goto (-54), 3) := by decide +kernel
theorem dX6_digestBoxes_77 : decode cX6_digestBoxes 77 = .ok (.iinc 5 1, 3) := by decide +kernel
theorem dX6_digestBoxes_80 : decode cX6_digestBoxes 80 = .ok (.goto (-75), 3) := by decide +kernel
theorem dX6_digestBoxes_83 : decode cX6_digestBoxes 83 = .ok (.lload_n 3, 1) := by decide +kernel
theorem dX6_digestBoxes_84 : decode cX6_digestBoxes 84 = .ok (.lreturn, 1) := by decide +kernel
theorem dX6_digestMoments_0 : decode cX6_digestMoments 0 = .ok (.aload_n 0, 1) := by decide +kernel
theorem dX6_digestMoments_1 : decode cX6_digestMoments 1 = .ok (.getfield 21, 3) := by decide +kernel
theorem dX6_digestMoments_4 : decode cX6_digestMoments 4 = .ok (.iload_n 3, 1) := by decide +kernel
theorem dX6_digestMoments_5 : decode cX6_digestMoments 5 = .ok (.iload 4, 2) := by decide +kernel
theorem dX6_digestMoments_7 : decode cX6_digestMoments 7 = .ok (.iload 5, 2) := by decide +kernel
theorem dX6_digestMoments_9 : decode cX6_digestMoments 9 = .ok (.invokevirtual 165, 3) := by decide +kernel
theorem dX6_digestMoments_12 : decode cX6_digestMoments 12 = .ok (.ldc2_w 207, 3) := by decide +kernel
theorem dX6_digestMoments_15 : decode cX6_digestMoments 15 = .ok (.lload_n 1, 1) := by decide +kernel
theorem dX6_digestMoments_16 : decode cX6_digestMoments 16 = .ok (.lmul, 1) := by decide +kernel
theorem dX6_digestMoments_17 : decode cX6_digestMoments 17 = .ok (.aload_n 0, 1) := by decide +kernel
theorem dX6_digestMoments_18 : decode cX6_digestMoments 18 = .ok (.getfield 21, 3) := by decide +kernel
theorem dX6_digestMoments_21 : decode cX6_digestMoments 21 = .ok (.getfield 174, 3) := by decide +kernel
theorem dX6_digestMoments_24 : decode cX6_digestMoments 24 = .ok (.iconst 0, 1) := by decide +kernel
theorem dX6_digestMoments_25 : decode cX6_digestMoments 25 = .ok (.iconst 0, 1) := by decide +kernel
theorem dX6_digestMoments_26 : decode cX6_digestMoments 26 = .ok (.invokestatic 178, 3) := by decide +kernel
theorem dX6_digestMoments_29 : decode cX6_digestMoments 29 = .ok (.laload, 1) := by decide +kernel
theorem dX6_digestMoments_30 : decode cX6_digestMoments 30 = .ok (.ladd, 1) := by decide +kernel
theorem dX6_digestMoments_31 : decode cX6_digestMoments 31 = .ok (.lstore 6, 2) := by decide +kernel
theorem dX6_digestMoments_33 : decode cX6_digestMoments 33 = .ok (.ldc2_w 207, 3) := by decide +kernel
theorem dX6_digestMoments_36 : decode cX6_digestMoments 36 = .ok (.lload 6, 2) := by decide +kernel
theorem dX6_digestMoments_38 : decode cX6_digestMoments 38 = .ok (.lmul, 1) := by decide +kernel
theorem dX6_digestMoments_39 : decode cX6_digestMoments 39 = .ok (.aload_n 0, 1) := by decide +kernel
theorem dX6_digestMoments_40 : decode cX6_digestMoments 40 = .ok (.getfield 21, 3) := by decide +kernel
theorem dX6_digestMoments_43 : decode cX6_digestMoments 43 = .ok (.getfield 174, 3) := by decide +kernel
theorem dX6_digestMoments_46 : decode cX6_digestMoments 46 = .ok (.iconst 1, 1) := by decide +kernel
theorem dX6_digestMoments_47 : decode cX6_digestMoments 47 = .ok (.iconst 0, 1) := by decide +kernel
theorem dX6_digestMoments_48 : decode cX6_digestMoments 48 = .ok (.invokestatic 178, 3) := by decide +kernel
theorem dX6_digestMoments_51 : decode cX6_digestMoments 51 = .ok (.laload, 1) := by decide +kernel
theorem dX6_digestMoments_52 : decode cX6_digestMoments 52 = .ok (.ladd, 1) := by decide +kernel
theorem dX6_digestMoments_53 : decode cX6_digestMoments 53 = .ok (.lstore 6, 2) := by decide +kernel
theorem dX6_digestMoments_55 : decode cX6_digestMoments 55 = .ok (.ldc2_w 207, 3) := by decide +kernel
theorem dX6_digestMoments_58 : decode cX6_digestMoments 58 = .ok (.lload 6, 2) := by decide +kernel
theorem dX6_digestMoments_60 : decode cX6_digestMoments 60 = .ok (.lmul, 1) := by decide +kernel
theorem dX6_digestMoments_61 : decode cX6_digestMoments 61 = .ok (.aload_n 0, 1) := by decide +kernel
theorem dX6_digestMoments_62 : decode cX6_digestMoments 62 = .ok (.getfield 21, 3) := by decide +kernel
theorem dX6_digestMoments_65 : decode cX6_digestMoments 65 = .ok (.getfield 174, 3) := by decide +kernel
theorem dX6_digestMoments_68 : decode cX6_digestMoments 68 = .ok (.iconst 0, 1) := by decide +kernel
theorem dX6_digestMoments_69 : decode cX6_digestMoments 69 = .ok (.iconst 1, 1) := by decide +kernel
theorem dX6_digestMoments_70 : decode cX6_digestMoments 70 = .ok (.invokestatic 178, 3) := by decide +kernel
theorem dX6_digestMoments_73 : decode cX6_digestMoments 73 = .ok (.laload, 1) := by decide +kernel
theorem dX6_digestMoments_74 : decode cX6_digestMoments 74 = .ok (.ladd, 1) := by decide +kernel
theorem dX6_digestMoments_75 : decode cX6_digestMoments 75 = .ok (.lreturn, 1) := by decide +kernel
theorem dX6_pullOf_0 : decode cX6_pullOf 0 = .ok (.aload_n 0, 1) := by decide +kernel
theorem dX6_pullOf_1 : decode cX6_pullOf 1 = .ok (.getfield 28, 3) := by decide +kernel
theorem dX6_pullOf_4 : decode cX6_pullOf 4 = .ok (.iload_n 2, 1) := by decide +kernel
theorem dX6_pullOf_5 : decode cX6_pullOf 5 = .ok (.aload_n 0, 1) := by decide +kernel
theorem dX6_pullOf_6 : decode cX6_pullOf 6 = .ok (.getfield 10, 3) := by decide +kernel
theorem dX6_pullOf_9 : decode cX6_pullOf 9 = .ok (.getfield 86, 3) := by decide +kernel
theorem dX6_pullOf_12 : decode cX6_pullOf 12 = .ok (.iload_n 1, 1) := by decide +kernel
theorem dX6_pullOf_13 : decode cX6_pullOf 13 = .ok (.iaload, 1) := by decide +kernel
theorem dX6_pullOf_14 : decode cX6_pullOf 14 = .ok (.isub, 1) := by decide +kernel
theorem dX6_pullOf_15 : decode cX6_pullOf 15 = .ok (.i2l, 1) := by decide +kernel
theorem dX6_pullOf_16 : decode cX6_pullOf 16 = .ok (.iload_n 3, 1) := by decide +kernel
theorem dX6_pullOf_17 : decode cX6_pullOf 17 = .ok (.aload_n 0, 1) := by decide +kernel
theorem dX6_pullOf_18 : decode cX6_pullOf 18 = .ok (.getfield 10, 3) := by decide +kernel
theorem dX6_pullOf_21 : decode cX6_pullOf 21 = .ok (.getfield 90, 3) := by decide +kernel
theorem dX6_pullOf_24 : decode cX6_pullOf 24 = .ok (.iload_n 1, 1) := by decide +kernel
theorem dX6_pullOf_25 : decode cX6_pullOf 25 = .ok (.iaload, 1) := by decide +kernel
theorem dX6_pullOf_26 : decode cX6_pullOf 26 = .ok (.isub, 1) := by decide +kernel
theorem dX6_pullOf_27 : decode cX6_pullOf 27 = .ok (.i2l, 1) := by decide +kernel
theorem dX6_pullOf_28 : decode cX6_pullOf 28 = .ok (.invokevirtual 227, 3) := by decide +kernel
theorem dX6_pullOf_31 : decode cX6_pullOf 31 = .ok (.lstore 4, 2) := by decide +kernel
theorem dX6_pullOf_33 : decode cX6_pullOf 33 = .ok (.bipush 16, 2) := by decide +kernel
theorem dX6_pullOf_35 : decode cX6_pullOf 35 = .ok (.aload_n 0, 1) := by decide +kernel
theorem dX6_pullOf_36 : decode cX6_pullOf 36 = .ok (.getfield 10, 3) := by decide +kernel
theorem dX6_pullOf_39 : decode cX6_pullOf 39 = .ok (.getfield 108, 3) := by decide +kernel
theorem dX6_pullOf_42 : decode cX6_pullOf 42 = .ok (.iload_n 1, 1) := by decide +kernel
theorem dX6_pullOf_43 : decode cX6_pullOf 43 = .ok (.iaload, 1) := by decide +kernel
theorem dX6_pullOf_44 : decode cX6_pullOf 44 = .ok (.imul, 1) := by decide +kernel
theorem dX6_pullOf_45 : decode cX6_pullOf 45 = .ok (.i2l, 1) := by decide +kernel
theorem dX6_pullOf_46 : decode cX6_pullOf 46 = .ok (.lload 4, 2) := by decide +kernel
theorem dX6_pullOf_48 : decode cX6_pullOf 48 = .ok (.lmul, 1) := by decide +kernel
theorem dX6_pullOf_49 : decode cX6_pullOf 49 = .ok (.lreturn, 1) := by decide +kernel
theorem dX6_about_0 : decode cX6_about 0 = .ok (.lconst 0, 1) := by decide +kernel
theorem dX6_about_1 : decode cX6_about 1 = .ok (.lstore 4, 2) := by decide +kernel
theorem dX6_about_3 : decode cX6_about 3 = .ok (.iconst 0, 1) := by decide +kernel
theorem dX6_about_4 : decode cX6_about 4 = .ok (.istore 6, 2) := by decide +kernel
theorem dX6_about_6 : decode cX6_about 6 = .ok (.iload 6, 2) := by decide +kernel
theorem dX6_about_8 : decode cX6_about 8 = .ok (.aload_n 0, 1) := by decide +kernel
theorem dX6_about_9 : decode cX6_about 9 = .ok (.getfield 50, 3) := by decide +kernel
theorem dX6_about_12 : decode cX6_about 12 = .ok (.getfield 153, 3) := by decide +kernel
theorem dX6_about_15 : decode cX6_about 15 = .ok (.if_icmp .ge 61, 3) := by decide +kernel
theorem dX6_about_18 : decode cX6_about 18 = .ok (.aload_n 0, 1) := by decide +kernel
theorem dX6_about_19 : decode cX6_about 19 = .ok (.getfield 50, 3) := by decide +kernel
theorem dX6_about_22 : decode cX6_about 22 = .ok (.getfield 231, 3) := by decide +kernel
theorem dX6_about_25 : decode cX6_about 25 = .ok (.iload 6, 2) := by decide +kernel
theorem dX6_about_27 : decode cX6_about 27 = .ok (.iaload, 1) := by decide +kernel
theorem dX6_about_28 : decode cX6_about 28 = .ok (.iconst (-1), 1) := by decide +kernel
theorem dX6_about_29 : decode cX6_about 29 = .ok (.if_icmp .ne 27, 3) := by decide +kernel
theorem dX6_about_32 : decode cX6_about 32 = .ok (.lload 4, 2) := by decide +kernel
theorem dX6_about_34 : decode cX6_about 34 = .ok (.aload_n 0, 1) := by decide +kernel
theorem dX6_about_35 : decode cX6_about 35 = .ok (.aload_n 0, 1) := by decide +kernel
theorem dX6_about_36 : decode cX6_about 36 = .ok (.getfield 50, 3) := by decide +kernel
theorem dX6_about_39 : decode cX6_about 39 = .ok (.getfield 234, 3) := by decide +kernel
theorem dX6_about_42 : decode cX6_about 42 = .ok (.iload 6, 2) := by decide +kernel
theorem dX6_about_44 : decode cX6_about 44 = .ok (.iaload, 1) := by decide +kernel
theorem dX6_about_45 : decode cX6_about 45 = .ok (.iload_n 1, 1) := by decide +kernel
theorem dX6_about_46 : decode cX6_about 46 = .ok (.iload_n 2, 1) := by decide +kernel
theorem dX6_about_47 : decode cX6_about 47 = .ok (.invokevirtual 137, 3) := by decide +kernel
theorem dX6_about_50 : decode cX6_about 50 = .ok (.ladd, 1) := by decide +kernel
theorem dX6_about_51 : decode cX6_about 51 = .ok (.lstore 4, 2) := by decide +kernel
theorem dX6_about_53 : decode cX6_about 53 = .ok (.goto 17, 3) := by decide +kernel
theorem dX6_about_56 : decode cX6_about 56 = .ok (.lload 4, 2) := by decide +kernel
theorem dX6_about_58 : decode cX6_about 58 = .ok (.aload_n 0, 1) := by decide +kernel
theorem dX6_about_59 : decode cX6_about 59 = .ok (.iload 6, 2) := by decide +kernel
theorem dX6_about_61 : decode cX6_about 61 = .ok (.iload_n 1, 1) := by decide +kernel
theorem dX6_about_62 : decode cX6_about 62 = .ok (.iload_n 2, 1) := by decide +kernel
theorem dX6_about_63 : decode cX6_about 63 = .ok (.iload_n 3, 1) := by decide +kernel
theorem dX6_about_64 : decode cX6_about 64 = .ok (.invokevirtual 237, 3) := by decide +kernel
theorem dX6_about_67 : decode cX6_about 67 = .ok (.ladd, 1) := by decide +kernel
theorem dX6_about_68 : decode cX6_about 68 = .ok (.lstore 4, 2) := by decide +kernel
theorem dX6_about_70 : decode cX6_about 70 = .ok (.iinc 6 1, 3) := by decide +kernel
theorem dX6_about_73 : decode cX6_about 73 = .ok (.goto (-67), 3) := by decide +kernel
theorem dX6_about_76 : decode cX6_about 76 = .ok (.lload 4, 2) := by decide +kernel
theorem dX6_about_78 : decode cX6_about 78 = .ok (.lreturn, 1) := by decide +kernel
theorem dX6_wholeEnd_0 : decode cX6_wholeEnd 0 = .ok (.lconst 0, 1) := by decide +kernel
theorem dX6_wholeEnd_1 : decode cX6_wholeEnd 1 = .ok (.lstore 4, 2) := by decide +kernel
theorem dX6_wholeEnd_3 : decode cX6_wholeEnd 3 = .ok (.iconst 0, 1) := by decide +kernel
theorem dX6_wholeEnd_4 : decode cX6_wholeEnd 4 = .ok (.istore 6, 2) := by decide +kernel
theorem dX6_wholeEnd_6 : decode cX6_wholeEnd 6 = .ok (.iload 6, 2) := by decide +kernel
theorem dX6_wholeEnd_8 : decode cX6_wholeEnd 8 = .ok (.aload_n 0, 1) := by decide +kernel
theorem dX6_wholeEnd_9 : decode cX6_wholeEnd 9 = .ok (.getfield 50, 3) := by decide +kernel
theorem dX6_wholeEnd_12 : decode cX6_wholeEnd 12 = .ok (.getfield 153, 3) := by decide +kernel
theorem dX6_wholeEnd_15 : decode cX6_wholeEnd 15 = .ok (.if_icmp .ge 37, 3) := by decide +kernel
theorem dX6_wholeEnd_18 : decode cX6_wholeEnd 18 = .ok (.aload_n 0, 1) := by decide +kernel
theorem dX6_wholeEnd_19 : decode cX6_wholeEnd 19 = .ok (.getfield 50, 3) := by decide +kernel
theorem dX6_wholeEnd_22 : decode cX6_wholeEnd 22 = .ok (.getfield 231, 3) := by decide +kernel
theorem dX6_wholeEnd_25 : decode cX6_wholeEnd 25 = .ok (.iload 6, 2) := by decide +kernel
theorem dX6_wholeEnd_27 : decode cX6_wholeEnd 27 = .ok (.iaload, 1) := by decide +kernel
theorem dX6_wholeEnd_28 : decode cX6_wholeEnd 28 = .ok (.iconst (-1), 1) := by decide +kernel
theorem dX6_wholeEnd_29 : decode cX6_wholeEnd 29 = .ok (.if_icmp .eq 17, 3) := by decide +kernel
theorem dX6_wholeEnd_32 : decode cX6_wholeEnd 32 = .ok (.lload 4, 2) := by decide +kernel
theorem dX6_wholeEnd_34 : decode cX6_wholeEnd 34 = .ok (.aload_n 0, 1) := by decide +kernel
theorem dX6_wholeEnd_35 : decode cX6_wholeEnd 35 = .ok (.iload 6, 2) := by decide +kernel
theorem dX6_wholeEnd_37 : decode cX6_wholeEnd 37 = .ok (.iload_n 1, 1) := by decide +kernel
theorem dX6_wholeEnd_38 : decode cX6_wholeEnd 38 = .ok (.iload_n 2, 1) := by decide +kernel
theorem dX6_wholeEnd_39 : decode cX6_wholeEnd 39 = .ok (.iload_n 3, 1) := by decide +kernel
theorem dX6_wholeEnd_40 : decode cX6_wholeEnd 40 = .ok (.invokevirtual 241, 3) := by decide +kernel
theorem dX6_wholeEnd_43 : decode cX6_wholeEnd 43 = .ok (.ladd, 1) := by decide +kernel
theorem dX6_wholeEnd_44 : decode cX6_wholeEnd 44 = .ok (.lstore 4, 2) := by decide +kernel
theorem dX6_wholeEnd_46 : decode cX6_wholeEnd 46 = .ok (.iinc 6 1, 3) := by decide +kernel
theorem dX6_wholeEnd_49 : decode cX6_wholeEnd 49 = .ok (.goto (-43), 3) := by decide +kernel
theorem dX6_wholeEnd_52 : decode cX6_wholeEnd 52 = .ok (.lload 4, 2) := by decide +kernel
theorem dX6_wholeEnd_54 : decode cX6_wholeEnd 54 = .ok (.lreturn, 1) := by decide +kernel
theorem dX6_termOf_0 : decode cX6_termOf 0 = .ok (.aload_n 0, 1) := by decide +kernel
theorem dX6_termOf_1 : decode cX6_termOf 1 = .ok (.getfield 50, 3) := by decide +kernel
theorem dX6_termOf_4 : decode cX6_termOf 4 = .ok (.getfield 231, 3) := by decide +kernel
theorem dX6_termOf_7 : decode cX6_termOf 7 = .ok (.iload_n 1, 1) := by decide +kernel
theorem dX6_termOf_8 : decode cX6_termOf 8 = .ok (.iaload, 1) := by decide +kernel
theorem dX6_termOf_9 : decode cX6_termOf 9 = .ok (.istore 5, 2) := by decide +kernel
theorem dX6_termOf_11 : decode cX6_termOf 11 = .ok (.aload_n 0, 1) := by decide +kernel
theorem dX6_termOf_12 : decode cX6_termOf 12 = .ok (.getfield 21, 3) := by decide +kernel
theorem dX6_termOf_15 : decode cX6_termOf 15 = .ok (.iload 5, 2) := by decide +kernel
theorem dX6_termOf_17 : decode cX6_termOf 17 = .ok (.aload_n 0, 1) := by decide +kernel
theorem dX6_termOf_18 : decode cX6_termOf 18 = .ok (.getfield 50, 3) := by decide +kernel
theorem dX6_termOf_21 : decode cX6_termOf 21 = .ok (.getfield 234, 3) := by decide +kernel
theorem dX6_termOf_24 : decode cX6_termOf 24 = .ok (.iload_n 1, 1) := by decide +kernel
theorem dX6_termOf_25 : decode cX6_termOf 25 = .ok (.iaload, 1) := by decide +kernel
theorem dX6_termOf_26 : decode cX6_termOf 26 = .ok (.aload_n 0, 1) := by decide +kernel
theorem dX6_termOf_27 : decode cX6_termOf 27 = .ok (.getfield 50, 3) := by decide +kernel
theorem dX6_termOf_30 : decode cX6_termOf 30 = .ok (.getfield 244, 3) := by decide +kernel
theorem dX6_termOf_33 : decode cX6_termOf 33 = .ok (.iload_n 1, 1) := by decide +kernel
theorem dX6_termOf_34 : decode cX6_termOf 34 = .ok (.iaload, 1) := by decide +kernel
theorem dX6_termOf_35 : decode cX6_termOf 35 = .ok (.invokevirtual 165, 3) := by decide +kernel
theorem dX6_termOf_38 : decode cX6_termOf 38 = .ok (.aload_n 0, 1) := by decide +kernel
theorem dX6_termOf_39 : decode cX6_termOf 39 = .ok (.getfield 41, 3) := by decide +kernel
theorem dX6_termOf_42 : decode cX6_termOf 42 = .ok (.aload_n 0, 1) := by decide +kernel
theorem dX6_termOf_43 : decode cX6_termOf 43 = .ok (.getfield 21, 3) := by decide +kernel
theorem dX6_termOf_46 : decode cX6_termOf 46 = .ok (.getfield 174, 3) := by decide +kernel
theorem dX6_termOf_49 : decode cX6_termOf 49 = .ok (.iload 4, 2) := by decide +kernel
theorem dX6_termOf_51 : decode cX6_termOf 51 = .ok (.invokevirtual 247, 3) := by decide +kernel
theorem dX6_termOf_54 : decode cX6_termOf 54 = .ok (.aload_n 0, 1) := by decide +kernel
theorem dX6_termOf_55 : decode cX6_termOf 55 = .ok (.getfield 41, 3) := by decide +kernel
theorem dX6_termOf_58 : decode cX6_termOf 58 = .ok (.getfield 251, 3) := by decide +kernel
theorem dX6_termOf_61 : decode cX6_termOf 61 = .ok (.iload_n 2, 1) := by decide +kernel
theorem dX6_termOf_62 : decode cX6_termOf 62 = .ok (.iload 5, 2) := by decide +kernel
theorem dX6_termOf_64 : decode cX6_termOf 64 = .ok (.aload_n 0, 1) := by decide +kernel
theorem dX6_termOf_65 : decode cX6_termOf 65 = .ok (.getfield 50, 3) := by decide +kernel
theorem dX6_termOf_68 : decode cX6_termOf 68 = .ok (.getfield 234, 3) := by decide +kernel
theorem dX6_termOf_71 : decode cX6_termOf 71 = .ok (.iload_n 1, 1) := by decide +kernel
theorem dX6_termOf_72 : decode cX6_termOf 72 = .ok (.iaload, 1) := by decide +kernel
theorem dX6_termOf_73 : decode cX6_termOf 73 = .ok (.invokestatic 254, 3) := by decide +kernel
theorem dX6_termOf_76 : decode cX6_termOf 76 = .ok (.i2l, 1) := by decide +kernel
theorem dX6_termOf_77 : decode cX6_termOf 77 = .ok (.iload_n 3, 1) := by decide +kernel
theorem dX6_termOf_78 : decode cX6_termOf 78 = .ok (.iload 5, 2) := by decide +kernel
theorem dX6_termOf_80 : decode cX6_termOf 80 = .ok (.aload_n 0, 1) := by decide +kernel
theorem dX6_termOf_81 : decode cX6_termOf 81 = .ok (.getfield 50, 3) := by decide +kernel
theorem dX6_termOf_84 : decode cX6_termOf 84 = .ok (.getfield 244, 3) := by decide +kernel
theorem dX6_termOf_87 : decode cX6_termOf 87 = .ok (.iload_n 1, 1) := by decide +kernel
theorem dX6_termOf_88 : decode cX6_termOf 88 = .ok (.iaload, 1) := by decide +kernel
theorem dX6_termOf_89 : decode cX6_termOf 89 = .ok (.invokestatic 254, 3) := by decide +kernel
theorem dX6_termOf_92 : decode cX6_termOf 92 = .ok (.i2l, 1) := by decide +kernel
theorem dX6_termOf_93 : decode cX6_termOf 93 = .ok (.invokevirtual 227, 3) := by decide +kernel
theorem dX6_termOf_96 : decode cX6_termOf 96 = .ok (.lreturn, 1) := by decide +kernel
theorem dX6_endOf_0 : decode cX6_endOf 0 = .ok (.aload_n 0, 1) := by decide +kernel
theorem dX6_endOf_1 : decode cX6_endOf 1 = .ok (.getfield 50, 3) := by decide +kernel
theorem dX6_endOf_4 : decode cX6_endOf 4 = .ok (.getfield 231, 3) := by decide +kernel
theorem dX6_endOf_7 : decode cX6_endOf 7 = .ok (.iload_n 1, 1) := by decide +kernel
theorem dX6_endOf_8 : decode cX6_endOf 8 = .ok (.iaload, 1) := by decide +kernel
theorem dX6_endOf_9 : decode cX6_endOf 9 = .ok (.istore 5, 2) := by decide +kernel
theorem dX6_endOf_11 : decode cX6_endOf 11 = .ok (.aload_n 0, 1) := by decide +kernel
theorem dX6_endOf_12 : decode cX6_endOf 12 = .ok (.getfield 21, 3) := by decide +kernel
theorem dX6_endOf_15 : decode cX6_endOf 15 = .ok (.iload 5, 2) := by decide +kernel
theorem dX6_endOf_17 : decode cX6_endOf 17 = .ok (.aload_n 0, 1) := by decide +kernel
theorem dX6_endOf_18 : decode cX6_endOf 18 = .ok (.getfield 50, 3) := by decide +kernel
theorem dX6_endOf_21 : decode cX6_endOf 21 = .ok (.getfield 234, 3) := by decide +kernel
theorem dX6_endOf_24 : decode cX6_endOf 24 = .ok (.iload_n 1, 1) := by decide +kernel
theorem dX6_endOf_25 : decode cX6_endOf 25 = .ok (.iaload, 1) := by decide +kernel
theorem dX6_endOf_26 : decode cX6_endOf 26 = .ok (.aload_n 0, 1) := by decide +kernel
theorem dX6_endOf_27 : decode cX6_endOf 27 = .ok (.getfield 50, 3) := by decide +kernel
theorem dX6_endOf_30 : decode cX6_endOf 30 = .ok (.getfield 244, 3) := by decide +kernel
theorem dX6_endOf_33 : decode cX6_endOf 33 = .ok (.iload_n 1, 1) := by decide +kernel
theorem dX6_endOf_34 : decode cX6_endOf 34 = .ok (.iaload, 1) := by decide +kernel
theorem dX6_endOf_35 : decode cX6_endOf 35 = .ok (.invokevirtual 165, 3) := by decide +kernel
theorem dX6_endOf_38 : decode cX6_endOf 38 = .ok (.aload_n 0, 1) := by decide +kernel
theorem dX6_endOf_39 : decode cX6_endOf 39 = .ok (.getfield 41, 3) := by decide +kernel
theorem dX6_endOf_42 : decode cX6_endOf 42 = .ok (.aload_n 0, 1) := by decide +kernel
theorem dX6_endOf_43 : decode cX6_endOf 43 = .ok (.getfield 21, 3) := by decide +kernel
theorem dX6_endOf_46 : decode cX6_endOf 46 = .ok (.getfield 168, 3) := by decide +kernel
theorem dX6_endOf_49 : decode cX6_endOf 49 = .ok (.i2l, 1) := by decide +kernel
theorem dX6_endOf_50 : decode cX6_endOf 50 = .ok (.iload 5, 2) := by decide +kernel
theorem dX6_endOf_52 : decode cX6_endOf 52 = .ok (.invokestatic 257, 3) := by decide +kernel
theorem dX6_endOf_55 : decode cX6_endOf 55 = .ok (.iconst 1, 1) := by decide +kernel
theorem dX6_endOf_56 : decode cX6_endOf 56 = .ok (.isub, 1) := by decide +kernel
theorem dX6_endOf_57 : decode cX6_endOf 57 = .ok (.iload 4, 2) := by decide +kernel
theorem dX6_endOf_59 : decode cX6_endOf 59 = .ok (.invokevirtual 260, 3) := by decide +kernel
theorem dX6_endOf_62 : decode cX6_endOf 62 = .ok (.aload_n 0, 1) := by decide +kernel
theorem dX6_endOf_63 : decode cX6_endOf 63 = .ok (.getfield 41, 3) := by decide +kernel
theorem dX6_endOf_66 : decode cX6_endOf 66 = .ok (.getfield 251, 3) := by decide +kernel
theorem dX6_endOf_69 : decode cX6_endOf 69 = .ok (.iload_n 2, 1) := by decide +kernel
theorem dX6_endOf_70 : decode cX6_endOf 70 = .ok (.iload 5, 2) := by decide +kernel
theorem dX6_endOf_72 : decode cX6_endOf 72 = .ok (.aload_n 0, 1) := by decide +kernel
theorem dX6_endOf_73 : decode cX6_endOf 73 = .ok (.getfield 50, 3) := by decide +kernel
theorem dX6_endOf_76 : decode cX6_endOf 76 = .ok (.getfield 234, 3) := by decide +kernel
theorem dX6_endOf_79 : decode cX6_endOf 79 = .ok (.iload_n 1, 1) := by decide +kernel
theorem dX6_endOf_80 : decode cX6_endOf 80 = .ok (.iaload, 1) := by decide +kernel
theorem dX6_endOf_81 : decode cX6_endOf 81 = .ok (.invokestatic 254, 3) := by decide +kernel
theorem dX6_endOf_84 : decode cX6_endOf 84 = .ok (.invokestatic 264, 3) := by decide +kernel
theorem dX6_endOf_87 : decode cX6_endOf 87 = .ok (.i2l, 1) := by decide +kernel
theorem dX6_endOf_88 : decode cX6_endOf 88 = .ok (.iload_n 3, 1) := by decide +kernel
theorem dX6_endOf_89 : decode cX6_endOf 89 = .ok (.iload 5, 2) := by decide +kernel
theorem dX6_endOf_91 : decode cX6_endOf 91 = .ok (.aload_n 0, 1) := by decide +kernel
theorem dX6_endOf_92 : decode cX6_endOf 92 = .ok (.getfield 50, 3) := by decide +kernel
theorem dX6_endOf_95 : decode cX6_endOf 95 = .ok (.getfield 244, 3) := by decide +kernel
theorem dX6_endOf_98 : decode cX6_endOf 98 = .ok (.iload_n 1, 1) := by decide +kernel
theorem dX6_endOf_99 : decode cX6_endOf 99 = .ok (.iaload, 1) := by decide +kernel
theorem dX6_endOf_100 : decode cX6_endOf 100 = .ok (.invokestatic 254, 3) := by decide +kernel
theorem dX6_endOf_103 : decode cX6_endOf 103 = .ok (.invokestatic 264, 3) := by decide +kernel
theorem dX6_endOf_106 : decode cX6_endOf 106 = .ok (.i2l, 1) := by decide +kernel
theorem dX6_endOf_107 : decode cX6_endOf 107 = .ok (.invokevirtual 227, 3) := by decide +kernel
theorem dX6_endOf_110 : decode cX6_endOf 110 = .ok (.lreturn, 1) := by decide +kernel
theorem dX6_isPlace_0 : decode cX6_isPlace 0 = .ok (.iload_n 0, 1) := by decide +kernel
theorem dX6_isPlace_1 : decode cX6_isPlace 1 = .ok (.ifCond .lt 23, 3) := by decide +kernel
theorem dX6_isPlace_4 : decode cX6_isPlace 4 = .ok (.iload_n 0, 1) := by decide +kernel
theorem dX6_isPlace_5 : decode cX6_isPlace 5 = .ok (.bipush 64, 2) := by decide +kernel
theorem dX6_isPlace_7 : decode cX6_isPlace 7 = .ok (.if_icmp .ge 17, 3) := by decide +kernel
theorem dX6_isPlace_10 : decode cX6_isPlace 10 = .ok (.iload_n 1, 1) := by decide +kernel
theorem dX6_isPlace_11 : decode cX6_isPlace 11 = .ok (.ifCond .lt 13, 3) := by decide +kernel
theorem dX6_isPlace_14 : decode cX6_isPlace 14 = .ok (.iload_n 1, 1) := by decide +kernel
theorem dX6_isPlace_15 : decode cX6_isPlace 15 = .ok (.bipush 64, 2) := by decide +kernel
theorem dX6_isPlace_17 : decode cX6_isPlace 17 = .ok (.if_icmp .ge 7, 3) := by decide +kernel
theorem dX6_isPlace_20 : decode cX6_isPlace 20 = .ok (.iconst 1, 1) := by decide +kernel
theorem dX6_isPlace_21 : decode cX6_isPlace 21 = .ok (.goto 4, 3) := by decide +kernel
theorem dX6_isPlace_24 : decode cX6_isPlace 24 = .ok (.iconst 0, 1) := by decide +kernel
theorem dX6_isPlace_25 : decode cX6_isPlace 25 = .ok (.ireturn, 1) := by decide +kernel
theorem dX6_isWeight_0 : decode cX6_isWeight 0 = .ok (.iload_n 0, 1) := by decide +kernel
theorem dX6_isWeight_1 : decode cX6_isWeight 1 = .ok (.sipush (-1000), 3) := by decide +kernel
theorem dX6_isWeight_4 : decode cX6_isWeight 4 = .ok (.if_icmp .lt 14, 3) := by decide +kernel
theorem dX6_isWeight_7 : decode cX6_isWeight 7 = .ok (.iload_n 0, 1) := by decide +kernel
theorem dX6_isWeight_8 : decode cX6_isWeight 8 = .ok (.sipush 1000, 3) := by decide +kernel
theorem dX6_isWeight_11 : decode cX6_isWeight 11 = .ok (.if_icmp .gt 7, 3) := by decide +kernel
theorem dX6_isWeight_14 : decode cX6_isWeight 14 = .ok (.iconst 1, 1) := by decide +kernel
theorem dX6_isWeight_15 : decode cX6_isWeight 15 = .ok (.goto 4, 3) := by decide +kernel
theorem dX6_isWeight_18 : decode cX6_isWeight 18 = .ok (.iconst 0, 1) := by decide +kernel
theorem dX6_isWeight_19 : decode cX6_isWeight 19 = .ok (.ireturn, 1) := by decide +kernel
theorem dX6_isPaceNumber_0 : decode cX6_isPaceNumber 0 = .ok (.iload_n 0, 1) := by decide +kernel
theorem dX6_isPaceNumber_1 : decode cX6_isPaceNumber 1 = .ok (.bipush (-32), 2) := by decide +kernel
theorem dX6_isPaceNumber_3 : decode cX6_isPaceNumber 3 = .ok (.if_icmp .lt 13, 3) := by decide +kernel
theorem dX6_isPaceNumber_6 : decode cX6_isPaceNumber 6 = .ok (.iload_n 0, 1) := by decide +kernel
theorem dX6_isPaceNumber_7 : decode cX6_isPaceNumber 7 = .ok (.bipush 31, 2) := by decide +kernel
theorem dX6_isPaceNumber_9 : decode cX6_isPaceNumber 9 = .ok (.if_icmp .gt 7, 3) := by decide +kernel
theorem dX6_isPaceNumber_12 : decode cX6_isPaceNumber 12 = .ok (.iconst 1, 1) := by decide +kernel
theorem dX6_isPaceNumber_13 : decode cX6_isPaceNumber 13 = .ok (.goto 4, 3) := by decide +kernel
theorem dX6_isPaceNumber_16 : decode cX6_isPaceNumber 16 = .ok (.iconst 0, 1) := by decide +kernel
theorem dX6_isPaceNumber_17 : decode cX6_isPaceNumber 17 = .ok (.ireturn, 1) := by decide +kernel
theorem dX6_isDistance_0 : decode cX6_isDistance 0 = .ok (.iload_n 0, 1) := by decide +kernel
theorem dX6_isDistance_1 : decode cX6_isDistance 1 = .ok (.iconst 1, 1) := by decide +kernel
theorem dX6_isDistance_2 : decode cX6_isDistance 2 = .ok (.if_icmp .lt 12, 3) := by decide +kernel
theorem dX6_isDistance_5 : decode cX6_isDistance 5 = .ok (.iload_n 0, 1) := by decide +kernel
theorem dX6_isDistance_6 : decode cX6_isDistance 6 = .ok (.iconst 4, 1) := by decide +kernel
theorem dX6_isDistance_7 : decode cX6_isDistance 7 = .ok (.if_icmp .gt 7, 3) := by decide +kernel
theorem dX6_isDistance_10 : decode cX6_isDistance 10 = .ok (.iconst 1, 1) := by decide +kernel
theorem dX6_isDistance_11 : decode cX6_isDistance 11 = .ok (.goto 4, 3) := by decide +kernel
theorem dX6_isDistance_14 : decode cX6_isDistance 14 = .ok (.iconst 0, 1) := by decide +kernel
theorem dX6_isDistance_15 : decode cX6_isDistance 15 = .ok (.ireturn, 1) := by decide +kernel
theorem dX6_isPowers_0 : decode cX6_isPowers 0 = .ok (.iload_n 0, 1) := by decide +kernel
theorem dX6_isPowers_1 : decode cX6_isPowers 1 = .ok (.ifCond .lt 23, 3) := by decide +kernel
theorem dX6_isPowers_4 : decode cX6_isPowers 4 = .ok (.iload_n 0, 1) := by decide +kernel
theorem dX6_isPowers_5 : decode cX6_isPowers 5 = .ok (.iconst 4, 1) := by decide +kernel
theorem dX6_isPowers_6 : decode cX6_isPowers 6 = .ok (.if_icmp .gt 18, 3) := by decide +kernel
theorem dX6_isPowers_9 : decode cX6_isPowers 9 = .ok (.iload_n 1, 1) := by decide +kernel
theorem dX6_isPowers_10 : decode cX6_isPowers 10 = .ok (.ifCond .lt 14, 3) := by decide +kernel
theorem dX6_isPowers_13 : decode cX6_isPowers 13 = .ok (.iload_n 1, 1) := by decide +kernel
theorem dX6_isPowers_14 : decode cX6_isPowers 14 = .ok (.iconst 4, 1) := by decide +kernel
theorem dX6_isPowers_15 : decode cX6_isPowers 15 = .ok (.iload_n 0, 1) := by decide +kernel
theorem dX6_isPowers_16 : decode cX6_isPowers 16 = .ok (.isub, 1) := by decide +kernel
theorem dX6_isPowers_17 : decode cX6_isPowers 17 = .ok (.if_icmp .gt 7, 3) := by decide +kernel
theorem dX6_isPowers_20 : decode cX6_isPowers 20 = .ok (.iconst 1, 1) := by decide +kernel
theorem dX6_isPowers_21 : decode cX6_isPowers 21 = .ok (.goto 4, 3) := by decide +kernel
theorem dX6_isPowers_24 : decode cX6_isPowers 24 = .ok (.iconst 0, 1) := by decide +kernel
theorem dX6_isPowers_25 : decode cX6_isPowers 25 = .ok (.ireturn, 1) := by decide +kernel
theorem dX6_slot_0 : decode cX6_slot 0 = .ok (.iload_n 0, 1) := by decide +kernel
theorem dX6_slot_1 : decode cX6_slot 1 = .ok (.iconst 5, 1) := by decide +kernel
theorem dX6_slot_2 : decode cX6_slot 2 = .ok (.imul, 1) := by decide +kernel
theorem dX6_slot_3 : decode cX6_slot 3 = .ok (.iload_n 1, 1) := by decide +kernel
theorem dX6_slot_4 : decode cX6_slot 4 = .ok (.iadd, 1) := by decide +kernel
theorem dX6_slot_5 : decode cX6_slot 5 = .ok (.ireturn, 1) := by decide +kernel
theorem dX6_sideOf_0 : decode cX6_sideOf 0 = .ok (.bipush 64, 2) := by decide +kernel
theorem dX6_sideOf_2 : decode cX6_sideOf 2 = .ok (.iload_n 0, 1) := by decide +kernel
theorem dX6_sideOf_3 : decode cX6_sideOf 3 = .ok (.ishr, 1) := by decide +kernel
theorem dX6_sideOf_4 : decode cX6_sideOf 4 = .ok (.ireturn, 1) := by decide +kernel
theorem dX6_fromMiddle_0 : decode cX6_fromMiddle 0 = .ok (.iload_n 1, 1) := by decide +kernel
theorem dX6_fromMiddle_1 : decode cX6_fromMiddle 1 = .ok (.invokestatic 257, 3) := by decide +kernel
theorem dX6_fromMiddle_4 : decode cX6_fromMiddle 4 = .ok (.istore_n 3, 1) := by decide +kernel
theorem dX6_fromMiddle_5 : decode cX6_fromMiddle 5 = .ok (.iconst 2, 1) := by decide +kernel
theorem dX6_fromMiddle_6 : decode cX6_fromMiddle 6 = .ok (.iload_n 0, 1) := by decide +kernel
theorem dX6_fromMiddle_7 : decode cX6_fromMiddle 7 = .ok (.imul, 1) := by decide +kernel
theorem dX6_fromMiddle_8 : decode cX6_fromMiddle 8 = .ok (.iconst 2, 1) := by decide +kernel
theorem dX6_fromMiddle_9 : decode cX6_fromMiddle 9 = .ok (.iload_n 2, 1) := by decide +kernel
theorem dX6_fromMiddle_10 : decode cX6_fromMiddle 10 = .ok (.imul, 1) := by decide +kernel
theorem dX6_fromMiddle_11 : decode cX6_fromMiddle 11 = .ok (.iload_n 3, 1) := by decide +kernel
theorem dX6_fromMiddle_12 : decode cX6_fromMiddle 12 = .ok (.imul, 1) := by decide +kernel
theorem dX6_fromMiddle_13 : decode cX6_fromMiddle 13 = .ok (.iload_n 3, 1) := by decide +kernel
theorem dX6_fromMiddle_14 : decode cX6_fromMiddle 14 = .ok (.iadd, 1) := by decide +kernel
theorem dX6_fromMiddle_15 : decode cX6_fromMiddle 15 = .ok (.iconst 1, 1) := by decide +kernel
theorem dX6_fromMiddle_16 : decode cX6_fromMiddle 16 = .ok (.isub, 1) := by decide +kernel
theorem dX6_fromMiddle_17 : decode cX6_fromMiddle 17 = .ok (.isub, 1) := by decide +kernel
theorem dX6_fromMiddle_18 : decode cX6_fromMiddle 18 = .ok (.ireturn, 1) := by decide +kernel
theorem dX6_wrapPace_0 : decode cX6_wrapPace 0 = .ok (.lload_n 0, 1) := by decide +kernel
theorem dX6_wrapPace_1 : decode cX6_wrapPace 1 = .ok (.ldc2_w 269, 3) := by decide +kernel
theorem dX6_wrapPace_4 : decode cX6_wrapPace 4 = .ok (.lsub, 1) := by decide +kernel
theorem dX6_wrapPace_5 : decode cX6_wrapPace 5 = .ok (.ldc2_w 271, 3) := by decide +kernel
theorem dX6_wrapPace_8 : decode cX6_wrapPace 8 = .ok (.land, 1) := by decide +kernel
theorem dX6_wrapPace_9 : decode cX6_wrapPace 9 = .ok (.l2i, 1) := by decide +kernel
theorem dX6_wrapPace_10 : decode cX6_wrapPace 10 = .ok (.bipush (-32), 2) := by decide +kernel
theorem dX6_wrapPace_12 : decode cX6_wrapPace 12 = .ok (.iadd, 1) := by decide +kernel
theorem dX6_wrapPace_13 : decode cX6_wrapPace 13 = .ok (.ireturn, 1) := by decide +kernel
theorem dX6_wrapPlace_0 : decode cX6_wrapPlace 0 = .ok (.iload_n 0, 1) := by decide +kernel
theorem dX6_wrapPlace_1 : decode cX6_wrapPlace 1 = .ok (.bipush 63, 2) := by decide +kernel
theorem dX6_wrapPlace_3 : decode cX6_wrapPlace 3 = .ok (.iand, 1) := by decide +kernel
theorem dX6_wrapPlace_4 : decode cX6_wrapPlace 4 = .ok (.ireturn, 1) := by decide +kernel
end
section
theorem dX7_init_0 : decode cX7_init 0 = .ok (.aload_n 0, 1) := by decide +kernel
theorem dX7_init_1 : decode cX7_init 1 = .ok (.invokespecial 1, 3) := by decide +kernel
theorem dX7_init_4 : decode cX7_init 4 = .ok (.aload_n 0, 1) := by decide +kernel
theorem dX7_init_5 : decode cX7_init 5 = .ok (.bipush 40, 2) := by decide +kernel
theorem dX7_init_7 : decode cX7_init 7 = .ok (.newarray .boolean, 2) := by decide +kernel
theorem dX7_init_9 : decode cX7_init 9 = .ok (.putfield 7, 3) := by decide +kernel
theorem dX7_init_12 : decode cX7_init 12 = .ok (.aload_n 0, 1) := by decide +kernel
theorem dX7_init_13 : decode cX7_init 13 = .ok (.bipush 40, 2) := by decide +kernel
theorem dX7_init_15 : decode cX7_init 15 = .ok (.newarray .int, 2) := by decide +kernel
theorem dX7_init_17 : decode cX7_init 17 = .ok (.putfield 13, 3) := by decide +kernel
theorem dX7_init_20 : decode cX7_init 20 = .ok (.aload_n 0, 1) := by decide +kernel
theorem dX7_init_21 : decode cX7_init 21 = .ok (.bipush 40, 2) := by decide +kernel
theorem dX7_init_23 : decode cX7_init 23 = .ok (.newarray .int, 2) := by decide +kernel
theorem dX7_init_25 : decode cX7_init 25 = .ok (.putfield 17, 3) := by decide +kernel
theorem dX7_init_28 : decode cX7_init 28 = .ok (.aload_n 0, 1) := by decide +kernel
theorem dX7_init_29 : decode cX7_init 29 = .ok (.bipush 40, 2) := by decide +kernel
theorem dX7_init_31 : decode cX7_init 31 = .ok (.newarray .int, 2) := by decide +kernel
theorem dX7_init_33 : decode cX7_init 33 = .ok (.putfield 20, 3) := by decide +kernel
theorem dX7_init_36 : decode cX7_init 36 = .ok (.aload_n 0, 1) := by decide +kernel
theorem dX7_init_37 : decode cX7_init 37 = .ok (.bipush 40, 2) := by decide +kernel
theorem dX7_init_39 : decode cX7_init 39 = .ok (.newarray .int, 2) := by decide +kernel
theorem dX7_init_41 : decode cX7_init 41 = .ok (.putfield 23, 3) := by decide +kernel
theorem dX7_init_44 : decode cX7_init 44 = .ok (.aload_n 0, 1) := by decide +kernel
theorem dX7_init_45 : decode cX7_init 45 = .ok (.bipush 40, 2) := by decide +kernel
theorem dX7_init_47 : decode cX7_init 47 = .ok (.newarray .int, 2) := by decide +kernel
theorem dX7_init_49 : decode cX7_init 49 = .ok (.putfield 26, 3) := by decide +kernel
theorem dX7_init_52 : decode cX7_init 52 = .ok (.aload_n 0, 1) := by decide +kernel
theorem dX7_init_53 : decode cX7_init 53 = .ok (.bipush 25, 2) := by decide +kernel
theorem dX7_init_55 : decode cX7_init 55 = .ok (.newarray .int, 2) := by decide +kernel
theorem dX7_init_57 : decode cX7_init 57 = .ok (.putfield 29, 3) := by decide +kernel
theorem dX7_init_60 : decode cX7_init 60 = .ok (.aload_n 0, 1) := by decide +kernel
theorem dX7_init_61 : decode cX7_init 61 = .ok (.iconst 2, 1) := by decide +kernel
theorem dX7_init_62 : decode cX7_init 62 = .ok (.putfield 32, 3) := by decide +kernel
theorem dX7_init_65 : decode cX7_init 65 = .ok (.aload_n 0, 1) := by decide +kernel
theorem dX7_init_66 : decode cX7_init 66 = .ok (.bipush 40, 2) := by decide +kernel
theorem dX7_init_68 : decode cX7_init 68 = .ok (.newarray .int, 2) := by decide +kernel
theorem dX7_init_70 : decode cX7_init 70 = .ok (.putfield 36, 3) := by decide +kernel
theorem dX7_init_73 : decode cX7_init 73 = .ok (.aload_n 0, 1) := by decide +kernel
theorem dX7_init_74 : decode cX7_init 74 = .ok (.bipush 40, 2) := by decide +kernel
theorem dX7_init_76 : decode cX7_init 76 = .ok (.newarray .int, 2) := by decide +kernel
theorem dX7_init_78 : decode cX7_init 78 = .ok (.putfield 39, 3) := by decide +kernel
theorem dX7_init_81 : decode cX7_init 81 = .ok (.aload_n 0, 1) := by decide +kernel
theorem dX7_init_82 : decode cX7_init 82 = .ok (.bipush 40, 2) := by decide +kernel
theorem dX7_init_84 : decode cX7_init 84 = .ok (.newarray .int, 2) := by decide +kernel
theorem dX7_init_86 : decode cX7_init 86 = .ok (.putfield 42, 3) := by decide +kernel
theorem dX7_init_89 : decode cX7_init 89 = .ok (.aload_n 0, 1) := by decide +kernel
theorem dX7_init_90 : decode cX7_init 90 = .ok (.bipush 80, 2) := by decide +kernel
theorem dX7_init_92 : decode cX7_init 92 = .ok (.newarray .int, 2) := by decide +kernel
theorem dX7_init_94 : decode cX7_init 94 = .ok (.putfield 45, 3) := by decide +kernel
theorem dX7_init_97 : decode cX7_init 97 = .ok (.aload_n 0, 1) := by decide +kernel
theorem dX7_init_98 : decode cX7_init 98 = .ok (.bipush 80, 2) := by decide +kernel
theorem dX7_init_100 : decode cX7_init 100 = .ok (.newarray .int, 2) := by decide +kernel
theorem dX7_init_102 : decode cX7_init 102 = .ok (.putfield 48, 3) := by decide +kernel
theorem dX7_init_105 : decode cX7_init 105 = .ok (.aload_n 0, 1) := by decide +kernel
theorem dX7_init_106 : decode cX7_init 106 = .ok (.bipush 80, 2) := by decide +kernel
theorem dX7_init_108 : decode cX7_init 108 = .ok (.newarray .int, 2) := by decide +kernel
theorem dX7_init_110 : decode cX7_init 110 = .ok (.putfield 51, 3) := by decide +kernel
theorem dX7_init_113 : decode cX7_init 113 = .ok (.aload_n 0, 1) := by decide +kernel
theorem dX7_init_114 : decode cX7_init 114 = .ok (.bipush 40, 2) := by decide +kernel
theorem dX7_init_116 : decode cX7_init 116 = .ok (.newarray .int, 2) := by decide +kernel
theorem dX7_init_118 : decode cX7_init 118 = .ok (.putfield 54, 3) := by decide +kernel
theorem dX7_init_121 : decode cX7_init 121 = .ok (.aload_n 0, 1) := by decide +kernel
theorem dX7_init_122 : decode cX7_init 122 = .ok (.bipush 40, 2) := by decide +kernel
theorem dX7_init_124 : decode cX7_init 124 = .ok (.newarray .int, 2) := by decide +kernel
theorem dX7_init_126 : decode cX7_init 126 = .ok (.putfield 57, 3) := by decide +kernel
theorem dX7_init_129 : decode cX7_init 129 = .ok (.aload_n 0, 1) := by decide +kernel
theorem dX7_init_130 : decode cX7_init 130 = .ok (.getfield 29, 3) := by decide +kernel
theorem dX7_init_133 : decode cX7_init 133 = .ok (.iconst 0, 1) := by decide +kernel
theorem dX7_init_134 : decode cX7_init 134 = .ok (.iconst 1, 1) := by decide +kernel
theorem dX7_init_135 : decode cX7_init 135 = .ok (.iastore, 1) := by decide +kernel
theorem dX7_init_136 : decode cX7_init 136 = .ok (.return_, 1) := by decide +kernel
theorem dX7_in_0 : decode cX7_in 0 = .ok (.lload_n 0, 1) := by decide +kernel
theorem dX7_in_1 : decode cX7_in 1 = .ok (.lload_n 2, 1) := by decide +kernel
theorem dX7_in_2 : decode cX7_in 2 = .ok (.lcmp, 1) := by decide +kernel
theorem dX7_in_3 : decode cX7_in 3 = .ok (.ifCond .lt 14, 3) := by decide +kernel
theorem dX7_in_6 : decode cX7_in 6 = .ok (.lload_n 0, 1) := by decide +kernel
theorem dX7_in_7 : decode cX7_in 7 = .ok (.lload 4, 2) := by decide +kernel
theorem dX7_in_9 : decode cX7_in 9 = .ok (.lcmp, 1) := by decide +kernel
theorem dX7_in_10 : decode cX7_in 10 = .ok (.ifCond .gt 7, 3) := by decide +kernel
theorem dX7_in_13 : decode cX7_in 13 = .ok (.iconst 1, 1) := by decide +kernel
theorem dX7_in_14 : decode cX7_in 14 = .ok (.goto 4, 3) := by decide +kernel
theorem dX7_in_17 : decode cX7_in 17 = .ok (.iconst 0, 1) := by decide +kernel
theorem dX7_in_18 : decode cX7_in 18 = .ok (.ireturn, 1) := by decide +kernel
theorem dX7_isPlace_0 : decode cX7_isPlace 0 = .ok (.iload_n 0, 1) := by decide +kernel
theorem dX7_isPlace_1 : decode cX7_isPlace 1 = .ok (.i2l, 1) := by decide +kernel
theorem dX7_isPlace_2 : decode cX7_isPlace 2 = .ok (.lconst 0, 1) := by decide +kernel
theorem dX7_isPlace_3 : decode cX7_isPlace 3 = .ok (.ldc2_w 60, 3) := by decide +kernel
theorem dX7_isPlace_6 : decode cX7_isPlace 6 = .ok (.invokestatic 62, 3) := by decide +kernel
theorem dX7_isPlace_9 : decode cX7_isPlace 9 = .ok (.ifCond .eq 19, 3) := by decide +kernel
theorem dX7_isPlace_12 : decode cX7_isPlace 12 = .ok (.iload_n 1, 1) := by decide +kernel
theorem dX7_isPlace_13 : decode cX7_isPlace 13 = .ok (.i2l, 1) := by decide +kernel
theorem dX7_isPlace_14 : decode cX7_isPlace 14 = .ok (.lconst 0, 1) := by decide +kernel
theorem dX7_isPlace_15 : decode cX7_isPlace 15 = .ok (.ldc2_w 60, 3) := by decide +kernel
theorem dX7_isPlace_18 : decode cX7_isPlace 18 = .ok (.invokestatic 62, 3) := by decide +kernel
theorem dX7_isPlace_21 : decode cX7_isPlace 21 = .ok (.ifCond .eq 7, 3) := by decide +kernel
theorem dX7_isPlace_24 : decode cX7_isPlace 24 = .ok (.iconst 1, 1) := by decide +kernel
theorem dX7_isPlace_25 : decode cX7_isPlace 25 = .ok (.goto 4, 3) := by decide +kernel
theorem dX7_isPlace_28 : decode cX7_isPlace 28 = .ok (.iconst 0, 1) := by decide +kernel
theorem dX7_isPlace_29 : decode cX7_isPlace 29 = .ok (.ireturn, 1) := by decide +kernel
theorem dX7_isPoint_0 : decode cX7_isPoint 0 = .ok (.iload_n 1, 1) := by decide +kernel
theorem dX7_isPoint_1 : decode cX7_isPoint 1 = .ok (.i2l, 1) := by decide +kernel
theorem dX7_isPoint_2 : decode cX7_isPoint 2 = .ok (.lconst 0, 1) := by decide +kernel
theorem dX7_isPoint_3 : decode cX7_isPoint 3 = .ok (.ldc2_w 66, 3) := by decide +kernel
theorem dX7_isPoint_6 : decode cX7_isPoint 6 = .ok (.invokestatic 62, 3) := by decide +kernel
theorem dX7_isPoint_9 : decode cX7_isPoint 9 = .ok (.ifCond .eq 16, 3) := by decide +kernel
theorem dX7_isPoint_12 : decode cX7_isPoint 12 = .ok (.aload_n 0, 1) := by decide +kernel
theorem dX7_isPoint_13 : decode cX7_isPoint 13 = .ok (.getfield 7, 3) := by decide +kernel
theorem dX7_isPoint_16 : decode cX7_isPoint 16 = .ok (.iload_n 1, 1) := by decide +kernel
theorem dX7_isPoint_17 : decode cX7_isPoint 17 = .ok (.baload, 1) := by decide +kernel
theorem dX7_isPoint_18 : decode cX7_isPoint 18 = .ok (.ifCond .eq 7, 3) := by decide +kernel
theorem dX7_isPoint_21 : decode cX7_isPoint 21 = .ok (.iconst 1, 1) := by decide +kernel
theorem dX7_isPoint_22 : decode cX7_isPoint 22 = .ok (.goto 4, 3) := by decide +kernel
theorem dX7_isPoint_25 : decode cX7_isPoint 25 = .ok (.iconst 0, 1) := by decide +kernel
theorem dX7_isPoint_26 : decode cX7_isPoint 26 = .ok (.ireturn, 1) := by decide +kernel
theorem dX7_many_0 : decode cX7_many 0 = .ok (.iconst 0, 1) := by decide +kernel
theorem dX7_many_1 : decode cX7_many 1 = .ok (.istore_n 1, 1) := by decide +kernel
theorem dX7_many_2 : decode cX7_many 2 = .ok (.iconst 0, 1) := by decide +kernel
theorem dX7_many_3 : decode cX7_many 3 = .ok (.istore_n 2, 1) := by decide +kernel
theorem dX7_many_4 : decode cX7_many 4 = .ok (.iload_n 2, 1) := by decide +kernel
theorem dX7_many_5 : decode cX7_many 5 = .ok (.bipush 40, 2) := by decide +kernel
theorem dX7_many_7 : decode cX7_many 7 = .ok (.if_icmp .ge 26, 3) := by decide +kernel
theorem dX7_many_10 : decode cX7_many 10 = .ok (.iload_n 1, 1) := by decide +kernel
theorem dX7_many_11 : decode cX7_many 11 = .ok (.aload_n 0, 1) := by decide +kernel
theorem dX7_many_12 : decode cX7_many 12 = .ok (.getfield 7, 3) := by decide +kernel
theorem dX7_many_15 : decode cX7_many 15 = .ok (.iload_n 2, 1) := by decide +kernel
theorem dX7_many_16 : decode cX7_many 16 = .ok (.baload, 1) := by decide +kernel
theorem dX7_many_17 : decode cX7_many 17 = .ok (.ifCond .eq 7, 3) := by decide +kernel
theorem dX7_many_20 : decode cX7_many 20 = .ok (.iconst 1, 1) := by decide +kernel
theorem dX7_many_21 : decode cX7_many 21 = .ok (.goto 4, 3) := by decide +kernel
theorem dX7_many_24 : decode cX7_many 24 = .ok (.iconst 0, 1) := by decide +kernel
theorem dX7_many_25 : decode cX7_many 25 = .ok (.iadd, 1) := by decide +kernel
theorem dX7_many_26 : decode cX7_many 26 = .ok (.istore_n 1, 1) := by decide +kernel
theorem dX7_many_27 : decode cX7_many 27 = .ok (.iinc 2 1, 3) := by decide +kernel
theorem dX7_many_30 : decode cX7_many 30 = .ok (.goto (-26), 3) := by decide +kernel
theorem dX7_many_33 : decode cX7_many 33 = .ok (.iload_n 1, 1) := by decide +kernel
theorem dX7_many_34 : decode cX7_many 34 = .ok (.ireturn, 1) := by decide +kernel
theorem dX7_point_0 : decode cX7_point 0 = .ok (.iload_n 1, 1) := by decide +kernel
theorem dX7_point_1 : decode cX7_point 1 = .ok (.iload_n 2, 1) := by decide +kernel
theorem dX7_point_2 : decode cX7_point 2 = .ok (.invokestatic 68, 3) := by decide +kernel
theorem dX7_point_5 : decode cX7_point 5 = .ok (.ifCond .eq 17, 3) := by decide +kernel
theorem dX7_point_8 : decode cX7_point 8 = .ok (.iload_n 3, 1) := by decide +kernel
theorem dX7_point_9 : decode cX7_point 9 = .ok (.i2l, 1) := by decide +kernel
theorem dX7_point_10 : decode cX7_point 10 = .ok (.ldc2_w 72, 3) := by decide +kernel
theorem dX7_point_13 : decode cX7_point 13 = .ok (.ldc2_w 74, 3) := by decide +kernel
theorem dX7_point_16 : decode cX7_point 16 = .ok (.invokestatic 62, 3) := by decide +kernel
theorem dX7_point_19 : decode cX7_point 19 = .ok (.ifCond .ne 6, 3) := by decide +kernel
theorem dX7_point_22 : decode cX7_point 22 = .ok (.bipush (-2), 2) := by decide +kernel
theorem dX7_point_24 : decode cX7_point 24 = .ok (.ireturn, 1) := by decide +kernel
theorem dX7_point_25 : decode cX7_point 25 = .ok (.iconst 0, 1) := by decide +kernel
theorem dX7_point_26 : decode cX7_point 26 = .ok (.istore 4, 2) := by decide +kernel
theorem dX7_point_28 : decode cX7_point 28 = .ok (.iload 4, 2) := by decide +kernel
theorem dX7_point_30 : decode cX7_point 30 = .ok (.bipush 40, 2) := by decide +kernel
theorem dX7_point_32 : decode cX7_point 32 = .ok (.if_icmp .ge 19, 3) := by decide +kernel
theorem dX7_point_35 : decode cX7_point 35 = .ok (.aload_n 0, 1) := by decide +kernel
theorem dX7_point_36 : decode cX7_point 36 = .ok (.getfield 7, 3) := by decide +kernel
theorem dX7_point_39 : decode cX7_point 39 = .ok (.iload 4, 2) := by decide +kernel
theorem dX7_point_41 : decode cX7_point 41 = .ok (.baload, 1) := by decide +kernel
theorem dX7_point_42 : decode cX7_point 42 = .ok (.ifCond .eq 9, 3) := by decide +kernel
theorem dX7_point_45 : decode cX7_point 45 = .ok (.iinc 4 1, 3) := by decide +kernel
theorem dX7_point_48 : decode cX7_point 48 = .ok (.goto (-20), 3) := by decide +kernel
theorem dX7_point_51 : decode cX7_point 51 = .ok (.iload 4, 2) := by decide +kernel
theorem dX7_point_53 : decode cX7_point 53 = .ok (.bipush 40, 2) := by decide +kernel
theorem dX7_point_55 : decode cX7_point 55 = .ok (.if_icmp .ne 6, 3) := by decide +kernel
theorem dX7_point_58 : decode cX7_point 58 = .ok (.bipush (-4), 2) := by decide +kernel
theorem dX7_point_60 : decode cX7_point 60 = .ok (.ireturn, 1) := by decide +kernel
theorem dX7_point_61 : decode cX7_point 61 = .ok (.aload_n 0, 1) := by decide +kernel
theorem dX7_point_62 : decode cX7_point 62 = .ok (.getfield 7, 3) := by decide +kernel
theorem dX7_point_65 : decode cX7_point 65 = .ok (.iload 4, 2) := by decide +kernel
theorem dX7_point_67 : decode cX7_point 67 = .ok (.iconst 1, 1) := by decide +kernel
theorem dX7_point_68 : decode cX7_point 68 = .ok (.bastore, 1) := by decide +kernel
theorem dX7_point_69 : decode cX7_point 69 = .ok (.aload_n 0, 1) := by decide +kernel
theorem dX7_point_70 : decode cX7_point 70 = .ok (.getfield 13, 3) := by decide +kernel
theorem dX7_point_73 : decode cX7_point 73 = .ok (.iload 4, 2) := by decide +kernel
theorem dX7_point_75 : decode cX7_point 75 = .ok (.iload_n 1, 1) := by decide +kernel
theorem dX7_point_76 : decode cX7_point 76 = .ok (.iastore, 1) := by decide +kernel
theorem dX7_point_77 : decode cX7_point 77 = .ok (.aload_n 0, 1) := by decide +kernel
theorem dX7_point_78 : decode cX7_point 78 = .ok (.getfield 17, 3) := by decide +kernel
theorem dX7_point_81 : decode cX7_point 81 = .ok (.iload 4, 2) := by decide +kernel
theorem dX7_point_83 : decode cX7_point 83 = .ok (.iload_n 2, 1) := by decide +kernel
theorem dX7_point_84 : decode cX7_point 84 = .ok (.iastore, 1) := by decide +kernel
theorem dX7_point_85 : decode cX7_point 85 = .ok (.aload_n 0, 1) := by decide +kernel
theorem dX7_point_86 : decode cX7_point 86 = .ok (.getfield 20, 3) := by decide +kernel
theorem dX7_point_89 : decode cX7_point 89 = .ok (.iload 4, 2) := by decide +kernel
theorem dX7_point_91 : decode cX7_point 91 = .ok (.iload_n 3, 1) := by decide +kernel
theorem dX7_point_92 : decode cX7_point 92 = .ok (.iastore, 1) := by decide +kernel
theorem dX7_point_93 : decode cX7_point 93 = .ok (.aload_n 0, 1) := by decide +kernel
theorem dX7_point_94 : decode cX7_point 94 = .ok (.getfield 23, 3) := by decide +kernel
theorem dX7_point_97 : decode cX7_point 97 = .ok (.iload 4, 2) := by decide +kernel
theorem dX7_point_99 : decode cX7_point 99 = .ok (.iconst 0, 1) := by decide +kernel
theorem dX7_point_100 : decode cX7_point 100 = .ok (.iastore, 1) := by decide +kernel
theorem dX7_point_101 : decode cX7_point 101 = .ok (.aload_n 0, 1) := by decide +kernel
theorem dX7_point_102 : decode cX7_point 102 = .ok (.getfield 26, 3) := by decide +kernel
theorem dX7_point_105 : decode cX7_point 105 = .ok (.iload 4, 2) := by decide +kernel
theorem dX7_point_107 : decode cX7_point 107 = .ok (.iconst 0, 1) := by decide +kernel
theorem dX7_point_108 : decode cX7_point 108 = .ok (.iastore, 1) := by decide +kernel
theorem dX7_point_109 : decode cX7_point 109 = .ok (.iload 4, 2) := by decide +kernel
theorem dX7_point_111 : decode cX7_point 111 = .ok (.ireturn, 1) := by decide +kernel
theorem dX7_take_0 : decode cX7_take 0 = .ok (.aload_n 0, 1) := by decide +kernel
theorem dX7_take_1 : decode cX7_take 1 = .ok (.iload_n 1, 1) := by decide +kernel
theorem dX7_take_2 : decode cX7_take 2 = .ok (.invokevirtual 76, 3) := by decide +kernel
theorem dX7_take_5 : decode cX7_take 5 = .ok (.ifCond .ne 6, 3) := by decide +kernel
theorem dX7_take_8 : decode cX7_take 8 = .ok (.bipush (-2), 2) := by decide +kernel
theorem dX7_take_10 : decode cX7_take 10 = .ok (.ireturn, 1) := by decide +kernel
theorem dX7_take_11 : decode cX7_take 11 = .ok (.aload_n 0, 1) := by decide +kernel
theorem dX7_take_12 : decode cX7_take 12 = .ok (.getfield 7, 3) := by decide +kernel
theorem dX7_take_15 : decode cX7_take 15 = .ok (.iload_n 1, 1) := by decide +kernel
theorem dX7_take_16 : decode cX7_take 16 = .ok (.iconst 0, 1) := by decide +kernel
theorem dX7_take_17 : decode cX7_take 17 = .ok (.bastore, 1) := by decide +kernel
theorem dX7_take_18 : decode cX7_take 18 = .ok (.aload_n 0, 1) := by decide +kernel
theorem dX7_take_19 : decode cX7_take 19 = .ok (.invokevirtual 80, 3) := by decide +kernel
theorem dX7_take_22 : decode cX7_take 22 = .ok (.ireturn, 1) := by decide +kernel
theorem dX7_move_0 : decode cX7_move 0 = .ok (.aload_n 0, 1) := by decide +kernel
theorem dX7_move_1 : decode cX7_move 1 = .ok (.iload_n 1, 1) := by decide +kernel
theorem dX7_move_2 : decode cX7_move 2 = .ok (.invokevirtual 76, 3) := by decide +kernel
theorem dX7_move_5 : decode cX7_move 5 = .ok (.ifCond .eq 11, 3) := by decide +kernel
theorem dX7_move_8 : decode cX7_move 8 = .ok (.iload_n 2, 1) := by decide +kernel
theorem dX7_move_9 : decode cX7_move 9 = .ok (.iload_n 3, 1) := by decide +kernel
theorem dX7_move_10 : decode cX7_move 10 = .ok (.invokestatic 68, 3) := by decide +kernel
theorem dX7_move_13 : decode cX7_move 13 = .ok (.ifCond .ne 6, 3) := by decide +kernel
theorem dX7_move_16 : decode cX7_move 16 = .ok (.bipush (-2), 2) := by decide +kernel
theorem dX7_move_18 : decode cX7_move 18 = .ok (.ireturn, 1) := by decide +kernel
theorem dX7_move_19 : decode cX7_move 19 = .ok (.aload_n 0, 1) := by decide +kernel
theorem dX7_move_20 : decode cX7_move 20 = .ok (.getfield 13, 3) := by decide +kernel
theorem dX7_move_23 : decode cX7_move 23 = .ok (.iload_n 1, 1) := by decide +kernel
theorem dX7_move_24 : decode cX7_move 24 = .ok (.iload_n 2, 1) := by decide +kernel
theorem dX7_move_25 : decode cX7_move 25 = .ok (.iastore, 1) := by decide +kernel
theorem dX7_move_26 : decode cX7_move 26 = .ok (.aload_n 0, 1) := by decide +kernel
theorem dX7_move_27 : decode cX7_move 27 = .ok (.getfield 17, 3) := by decide +kernel
theorem dX7_move_30 : decode cX7_move 30 = .ok (.iload_n 1, 1) := by decide +kernel
theorem dX7_move_31 : decode cX7_move 31 = .ok (.iload_n 3, 1) := by decide +kernel
theorem dX7_move_32 : decode cX7_move 32 = .ok (.iastore, 1) := by decide +kernel
theorem dX7_move_33 : decode cX7_move 33 = .ok (.iconst 1, 1) := by decide +kernel
theorem dX7_move_34 : decode cX7_move 34 = .ok (.ireturn, 1) := by decide +kernel
theorem dX7_weigh_0 : decode cX7_weigh 0 = .ok (.aload_n 0, 1) := by decide +kernel
theorem dX7_weigh_1 : decode cX7_weigh 1 = .ok (.iload_n 1, 1) := by decide +kernel
theorem dX7_weigh_2 : decode cX7_weigh 2 = .ok (.invokevirtual 76, 3) := by decide +kernel
theorem dX7_weigh_5 : decode cX7_weigh 5 = .ok (.ifCond .eq 17, 3) := by decide +kernel
theorem dX7_weigh_8 : decode cX7_weigh 8 = .ok (.iload_n 2, 1) := by decide +kernel
theorem dX7_weigh_9 : decode cX7_weigh 9 = .ok (.i2l, 1) := by decide +kernel
theorem dX7_weigh_10 : decode cX7_weigh 10 = .ok (.ldc2_w 72, 3) := by decide +kernel
theorem dX7_weigh_13 : decode cX7_weigh 13 = .ok (.ldc2_w 74, 3) := by decide +kernel
theorem dX7_weigh_16 : decode cX7_weigh 16 = .ok (.invokestatic 62, 3) := by decide +kernel
theorem dX7_weigh_19 : decode cX7_weigh 19 = .ok (.ifCond .ne 7, 3) := by decide +kernel
theorem dX7_weigh_22 : decode cX7_weigh 22 = .ok (.sipush (-2000), 3) := by decide +kernel
theorem dX7_weigh_25 : decode cX7_weigh 25 = .ok (.ireturn, 1) := by decide +kernel
theorem dX7_weigh_26 : decode cX7_weigh 26 = .ok (.aload_n 0, 1) := by decide +kernel
theorem dX7_weigh_27 : decode cX7_weigh 27 = .ok (.getfield 20, 3) := by decide +kernel
theorem dX7_weigh_30 : decode cX7_weigh 30 = .ok (.iload_n 1, 1) := by decide +kernel
theorem dX7_weigh_31 : decode cX7_weigh 31 = .ok (.iaload, 1) := by decide +kernel
theorem dX7_weigh_32 : decode cX7_weigh 32 = .ok (.istore_n 3, 1) := by decide +kernel
theorem dX7_weigh_33 : decode cX7_weigh 33 = .ok (.aload_n 0, 1) := by decide +kernel
theorem dX7_weigh_34 : decode cX7_weigh 34 = .ok (.getfield 20, 3) := by decide +kernel
theorem dX7_weigh_37 : decode cX7_weigh 37 = .ok (.iload_n 1, 1) := by decide +kernel
theorem dX7_weigh_38 : decode cX7_weigh 38 = .ok (.iload_n 2, 1) := by decide +kernel
theorem dX7_weigh_39 : decode cX7_weigh 39 = .ok (.iastore, 1) := by decide +kernel
theorem dX7_weigh_40 : decode cX7_weigh 40 = .ok (.iload_n 3, 1) := by decide +kernel
theorem dX7_weigh_41 : decode cX7_weigh 41 = .ok (.ireturn, 1) := by decide +kernel
theorem dX7_pace_0 : decode cX7_pace 0 = .ok (.aload_n 0, 1) := by decide +kernel
theorem dX7_pace_1 : decode cX7_pace 1 = .ok (.iload_n 1, 1) := by decide +kernel
theorem dX7_pace_2 : decode cX7_pace 2 = .ok (.invokevirtual 76, 3) := by decide +kernel
theorem dX7_pace_5 : decode cX7_pace 5 = .ok (.ifCond .eq 31, 3) := by decide +kernel
theorem dX7_pace_8 : decode cX7_pace 8 = .ok (.iload_n 2, 1) := by decide +kernel
theorem dX7_pace_9 : decode cX7_pace 9 = .ok (.i2l, 1) := by decide +kernel
theorem dX7_pace_10 : decode cX7_pace 10 = .ok (.ldc2_w 84, 3) := by decide +kernel
theorem dX7_pace_13 : decode cX7_pace 13 = .ok (.ldc2_w 86, 3) := by decide +kernel
theorem dX7_pace_16 : decode cX7_pace 16 = .ok (.invokestatic 62, 3) := by decide +kernel
theorem dX7_pace_19 : decode cX7_pace 19 = .ok (.ifCond .eq 17, 3) := by decide +kernel
theorem dX7_pace_22 : decode cX7_pace 22 = .ok (.iload_n 3, 1) := by decide +kernel
theorem dX7_pace_23 : decode cX7_pace 23 = .ok (.i2l, 1) := by decide +kernel
theorem dX7_pace_24 : decode cX7_pace 24 = .ok (.ldc2_w 84, 3) := by decide +kernel
theorem dX7_pace_27 : decode cX7_pace 27 = .ok (.ldc2_w 86, 3) := by decide +kernel
theorem dX7_pace_30 : decode cX7_pace 30 = .ok (.invokestatic 62, 3) := by decide +kernel
theorem dX7_pace_33 : decode cX7_pace 33 = .ok (.ifCond .ne 6, 3) := by decide +kernel
theorem dX7_pace_36 : decode cX7_pace 36 = .ok (.bipush (-2), 2) := by decide +kernel
theorem dX7_pace_38 : decode cX7_pace 38 = .ok (.ireturn, 1) := by decide +kernel
theorem dX7_pace_39 : decode cX7_pace 39 = .ok (.aload_n 0, 1) := by decide +kernel
theorem dX7_pace_40 : decode cX7_pace 40 = .ok (.getfield 23, 3) := by decide +kernel
theorem dX7_pace_43 : decode cX7_pace 43 = .ok (.iload_n 1, 1) := by decide +kernel
theorem dX7_pace_44 : decode cX7_pace 44 = .ok (.iload_n 2, 1) := by decide +kernel
theorem dX7_pace_45 : decode cX7_pace 45 = .ok (.iastore, 1) := by decide +kernel
theorem dX7_pace_46 : decode cX7_pace 46 = .ok (.aload_n 0, 1) := by decide +kernel
theorem dX7_pace_47 : decode cX7_pace 47 = .ok (.getfield 26, 3) := by decide +kernel
theorem dX7_pace_50 : decode cX7_pace 50 = .ok (.iload_n 1, 1) := by decide +kernel
theorem dX7_pace_51 : decode cX7_pace 51 = .ok (.iload_n 3, 1) := by decide +kernel
theorem dX7_pace_52 : decode cX7_pace 52 = .ok (.iastore, 1) := by decide +kernel
theorem dX7_pace_53 : decode cX7_pace 53 = .ok (.iconst 1, 1) := by decide +kernel
theorem dX7_pace_54 : decode cX7_pace 54 = .ok (.ireturn, 1) := by decide +kernel
theorem dX7_at_0 : decode cX7_at 0 = .ok (.aload_n 0, 1) := by decide +kernel
theorem dX7_at_1 : decode cX7_at 1 = .ok (.iload_n 1, 1) := by decide +kernel
theorem dX7_at_2 : decode cX7_at 2 = .ok (.invokevirtual 76, 3) := by decide +kernel
theorem dX7_at_5 : decode cX7_at 5 = .ok (.ifCond .ne 7, 3) := by decide +kernel
theorem dX7_at_8 : decode cX7_at 8 = .ok (.sipush (-2000), 3) := by decide +kernel
theorem dX7_at_11 : decode cX7_at 11 = .ok (.ireturn, 1) := by decide +kernel
theorem dX7_at_12 : decode cX7_at 12 = .ok (.iload_n 2, 1) := by decide +kernel
theorem dX7_at_13 : decode cX7_at 13 = .ok (.tableswitch 70 0 4 #[35, 42, 49, 56, 63], 35) := by decide +kernel
theorem dX7_at_48 : decode cX7_at 48 = .ok (.aload_n 0, 1) := by decide +kernel
theorem dX7_at_49 : decode cX7_at 49 = .ok (.getfield 13, 3) := by decide +kernel
theorem dX7_at_52 : decode cX7_at 52 = .ok (.iload_n 1, 1) := by decide +kernel
theorem dX7_at_53 : decode cX7_at 53 = .ok (.iaload, 1) := by decide +kernel
theorem dX7_at_54 : decode cX7_at 54 = .ok (.ireturn, 1) := by decide +kernel
theorem dX7_at_55 : decode cX7_at 55 = .ok (.aload_n 0, 1) := by decide +kernel
theorem dX7_at_56 : decode cX7_at 56 = .ok (.getfield 17, 3) := by decide +kernel
theorem dX7_at_59 : decode cX7_at 59 = .ok (.iload_n 1, 1) := by decide +kernel
theorem dX7_at_60 : decode cX7_at 60 = .ok (.iaload, 1) := by decide +kernel
theorem dX7_at_61 : decode cX7_at 61 = .ok (.ireturn, 1) := by decide +kernel
theorem dX7_at_62 : decode cX7_at 62 = .ok (.aload_n 0, 1) := by decide +kernel
theorem dX7_at_63 : decode cX7_at 63 = .ok (.getfield 20, 3) := by decide +kernel
theorem dX7_at_66 : decode cX7_at 66 = .ok (.iload_n 1, 1) := by decide +kernel
theorem dX7_at_67 : decode cX7_at 67 = .ok (.iaload, 1) := by decide +kernel
theorem dX7_at_68 : decode cX7_at 68 = .ok (.ireturn, 1) := by decide +kernel
theorem dX7_at_69 : decode cX7_at 69 = .ok (.aload_n 0, 1) := by decide +kernel
theorem dX7_at_70 : decode cX7_at 70 = .ok (.getfield 23, 3) := by decide +kernel
theorem dX7_at_73 : decode cX7_at 73 = .ok (.iload_n 1, 1) := by decide +kernel
theorem dX7_at_74 : decode cX7_at 74 = .ok (.iaload, 1) := by decide +kernel
theorem dX7_at_75 : decode cX7_at 75 = .ok (.ireturn, 1) := by decide +kernel
theorem dX7_at_76 : decode cX7_at 76 = .ok (.aload_n 0, 1) := by decide +kernel
theorem dX7_at_77 : decode cX7_at 77 = .ok (.getfield 26, 3) := by decide +kernel
theorem dX7_at_80 : decode cX7_at 80 = .ok (.iload_n 1, 1) := by decide +kernel
theorem dX7_at_81 : decode cX7_at 81 = .ok (.iaload, 1) := by decide +kernel
theorem dX7_at_82 : decode cX7_at 82 = .ok (.ireturn, 1) := by decide +kernel
theorem dX7_at_83 : decode cX7_at 83 = .ok (.sipush (-2000), 3) := by decide +kernel
theorem dX7_at_86 : decode cX7_at 86 = .ok (.ireturn, 1) := by decide +kernel
theorem dX7_isPair_0 : decode cX7_isPair 0 = .ok (.iload_n 0, 1) := by decide +kernel
theorem dX7_isPair_1 : decode cX7_isPair 1 = .ok (.ifCond .lt 28, 3) := by decide +kernel
theorem dX7_isPair_4 : decode cX7_isPair 4 = .ok (.iload_n 1, 1) := by decide +kernel
theorem dX7_isPair_5 : decode cX7_isPair 5 = .ok (.ifCond .lt 24, 3) := by decide +kernel
theorem dX7_isPair_8 : decode cX7_isPair 8 = .ok (.iload_n 0, 1) := by decide +kernel
theorem dX7_isPair_9 : decode cX7_isPair 9 = .ok (.iconst 4, 1) := by decide +kernel
theorem dX7_isPair_10 : decode cX7_isPair 10 = .ok (.if_icmp .gt 19, 3) := by decide +kernel
theorem dX7_isPair_13 : decode cX7_isPair 13 = .ok (.iload_n 1, 1) := by decide +kernel
theorem dX7_isPair_14 : decode cX7_isPair 14 = .ok (.iconst 4, 1) := by decide +kernel
theorem dX7_isPair_15 : decode cX7_isPair 15 = .ok (.if_icmp .gt 14, 3) := by decide +kernel
theorem dX7_isPair_18 : decode cX7_isPair 18 = .ok (.iload_n 0, 1) := by decide +kernel
theorem dX7_isPair_19 : decode cX7_isPair 19 = .ok (.iload_n 1, 1) := by decide +kernel
theorem dX7_isPair_20 : decode cX7_isPair 20 = .ok (.iadd, 1) := by decide +kernel
theorem dX7_isPair_21 : decode cX7_isPair 21 = .ok (.iconst 4, 1) := by decide +kernel
theorem dX7_isPair_22 : decode cX7_isPair 22 = .ok (.if_icmp .gt 7, 3) := by decide +kernel
theorem dX7_isPair_25 : decode cX7_isPair 25 = .ok (.iconst 1, 1) := by decide +kernel
theorem dX7_isPair_26 : decode cX7_isPair 26 = .ok (.goto 4, 3) := by decide +kernel
theorem dX7_isPair_29 : decode cX7_isPair 29 = .ok (.iconst 0, 1) := by decide +kernel
theorem dX7_isPair_30 : decode cX7_isPair 30 = .ok (.ireturn, 1) := by decide +kernel
theorem dX7_kernel_0 : decode cX7_kernel 0 = .ok (.iload_n 1, 1) := by decide +kernel
theorem dX7_kernel_1 : decode cX7_kernel 1 = .ok (.iload_n 2, 1) := by decide +kernel
theorem dX7_kernel_2 : decode cX7_kernel 2 = .ok (.invokestatic 88, 3) := by decide +kernel
theorem dX7_kernel_5 : decode cX7_kernel 5 = .ok (.ifCond .eq 17, 3) := by decide +kernel
theorem dX7_kernel_8 : decode cX7_kernel 8 = .ok (.iload_n 3, 1) := by decide +kernel
theorem dX7_kernel_9 : decode cX7_kernel 9 = .ok (.i2l, 1) := by decide +kernel
theorem dX7_kernel_10 : decode cX7_kernel 10 = .ok (.ldc2_w 91, 3) := by decide +kernel
theorem dX7_kernel_13 : decode cX7_kernel 13 = .ok (.ldc2_w 93, 3) := by decide +kernel
theorem dX7_kernel_16 : decode cX7_kernel 16 = .ok (.invokestatic 62, 3) := by decide +kernel
theorem dX7_kernel_19 : decode cX7_kernel 19 = .ok (.ifCond .ne 7, 3) := by decide +kernel
theorem dX7_kernel_22 : decode cX7_kernel 22 = .ok (.sipush (-2000), 3) := by decide +kernel
theorem dX7_kernel_25 : decode cX7_kernel 25 = .ok (.ireturn, 1) := by decide +kernel
theorem dX7_kernel_26 : decode cX7_kernel 26 = .ok (.aload_n 0, 1) := by decide +kernel
theorem dX7_kernel_27 : decode cX7_kernel 27 = .ok (.getfield 29, 3) := by decide +kernel
theorem dX7_kernel_30 : decode cX7_kernel 30 = .ok (.iconst 5, 1) := by decide +kernel
theorem dX7_kernel_31 : decode cX7_kernel 31 = .ok (.iload_n 1, 1) := by decide +kernel
theorem dX7_kernel_32 : decode cX7_kernel 32 = .ok (.imul, 1) := by decide +kernel
theorem dX7_kernel_33 : decode cX7_kernel 33 = .ok (.iload_n 2, 1) := by decide +kernel
theorem dX7_kernel_34 : decode cX7_kernel 34 = .ok (.iadd, 1) := by decide +kernel
theorem dX7_kernel_35 : decode cX7_kernel 35 = .ok (.iaload, 1) := by decide +kernel
theorem dX7_kernel_36 : decode cX7_kernel 36 = .ok (.istore 4, 2) := by decide +kernel
theorem dX7_kernel_38 : decode cX7_kernel 38 = .ok (.aload_n 0, 1) := by decide +kernel
theorem dX7_kernel_39 : decode cX7_kernel 39 = .ok (.getfield 29, 3) := by decide +kernel
theorem dX7_kernel_42 : decode cX7_kernel 42 = .ok (.iconst 5, 1) := by decide +kernel
theorem dX7_kernel_43 : decode cX7_kernel 43 = .ok (.iload_n 1, 1) := by decide +kernel
theorem dX7_kernel_44 : decode cX7_kernel 44 = .ok (.imul, 1) := by decide +kernel
theorem dX7_kernel_45 : decode cX7_kernel 45 = .ok (.iload_n 2, 1) := by decide +kernel
theorem dX7_kernel_46 : decode cX7_kernel 46 = .ok (.iadd, 1) := by decide +kernel
theorem dX7_kernel_47 : decode cX7_kernel 47 = .ok (.iload_n 3, 1) := by decide +kernel
theorem dX7_kernel_48 : decode cX7_kernel 48 = .ok (.iastore, 1) := by decide +kernel
theorem dX7_kernel_49 : decode cX7_kernel 49 = .ok (.iload 4, 2) := by decide +kernel
theorem dX7_kernel_51 : decode cX7_kernel 51 = .ok (.ireturn, 1) := by decide +kernel
theorem dX7_capacity_0 : decode cX7_capacity 0 = .ok (.iload_n 1, 1) := by decide +kernel
theorem dX7_capacity_1 : decode cX7_capacity 1 = .ok (.i2l, 1) := by decide +kernel
theorem dX7_capacity_2 : decode cX7_capacity 2 = .ok (.lconst 1, 1) := by decide +kernel
theorem dX7_capacity_3 : decode cX7_capacity 3 = .ok (.ldc2_w 95, 3) := by decide +kernel
theorem dX7_capacity_6 : decode cX7_capacity 6 = .ok (.invokestatic 62, 3) := by decide +kernel
theorem dX7_capacity_9 : decode cX7_capacity 9 = .ok (.ifCond .ne 6, 3) := by decide +kernel
theorem dX7_capacity_12 : decode cX7_capacity 12 = .ok (.bipush (-2), 2) := by decide +kernel
theorem dX7_capacity_14 : decode cX7_capacity 14 = .ok (.ireturn, 1) := by decide +kernel
theorem dX7_capacity_15 : decode cX7_capacity 15 = .ok (.aload_n 0, 1) := by decide +kernel
theorem dX7_capacity_16 : decode cX7_capacity 16 = .ok (.getfield 32, 3) := by decide +kernel
theorem dX7_capacity_19 : decode cX7_capacity 19 = .ok (.istore_n 2, 1) := by decide +kernel
theorem dX7_capacity_20 : decode cX7_capacity 20 = .ok (.aload_n 0, 1) := by decide +kernel
theorem dX7_capacity_21 : decode cX7_capacity 21 = .ok (.iload_n 1, 1) := by decide +kernel
theorem dX7_capacity_22 : decode cX7_capacity 22 = .ok (.putfield 32, 3) := by decide +kernel
theorem dX7_capacity_25 : decode cX7_capacity 25 = .ok (.iload_n 2, 1) := by decide +kernel
theorem dX7_capacity_26 : decode cX7_capacity 26 = .ok (.ireturn, 1) := by decide +kernel
theorem dX7_power_0 : decode cX7_power 0 = .ok (.lconst 1, 1) := by decide +kernel
theorem dX7_power_1 : decode cX7_power 1 = .ok (.lstore_n 3, 1) := by decide +kernel
theorem dX7_power_2 : decode cX7_power 2 = .ok (.iconst 0, 1) := by decide +kernel
theorem dX7_power_3 : decode cX7_power 3 = .ok (.istore 5, 2) := by decide +kernel
theorem dX7_power_5 : decode cX7_power 5 = .ok (.iload 5, 2) := by decide +kernel
theorem dX7_power_7 : decode cX7_power 7 = .ok (.iload_n 2, 1) := by decide +kernel
theorem dX7_power_8 : decode cX7_power 8 = .ok (.if_icmp .ge 13, 3) := by decide +kernel
theorem dX7_power_11 : decode cX7_power 11 = .ok (.lload_n 3, 1) := by decide +kernel
theorem dX7_power_12 : decode cX7_power 12 = .ok (.lload_n 0, 1) := by decide +kernel
theorem dX7_power_13 : decode cX7_power 13 = .ok (.lmul, 1) := by decide +kernel
theorem dX7_power_14 : decode cX7_power 14 = .ok (.lstore_n 3, 1) := by decide +kernel
theorem dX7_power_15 : decode cX7_power 15 = .ok (.iinc 5 1, 3) := by decide +kernel
theorem dX7_power_18 : decode cX7_power 18 = .ok (.goto (-13), 3) := by decide +kernel
theorem dX7_power_21 : decode cX7_power 21 = .ok (.lload_n 3, 1) := by decide +kernel
theorem dX7_power_22 : decode cX7_power 22 = .ok (.lreturn, 1) := by decide +kernel
theorem dX7_pull_0 : decode cX7_pull 0 = .ok (.lconst 0, 1) := by decide +kernel
theorem dX7_pull_1 : decode cX7_pull 1 = .ok (.lstore 4, 2) := by decide +kernel
theorem dX7_pull_3 : decode cX7_pull 3 = .ok (.iconst 0, 1) := by decide +kernel
theorem dX7_pull_4 : decode cX7_pull 4 = .ok (.istore 6, 2) := by decide +kernel
theorem dX7_pull_6 : decode cX7_pull 6 = .ok (.iload 6, 2) := by decide +kernel
theorem dX7_pull_8 : decode cX7_pull 8 = .ok (.iconst 5, 1) := by decide +kernel
theorem dX7_pull_9 : decode cX7_pull 9 = .ok (.if_icmp .ge 75, 3) := by decide +kernel
theorem dX7_pull_12 : decode cX7_pull 12 = .ok (.iconst 0, 1) := by decide +kernel
theorem dX7_pull_13 : decode cX7_pull 13 = .ok (.istore 7, 2) := by decide +kernel
theorem dX7_pull_15 : decode cX7_pull 15 = .ok (.iload 6, 2) := by decide +kernel
theorem dX7_pull_17 : decode cX7_pull 17 = .ok (.iload 7, 2) := by decide +kernel
theorem dX7_pull_19 : decode cX7_pull 19 = .ok (.iadd, 1) := by decide +kernel
theorem dX7_pull_20 : decode cX7_pull 20 = .ok (.iconst 5, 1) := by decide +kernel
theorem dX7_pull_21 : decode cX7_pull 21 = .ok (.if_icmp .ge 57, 3) := by decide +kernel
theorem dX7_pull_24 : decode cX7_pull 24 = .ok (.lload 4, 2) := by decide +kernel
theorem dX7_pull_26 : decode cX7_pull 26 = .ok (.aload_n 0, 1) := by decide +kernel
theorem dX7_pull_27 : decode cX7_pull 27 = .ok (.getfield 29, 3) := by decide +kernel
theorem dX7_pull_30 : decode cX7_pull 30 = .ok (.iconst 5, 1) := by decide +kernel
theorem dX7_pull_31 : decode cX7_pull 31 = .ok (.iload 6, 2) := by decide +kernel
theorem dX7_pull_33 : decode cX7_pull 33 = .ok (.imul, 1) := by decide +kernel
theorem dX7_pull_34 : decode cX7_pull 34 = .ok (.iload 7, 2) := by decide +kernel
theorem dX7_pull_36 : decode cX7_pull 36 = .ok (.iadd, 1) := by decide +kernel
theorem dX7_pull_37 : decode cX7_pull 37 = .ok (.iaload, 1) := by decide +kernel
theorem dX7_pull_38 : decode cX7_pull 38 = .ok (.i2l, 1) := by decide +kernel
theorem dX7_pull_39 : decode cX7_pull 39 = .ok (.iload_n 2, 1) := by decide +kernel
theorem dX7_pull_40 : decode cX7_pull 40 = .ok (.aload_n 0, 1) := by decide +kernel
theorem dX7_pull_41 : decode cX7_pull 41 = .ok (.getfield 13, 3) := by decide +kernel
theorem dX7_pull_44 : decode cX7_pull 44 = .ok (.iload_n 1, 1) := by decide +kernel
theorem dX7_pull_45 : decode cX7_pull 45 = .ok (.iaload, 1) := by decide +kernel
theorem dX7_pull_46 : decode cX7_pull 46 = .ok (.isub, 1) := by decide +kernel
theorem dX7_pull_47 : decode cX7_pull 47 = .ok (.i2l, 1) := by decide +kernel
theorem dX7_pull_48 : decode cX7_pull 48 = .ok (.iload 6, 2) := by decide +kernel
theorem dX7_pull_50 : decode cX7_pull 50 = .ok (.invokestatic 97, 3) := by decide +kernel
theorem dX7_pull_53 : decode cX7_pull 53 = .ok (.lmul, 1) := by decide +kernel
theorem dX7_pull_54 : decode cX7_pull 54 = .ok (.iload_n 3, 1) := by decide +kernel
theorem dX7_pull_55 : decode cX7_pull 55 = .ok (.aload_n 0, 1) := by decide +kernel
theorem dX7_pull_56 : decode cX7_pull 56 = .ok (.getfield 17, 3) := by decide +kernel
theorem dX7_pull_59 : decode cX7_pull 59 = .ok (.iload_n 1, 1) := by decide +kernel
theorem dX7_pull_60 : decode cX7_pull 60 = .ok (.iaload, 1) := by decide +kernel
theorem dX7_pull_61 : decode cX7_pull 61 = .ok (.isub, 1) := by decide +kernel
theorem dX7_pull_62 : decode cX7_pull 62 = .ok (.i2l, 1) := by decide +kernel
theorem dX7_pull_63 : decode cX7_pull 63 = .ok (.iload 7, 2) := by decide +kernel
theorem dX7_pull_65 : decode cX7_pull 65 = .ok (.invokestatic 97, 3) := by decide +kernel
theorem dX7_pull_68 : decode cX7_pull 68 = .ok (.lmul, 1) := by decide +kernel
theorem dX7_pull_69 : decode cX7_pull 69 = .ok (.ladd, 1) := by decide +kernel
theorem dX7_pull_70 : decode cX7_pull 70 = .ok (.lstore 4, 2) := by decide +kernel
theorem dX7_pull_72 : decode cX7_pull 72 = .ok (.iinc 7 1, 3) := by decide +kernel
theorem dX7_pull_75 : decode cX7_pull 75 = .ok (.goto (-60), 3) := by decide +kernel
theorem dX7_pull_78 : decode cX7_pull 78 = .ok (.iinc 6 1, 3) := by decide +kernel
theorem dX7_pull_81 : decode cX7_pull 81 = .ok (.goto (-75), 3) := by decide +kernel
theorem dX7_pull_84 : decode cX7_pull 84 = .ok (.ldc2_w 101, 3) := by decide +kernel
theorem dX7_pull_87 : decode cX7_pull 87 = .ok (.aload_n 0, 1) := by decide +kernel
theorem dX7_pull_88 : decode cX7_pull 88 = .ok (.getfield 20, 3) := by decide +kernel
theorem dX7_pull_91 : decode cX7_pull 91 = .ok (.iload_n 1, 1) := by decide +kernel
theorem dX7_pull_92 : decode cX7_pull 92 = .ok (.iaload, 1) := by decide +kernel
theorem dX7_pull_93 : decode cX7_pull 93 = .ok (.i2l, 1) := by decide +kernel
theorem dX7_pull_94 : decode cX7_pull 94 = .ok (.lmul, 1) := by decide +kernel
theorem dX7_pull_95 : decode cX7_pull 95 = .ok (.lload 4, 2) := by decide +kernel
theorem dX7_pull_97 : decode cX7_pull 97 = .ok (.lmul, 1) := by decide +kernel
theorem dX7_pull_98 : decode cX7_pull 98 = .ok (.lreturn, 1) := by decide +kernel
theorem dX7_sumAt_0 : decode cX7_sumAt 0 = .ok (.lconst 0, 1) := by decide +kernel
theorem dX7_sumAt_1 : decode cX7_sumAt 1 = .ok (.lstore_n 3, 1) := by decide +kernel
theorem dX7_sumAt_2 : decode cX7_sumAt 2 = .ok (.iconst 0, 1) := by decide +kernel
theorem dX7_sumAt_3 : decode cX7_sumAt 3 = .ok (.istore 5, 2) := by decide +kernel
theorem dX7_sumAt_5 : decode cX7_sumAt 5 = .ok (.iload 5, 2) := by decide +kernel
theorem dX7_sumAt_7 : decode cX7_sumAt 7 = .ok (.bipush 40, 2) := by decide +kernel
theorem dX7_sumAt_9 : decode cX7_sumAt 9 = .ok (.if_icmp .ge 34, 3) := by decide +kernel
theorem dX7_sumAt_12 : decode cX7_sumAt 12 = .ok (.lload_n 3, 1) := by decide +kernel
theorem dX7_sumAt_13 : decode cX7_sumAt 13 = .ok (.aload_n 0, 1) := by decide +kernel
theorem dX7_sumAt_14 : decode cX7_sumAt 14 = .ok (.getfield 7, 3) := by decide +kernel
theorem dX7_sumAt_17 : decode cX7_sumAt 17 = .ok (.iload 5, 2) := by decide +kernel
theorem dX7_sumAt_19 : decode cX7_sumAt 19 = .ok (.baload, 1) := by decide +kernel
theorem dX7_sumAt_20 : decode cX7_sumAt 20 = .ok (.ifCond .eq 14, 3) := by decide +kernel
theorem dX7_sumAt_23 : decode cX7_sumAt 23 = .ok (.aload_n 0, 1) := by decide +kernel
theorem dX7_sumAt_24 : decode cX7_sumAt 24 = .ok (.iload 5, 2) := by decide +kernel
theorem dX7_sumAt_26 : decode cX7_sumAt 26 = .ok (.iload_n 1, 1) := by decide +kernel
theorem dX7_sumAt_27 : decode cX7_sumAt 27 = .ok (.iload_n 2, 1) := by decide +kernel
theorem dX7_sumAt_28 : decode cX7_sumAt 28 = .ok (.invokevirtual 103, 3) := by decide +kernel
theorem dX7_sumAt_31 : decode cX7_sumAt 31 = .ok (.goto 4, 3) := by decide +kernel
theorem dX7_sumAt_34 : decode cX7_sumAt 34 = .ok (.lconst 0, 1) := by decide +kernel
theorem dX7_sumAt_35 : decode cX7_sumAt 35 = .ok (.ladd, 1) := by decide +kernel
theorem dX7_sumAt_36 : decode cX7_sumAt 36 = .ok (.lstore_n 3, 1) := by decide +kernel
theorem dX7_sumAt_37 : decode cX7_sumAt 37 = .ok (.iinc 5 1, 3) := by decide +kernel
theorem dX7_sumAt_40 : decode cX7_sumAt 40 = .ok (.goto (-35), 3) := by decide +kernel
theorem dX7_sumAt_43 : decode cX7_sumAt 43 = .ok (.lload_n 3, 1) := by decide +kernel
theorem dX7_sumAt_44 : decode cX7_sumAt 44 = .ok (.lreturn, 1) := by decide +kernel
theorem dX7_sum_0 : decode cX7_sum 0 = .ok (.iload_n 1, 1) := by decide +kernel
theorem dX7_sum_1 : decode cX7_sum 1 = .ok (.iload_n 2, 1) := by decide +kernel
theorem dX7_sum_2 : decode cX7_sum 2 = .ok (.invokestatic 68, 3) := by decide +kernel
theorem dX7_sum_5 : decode cX7_sum 5 = .ok (.ifCond .eq 12, 3) := by decide +kernel
theorem dX7_sum_8 : decode cX7_sum 8 = .ok (.aload_n 0, 1) := by decide +kernel
theorem dX7_sum_9 : decode cX7_sum 9 = .ok (.iload_n 1, 1) := by decide +kernel
theorem dX7_sum_10 : decode cX7_sum 10 = .ok (.iload_n 2, 1) := by decide +kernel
theorem dX7_sum_11 : decode cX7_sum 11 = .ok (.invokevirtual 107, 3) := by decide +kernel
theorem dX7_sum_14 : decode cX7_sum 14 = .ok (.goto 6, 3) := by decide +kernel
theorem dX7_sum_17 : decode cX7_sum 17 = .ok (.ldc2_w 111, 3) := by decide +kernel
theorem dX7_sum_20 : decode cX7_sum 20 = .ok (.lreturn, 1) := by decide +kernel
theorem dX7_isIn_0 : decode cX7_isIn 0 = .ok (.bipush 6, 2) := by decide +kernel
theorem dX7_isIn_2 : decode cX7_isIn 2 = .ok (.iload_n 2, 1) := by decide +kernel
theorem dX7_isIn_3 : decode cX7_isIn 3 = .ok (.isub, 1) := by decide +kernel
theorem dX7_isIn_4 : decode cX7_isIn 4 = .ok (.istore 5, 2) := by decide +kernel
theorem dX7_isIn_6 : decode cX7_isIn 6 = .ok (.aload_n 0, 1) := by decide +kernel
theorem dX7_isIn_7 : decode cX7_isIn 7 = .ok (.getfield 7, 3) := by decide +kernel
theorem dX7_isIn_10 : decode cX7_isIn 10 = .ok (.iload_n 1, 1) := by decide +kernel
theorem dX7_isIn_11 : decode cX7_isIn 11 = .ok (.baload, 1) := by decide +kernel
theorem dX7_isIn_12 : decode cX7_isIn 12 = .ok (.ifCond .eq 34, 3) := by decide +kernel
theorem dX7_isIn_15 : decode cX7_isIn 15 = .ok (.aload_n 0, 1) := by decide +kernel
theorem dX7_isIn_16 : decode cX7_isIn 16 = .ok (.getfield 13, 3) := by decide +kernel
theorem dX7_isIn_19 : decode cX7_isIn 19 = .ok (.iload_n 1, 1) := by decide +kernel
theorem dX7_isIn_20 : decode cX7_isIn 20 = .ok (.iaload, 1) := by decide +kernel
theorem dX7_isIn_21 : decode cX7_isIn 21 = .ok (.iload 5, 2) := by decide +kernel
theorem dX7_isIn_23 : decode cX7_isIn 23 = .ok (.ishr, 1) := by decide +kernel
theorem dX7_isIn_24 : decode cX7_isIn 24 = .ok (.iload_n 3, 1) := by decide +kernel
theorem dX7_isIn_25 : decode cX7_isIn 25 = .ok (.if_icmp .ne 21, 3) := by decide +kernel
theorem dX7_isIn_28 : decode cX7_isIn 28 = .ok (.aload_n 0, 1) := by decide +kernel
theorem dX7_isIn_29 : decode cX7_isIn 29 = .ok (.getfield 17, 3) := by decide +kernel
theorem dX7_isIn_32 : decode cX7_isIn 32 = .ok (.iload_n 1, 1) := by decide +kernel
theorem dX7_isIn_33 : decode cX7_isIn 33 = .ok (.iaload, 1) := by decide +kernel
theorem dX7_isIn_34 : decode cX7_isIn 34 = .ok (.iload 5, 2) := by decide +kernel
theorem dX7_isIn_36 : decode cX7_isIn 36 = .ok (.ishr, 1) := by decide +kernel
theorem dX7_isIn_37 : decode cX7_isIn 37 = .ok (.iload 4, 2) := by decide +kernel
theorem dX7_isIn_39 : decode cX7_isIn 39 = .ok (.if_icmp .ne 7, 3) := by decide +kernel
theorem dX7_isIn_42 : decode cX7_isIn 42 = .ok (.iconst 1, 1) := by decide +kernel
theorem dX7_isIn_43 : decode cX7_isIn 43 = .ok (.goto 4, 3) := by decide +kernel
theorem dX7_isIn_46 : decode cX7_isIn 46 = .ok (.iconst 0, 1) := by decide +kernel
theorem dX7_isIn_47 : decode cX7_isIn 47 = .ok (.ireturn, 1) := by decide +kernel
theorem dX7_pointsIn_0 : decode cX7_pointsIn 0 = .ok (.iconst 0, 1) := by decide +kernel
theorem dX7_pointsIn_1 : decode cX7_pointsIn 1 = .ok (.istore 4, 2) := by decide +kernel
theorem dX7_pointsIn_3 : decode cX7_pointsIn 3 = .ok (.iconst 0, 1) := by decide +kernel
theorem dX7_pointsIn_4 : decode cX7_pointsIn 4 = .ok (.istore 5, 2) := by decide +kernel
theorem dX7_pointsIn_6 : decode cX7_pointsIn 6 = .ok (.iload 5, 2) := by decide +kernel
theorem dX7_pointsIn_8 : decode cX7_pointsIn 8 = .ok (.bipush 40, 2) := by decide +kernel
theorem dX7_pointsIn_10 : decode cX7_pointsIn 10 = .ok (.if_icmp .ge 31, 3) := by decide +kernel
theorem dX7_pointsIn_13 : decode cX7_pointsIn 13 = .ok (.iload 4, 2) := by decide +kernel
theorem dX7_pointsIn_15 : decode cX7_pointsIn 15 = .ok (.aload_n 0, 1) := by decide +kernel
theorem dX7_pointsIn_16 : decode cX7_pointsIn 16 = .ok (.iload 5, 2) := by decide +kernel
theorem dX7_pointsIn_18 : decode cX7_pointsIn 18 = .ok (.iload_n 1, 1) := by decide +kernel
theorem dX7_pointsIn_19 : decode cX7_pointsIn 19 = .ok (.iload_n 2, 1) := by decide +kernel
theorem dX7_pointsIn_20 : decode cX7_pointsIn 20 = .ok (.iload_n 3, 1) := by decide +kernel
theorem dX7_pointsIn_21 : decode cX7_pointsIn 21 = .ok (.invokevirtual 113, 3) := by decide +kernel
theorem dX7_pointsIn_24 : decode cX7_pointsIn 24 = .ok (.ifCond .eq 7, 3) := by decide +kernel
theorem dX7_pointsIn_27 : decode cX7_pointsIn 27 = .ok (.iconst 1, 1) := by decide +kernel
theorem dX7_pointsIn_28 : decode cX7_pointsIn 28 = .ok (.goto 4, 3) := by decide +kernel
theorem dX7_pointsIn_31 : decode cX7_pointsIn 31 = .ok (.iconst 0, 1) := by decide +kernel
theorem dX7_pointsIn_32 : decode cX7_pointsIn 32 = .ok (.iadd, 1) := by decide +kernel
theorem dX7_pointsIn_33 : decode cX7_pointsIn 33 = .ok (.istore 4, 2) := by decide +kernel
theorem dX7_pointsIn_35 : decode cX7_pointsIn 35 = .ok (.iinc 5 1, 3) := by decide +kernel
theorem dX7_pointsIn_38 : decode cX7_pointsIn 38 = .ok (.goto (-32), 3) := by decide +kernel
theorem dX7_pointsIn_41 : decode cX7_pointsIn 41 = .ok (.iload 4, 2) := by decide +kernel
theorem dX7_pointsIn_43 : decode cX7_pointsIn 43 = .ok (.ireturn, 1) := by decide +kernel
theorem dX7_bulk_0 : decode cX7_bulk 0 = .ok (.lconst 0, 1) := by decide +kernel
theorem dX7_bulk_1 : decode cX7_bulk 1 = .ok (.lstore 4, 2) := by decide +kernel
theorem dX7_bulk_3 : decode cX7_bulk 3 = .ok (.iconst 0, 1) := by decide +kernel
theorem dX7_bulk_4 : decode cX7_bulk 4 = .ok (.istore 6, 2) := by decide +kernel
theorem dX7_bulk_6 : decode cX7_bulk 6 = .ok (.iload 6, 2) := by decide +kernel
theorem dX7_bulk_8 : decode cX7_bulk 8 = .ok (.bipush 40, 2) := by decide +kernel
theorem dX7_bulk_10 : decode cX7_bulk 10 = .ok (.if_icmp .ge 56, 3) := by decide +kernel
theorem dX7_bulk_13 : decode cX7_bulk 13 = .ok (.aload_n 0, 1) := by decide +kernel
theorem dX7_bulk_14 : decode cX7_bulk 14 = .ok (.iload 6, 2) := by decide +kernel
theorem dX7_bulk_16 : decode cX7_bulk 16 = .ok (.iload_n 1, 1) := by decide +kernel
theorem dX7_bulk_17 : decode cX7_bulk 17 = .ok (.iload_n 2, 1) := by decide +kernel
theorem dX7_bulk_18 : decode cX7_bulk 18 = .ok (.iload_n 3, 1) := by decide +kernel
theorem dX7_bulk_19 : decode cX7_bulk 19 = .ok (.invokevirtual 113, 3) := by decide +kernel
theorem dX7_bulk_22 : decode cX7_bulk 22 = .ok (.ifCond .eq 38, 3) := by decide +kernel
theorem dX7_bulk_25 : decode cX7_bulk 25 = .ok (.lload 4, 2) := by decide +kernel
theorem dX7_bulk_27 : decode cX7_bulk 27 = .ok (.aload_n 0, 1) := by decide +kernel
theorem dX7_bulk_28 : decode cX7_bulk 28 = .ok (.getfield 20, 3) := by decide +kernel
theorem dX7_bulk_31 : decode cX7_bulk 31 = .ok (.iload 6, 2) := by decide +kernel
theorem dX7_bulk_33 : decode cX7_bulk 33 = .ok (.iaload, 1) := by decide +kernel
theorem dX7_bulk_34 : decode cX7_bulk 34 = .ok (.ifCond .ge 15, 3) := by decide +kernel
theorem dX7_bulk_37 : decode cX7_bulk 37 = .ok (.aload_n 0, 1) := by decide +kernel
theorem dX7_bulk_38 : decode cX7_bulk 38 = .ok (.getfield 20, 3) := by decide +kernel
theorem dX7_bulk_41 : decode cX7_bulk 41 = .ok (.iload 6, 2) := by decide +kernel
theorem dX7_bulk_43 : decode cX7_bulk 43 = .ok (.iaload, 1) := by decide +kernel
theorem dX7_bulk_44 : decode cX7_bulk 44 = .ok (.ineg, 1) := by decide +kernel
theorem dX7_bulk_45 : decode cX7_bulk 45 = .ok (.i2l, 1) := by decide +kernel
theorem dX7_bulk_46 : decode cX7_bulk 46 = .ok (.goto 11, 3) := by decide +kernel
theorem dX7_bulk_49 : decode cX7_bulk 49 = .ok (.aload_n 0, 1) := by decide +kernel
theorem dX7_bulk_50 : decode cX7_bulk 50 = .ok (.getfield 20, 3) := by decide +kernel
theorem dX7_bulk_53 : decode cX7_bulk 53 = .ok (.iload 6, 2) := by decide +kernel
theorem dX7_bulk_55 : decode cX7_bulk 55 = .ok (.iaload, 1) := by decide +kernel
theorem dX7_bulk_56 : decode cX7_bulk 56 = .ok (.i2l, 1) := by decide +kernel
theorem dX7_bulk_57 : decode cX7_bulk 57 = .ok (.ladd, 1) := by decide +kernel
theorem dX7_bulk_58 : decode cX7_bulk 58 = .ok (.lstore 4, 2) := by decide +kernel
theorem dX7_bulk_60 : decode cX7_bulk 60 = .ok (.iinc 6 1, 3) := by decide +kernel
theorem dX7_bulk_63 : decode cX7_bulk 63 = .ok (.goto (-57), 3) := by decide +kernel
theorem dX7_bulk_66 : decode cX7_bulk 66 = .ok (.lload 4, 2) := by decide +kernel
theorem dX7_bulk_68 : decode cX7_bulk 68 = .ok (.lreturn, 1) := by decide +kernel
theorem dX7_isSplit_0 : decode cX7_isSplit 0 = .ok (.iload_n 1, 1) := by decide +kernel
theorem dX7_isSplit_1 : decode cX7_isSplit 1 = .ok (.iconst 5, 1) := by decide +kernel
theorem dX7_isSplit_2 : decode cX7_isSplit 2 = .ok (.if_icmp .ge 21, 3) := by decide +kernel
theorem dX7_isSplit_5 : decode cX7_isSplit 5 = .ok (.aload_n 0, 1) := by decide +kernel
theorem dX7_isSplit_6 : decode cX7_isSplit 6 = .ok (.iload_n 1, 1) := by decide +kernel
theorem dX7_isSplit_7 : decode cX7_isSplit 7 = .ok (.iload_n 2, 1) := by decide +kernel
theorem dX7_isSplit_8 : decode cX7_isSplit 8 = .ok (.iload_n 3, 1) := by decide +kernel
theorem dX7_isSplit_9 : decode cX7_isSplit 9 = .ok (.invokevirtual 117, 3) := by decide +kernel
theorem dX7_isSplit_12 : decode cX7_isSplit 12 = .ok (.aload_n 0, 1) := by decide +kernel
theorem dX7_isSplit_13 : decode cX7_isSplit 13 = .ok (.getfield 32, 3) := by decide +kernel
theorem dX7_isSplit_16 : decode cX7_isSplit 16 = .ok (.if_icmp .le 7, 3) := by decide +kernel
theorem dX7_isSplit_19 : decode cX7_isSplit 19 = .ok (.iconst 1, 1) := by decide +kernel
theorem dX7_isSplit_20 : decode cX7_isSplit 20 = .ok (.goto 4, 3) := by decide +kernel
theorem dX7_isSplit_23 : decode cX7_isSplit 23 = .ok (.iconst 0, 1) := by decide +kernel
theorem dX7_isSplit_24 : decode cX7_isSplit 24 = .ok (.ireturn, 1) := by decide +kernel
theorem dX7_isBox_0 : decode cX7_isBox 0 = .ok (.iload_n 1, 1) := by decide +kernel
theorem dX7_isBox_1 : decode cX7_isBox 1 = .ok (.i2l, 1) := by decide +kernel
theorem dX7_isBox_2 : decode cX7_isBox 2 = .ok (.lconst 0, 1) := by decide +kernel
theorem dX7_isBox_3 : decode cX7_isBox 3 = .ok (.ldc2_w 121, 3) := by decide +kernel
theorem dX7_isBox_6 : decode cX7_isBox 6 = .ok (.invokestatic 62, 3) := by decide +kernel
theorem dX7_isBox_9 : decode cX7_isBox 9 = .ok (.ifCond .eq 33, 3) := by decide +kernel
theorem dX7_isBox_12 : decode cX7_isBox 12 = .ok (.iload_n 2, 1) := by decide +kernel
theorem dX7_isBox_13 : decode cX7_isBox 13 = .ok (.i2l, 1) := by decide +kernel
theorem dX7_isBox_14 : decode cX7_isBox 14 = .ok (.lconst 0, 1) := by decide +kernel
theorem dX7_isBox_15 : decode cX7_isBox 15 = .ok (.iconst 1, 1) := by decide +kernel
theorem dX7_isBox_16 : decode cX7_isBox 16 = .ok (.iload_n 1, 1) := by decide +kernel
theorem dX7_isBox_17 : decode cX7_isBox 17 = .ok (.ishl, 1) := by decide +kernel
theorem dX7_isBox_18 : decode cX7_isBox 18 = .ok (.iconst 1, 1) := by decide +kernel
theorem dX7_isBox_19 : decode cX7_isBox 19 = .ok (.isub, 1) := by decide +kernel
theorem dX7_isBox_20 : decode cX7_isBox 20 = .ok (.i2l, 1) := by decide +kernel
theorem dX7_isBox_21 : decode cX7_isBox 21 = .ok (.invokestatic 62, 3) := by decide +kernel
theorem dX7_isBox_24 : decode cX7_isBox 24 = .ok (.ifCond .eq 18, 3) := by decide +kernel
theorem dX7_isBox_27 : decode cX7_isBox 27 = .ok (.iload_n 3, 1) := by decide +kernel
theorem dX7_isBox_28 : decode cX7_isBox 28 = .ok (.i2l, 1) := by decide +kernel
theorem dX7_isBox_29 : decode cX7_isBox 29 = .ok (.lconst 0, 1) := by decide +kernel
theorem dX7_isBox_30 : decode cX7_isBox 30 = .ok (.iconst 1, 1) := by decide +kernel
theorem dX7_isBox_31 : decode cX7_isBox 31 = .ok (.iload_n 1, 1) := by decide +kernel
theorem dX7_isBox_32 : decode cX7_isBox 32 = .ok (.ishl, 1) := by decide +kernel
theorem dX7_isBox_33 : decode cX7_isBox 33 = .ok (.iconst 1, 1) := by decide +kernel
theorem dX7_isBox_34 : decode cX7_isBox 34 = .ok (.isub, 1) := by decide +kernel
theorem dX7_isBox_35 : decode cX7_isBox 35 = .ok (.i2l, 1) := by decide +kernel
theorem dX7_isBox_36 : decode cX7_isBox 36 = .ok (.invokestatic 62, 3) := by decide +kernel
theorem dX7_isBox_39 : decode cX7_isBox 39 = .ok (.ifCond .ne 5, 3) := by decide +kernel
theorem dX7_isBox_42 : decode cX7_isBox 42 = .ok (.iconst 0, 1) := by decide +kernel
theorem dX7_isBox_43 : decode cX7_isBox 43 = .ok (.ireturn, 1) := by decide +kernel
theorem dX7_isBox_44 : decode cX7_isBox 44 = .ok (.iconst 1, 1) := by decide +kernel
theorem dX7_isBox_45 : decode cX7_isBox 45 = .ok (.istore 4, 2) := by decide +kernel
theorem dX7_isBox_47 : decode cX7_isBox 47 = .ok (.iconst 0, 1) := by decide +kernel
theorem dX7_isBox_48 : decode cX7_isBox 48 = .ok (.istore 5, 2) := by decide +kernel
theorem dX7_isBox_50 : decode cX7_isBox 50 = .ok (.iload 5, 2) := by decide +kernel
theorem dX7_isBox_52 : decode cX7_isBox 52 = .ok (.iload_n 1, 1) := by decide +kernel
theorem dX7_isBox_53 : decode cX7_isBox 53 = .ok (.if_icmp .ge 42, 3) := by decide +kernel
theorem dX7_isBox_56 : decode cX7_isBox 56 = .ok (.iload 4, 2) := by decide +kernel
theorem dX7_isBox_58 : decode cX7_isBox 58 = .ok (.ifCond .eq 28, 3) := by decide +kernel
theorem dX7_isBox_61 : decode cX7_isBox 61 = .ok (.aload_n 0, 1) := by decide +kernel
theorem dX7_isBox_62 : decode cX7_isBox 62 = .ok (.iload 5, 2) := by decide +kernel
theorem dX7_isBox_64 : decode cX7_isBox 64 = .ok (.iload_n 2, 1) := by decide +kernel
theorem dX7_isBox_65 : decode cX7_isBox 65 = .ok (.iload_n 1, 1) := by decide +kernel
theorem dX7_isBox_66 : decode cX7_isBox 66 = .ok (.iload 5, 2) := by decide +kernel
theorem dX7_isBox_68 : decode cX7_isBox 68 = .ok (.isub, 1) := by decide +kernel
theorem dX7_isBox_69 : decode cX7_isBox 69 = .ok (.ishr, 1) := by decide +kernel
theorem dX7_isBox_70 : decode cX7_isBox 70 = .ok (.iload_n 3, 1) := by decide +kernel
theorem dX7_isBox_71 : decode cX7_isBox 71 = .ok (.iload_n 1, 1) := by decide +kernel
theorem dX7_isBox_72 : decode cX7_isBox 72 = .ok (.iload 5, 2) := by decide +kernel
theorem dX7_isBox_74 : decode cX7_isBox 74 = .ok (.isub, 1) := by decide +kernel
theorem dX7_isBox_75 : decode cX7_isBox 75 = .ok (.ishr, 1) := by decide +kernel
theorem dX7_isBox_76 : decode cX7_isBox 76 = .ok (.invokevirtual 123, 3) := by decide +kernel
theorem dX7_isBox_79 : decode cX7_isBox 79 = .ok (.ifCond .eq 7, 3) := by decide +kernel
theorem dX7_isBox_82 : decode cX7_isBox 82 = .ok (.iconst 1, 1) := by decide +kernel
theorem dX7_isBox_83 : decode cX7_isBox 83 = .ok (.goto 4, 3) := by decide +kernel
theorem dX7_isBox_86 : decode cX7_isBox 86 = .ok (.iconst 0, 1) := by decide +kernel
theorem dX7_isBox_87 : decode cX7_isBox 87 = .ok (.istore 4, 2) := by decide +kernel
theorem dX7_isBox_89 : decode cX7_isBox 89 = .ok (.iinc 5 1, 3) := by decide +kernel
theorem dX7_isBox_92 : decode cX7_isBox 92 = .ok (.goto (-42), 3) := by decide +kernel
theorem dX7_isBox_95 : decode cX7_isBox 95 = .ok (.iload 4, 2) := by decide +kernel
theorem dX7_isBox_97 : decode cX7_isBox 97 = .ok (.ireturn, 1) := by decide +kernel
theorem dX7_middle_0 : decode cX7_middle 0 = .ok (.bipush 64, 2) := by decide +kernel
theorem dX7_middle_2 : decode cX7_middle 2 = .ok (.iload_n 0, 1) := by decide +kernel
theorem dX7_middle_3 : decode cX7_middle 3 = .ok (.ishr, 1) := by decide +kernel
theorem dX7_middle_4 : decode cX7_middle 4 = .ok (.istore_n 2, 1) := by decide +kernel
theorem dX7_middle_5 : decode cX7_middle 5 = .ok (.iconst 2, 1) := by decide +kernel
theorem dX7_middle_6 : decode cX7_middle 6 = .ok (.iload_n 1, 1) := by decide +kernel
theorem dX7_middle_7 : decode cX7_middle 7 = .ok (.imul, 1) := by decide +kernel
theorem dX7_middle_8 : decode cX7_middle 8 = .ok (.iload_n 2, 1) := by decide +kernel
theorem dX7_middle_9 : decode cX7_middle 9 = .ok (.imul, 1) := by decide +kernel
theorem dX7_middle_10 : decode cX7_middle 10 = .ok (.iload_n 2, 1) := by decide +kernel
theorem dX7_middle_11 : decode cX7_middle 11 = .ok (.iadd, 1) := by decide +kernel
theorem dX7_middle_12 : decode cX7_middle 12 = .ok (.iconst 1, 1) := by decide +kernel
theorem dX7_middle_13 : decode cX7_middle 13 = .ok (.isub, 1) := by decide +kernel
theorem dX7_middle_14 : decode cX7_middle 14 = .ok (.ireturn, 1) := by decide +kernel
theorem dX7_momentOf_0 : decode cX7_momentOf 0 = .ok (.lconst 0, 1) := by decide +kernel
theorem dX7_momentOf_1 : decode cX7_momentOf 1 = .ok (.lstore 6, 2) := by decide +kernel
theorem dX7_momentOf_3 : decode cX7_momentOf 3 = .ok (.iconst 0, 1) := by decide +kernel
theorem dX7_momentOf_4 : decode cX7_momentOf 4 = .ok (.istore 8, 2) := by decide +kernel
theorem dX7_momentOf_6 : decode cX7_momentOf 6 = .ok (.iload 8, 2) := by decide +kernel
theorem dX7_momentOf_8 : decode cX7_momentOf 8 = .ok (.bipush 40, 2) := by decide +kernel
theorem dX7_momentOf_10 : decode cX7_momentOf 10 = .ok (.if_icmp .ge 78, 3) := by decide +kernel
theorem dX7_momentOf_13 : decode cX7_momentOf 13 = .ok (.aload_n 0, 1) := by decide +kernel
theorem dX7_momentOf_14 : decode cX7_momentOf 14 = .ok (.iload 8, 2) := by decide +kernel
theorem dX7_momentOf_16 : decode cX7_momentOf 16 = .ok (.iload_n 1, 1) := by decide +kernel
theorem dX7_momentOf_17 : decode cX7_momentOf 17 = .ok (.iload_n 2, 1) := by decide +kernel
theorem dX7_momentOf_18 : decode cX7_momentOf 18 = .ok (.iload_n 3, 1) := by decide +kernel
theorem dX7_momentOf_19 : decode cX7_momentOf 19 = .ok (.invokevirtual 113, 3) := by decide +kernel
theorem dX7_momentOf_22 : decode cX7_momentOf 22 = .ok (.ifCond .eq 60, 3) := by decide +kernel
theorem dX7_momentOf_25 : decode cX7_momentOf 25 = .ok (.lload 6, 2) := by decide +kernel
theorem dX7_momentOf_27 : decode cX7_momentOf 27 = .ok (.aload_n 0, 1) := by decide +kernel
theorem dX7_momentOf_28 : decode cX7_momentOf 28 = .ok (.getfield 20, 3) := by decide +kernel
theorem dX7_momentOf_31 : decode cX7_momentOf 31 = .ok (.iload 8, 2) := by decide +kernel
theorem dX7_momentOf_33 : decode cX7_momentOf 33 = .ok (.iaload, 1) := by decide +kernel
theorem dX7_momentOf_34 : decode cX7_momentOf 34 = .ok (.i2l, 1) := by decide +kernel
theorem dX7_momentOf_35 : decode cX7_momentOf 35 = .ok (.iconst 2, 1) := by decide +kernel
theorem dX7_momentOf_36 : decode cX7_momentOf 36 = .ok (.aload_n 0, 1) := by decide +kernel
theorem dX7_momentOf_37 : decode cX7_momentOf 37 = .ok (.getfield 13, 3) := by decide +kernel
theorem dX7_momentOf_40 : decode cX7_momentOf 40 = .ok (.iload 8, 2) := by decide +kernel
theorem dX7_momentOf_42 : decode cX7_momentOf 42 = .ok (.iaload, 1) := by decide +kernel
theorem dX7_momentOf_43 : decode cX7_momentOf 43 = .ok (.imul, 1) := by decide +kernel
theorem dX7_momentOf_44 : decode cX7_momentOf 44 = .ok (.iload_n 1, 1) := by decide +kernel
theorem dX7_momentOf_45 : decode cX7_momentOf 45 = .ok (.iload_n 2, 1) := by decide +kernel
theorem dX7_momentOf_46 : decode cX7_momentOf 46 = .ok (.invokestatic 127, 3) := by decide +kernel
theorem dX7_momentOf_49 : decode cX7_momentOf 49 = .ok (.isub, 1) := by decide +kernel
theorem dX7_momentOf_50 : decode cX7_momentOf 50 = .ok (.i2l, 1) := by decide +kernel
theorem dX7_momentOf_51 : decode cX7_momentOf 51 = .ok (.iload 4, 2) := by decide +kernel
theorem dX7_momentOf_53 : decode cX7_momentOf 53 = .ok (.invokestatic 97, 3) := by decide +kernel
theorem dX7_momentOf_56 : decode cX7_momentOf 56 = .ok (.lmul, 1) := by decide +kernel
theorem dX7_momentOf_57 : decode cX7_momentOf 57 = .ok (.iconst 2, 1) := by decide +kernel
theorem dX7_momentOf_58 : decode cX7_momentOf 58 = .ok (.aload_n 0, 1) := by decide +kernel
theorem dX7_momentOf_59 : decode cX7_momentOf 59 = .ok (.getfield 17, 3) := by decide +kernel
theorem dX7_momentOf_62 : decode cX7_momentOf 62 = .ok (.iload 8, 2) := by decide +kernel
theorem dX7_momentOf_64 : decode cX7_momentOf 64 = .ok (.iaload, 1) := by decide +kernel
theorem dX7_momentOf_65 : decode cX7_momentOf 65 = .ok (.imul, 1) := by decide +kernel
theorem dX7_momentOf_66 : decode cX7_momentOf 66 = .ok (.iload_n 1, 1) := by decide +kernel
theorem dX7_momentOf_67 : decode cX7_momentOf 67 = .ok (.iload_n 3, 1) := by decide +kernel
theorem dX7_momentOf_68 : decode cX7_momentOf 68 = .ok (.invokestatic 127, 3) := by decide +kernel
theorem dX7_momentOf_71 : decode cX7_momentOf 71 = .ok (.isub, 1) := by decide +kernel
theorem dX7_momentOf_72 : decode cX7_momentOf 72 = .ok (.i2l, 1) := by decide +kernel
theorem dX7_momentOf_73 : decode cX7_momentOf 73 = .ok (.iload 5, 2) := by decide +kernel
theorem dX7_momentOf_75 : decode cX7_momentOf 75 = .ok (.invokestatic 97, 3) := by decide +kernel
theorem dX7_momentOf_78 : decode cX7_momentOf 78 = .ok (.lmul, 1) := by decide +kernel
theorem dX7_momentOf_79 : decode cX7_momentOf 79 = .ok (.ladd, 1) := by decide +kernel
theorem dX7_momentOf_80 : decode cX7_momentOf 80 = .ok (.lstore 6, 2) := by decide +kernel
theorem dX7_momentOf_82 : decode cX7_momentOf 82 = .ok (.iinc 8 1, 3) := by decide +kernel
theorem dX7_momentOf_85 : decode cX7_momentOf 85 = .ok (.goto (-79), 3) := by decide +kernel
theorem dX7_momentOf_88 : decode cX7_momentOf 88 = .ok (.lload 6, 2) := by decide +kernel
theorem dX7_momentOf_90 : decode cX7_momentOf 90 = .ok (.lreturn, 1) := by decide +kernel
theorem dX7_box_0 : decode cX7_box 0 = .ok (.aload_n 0, 1) := by decide +kernel
theorem dX7_box_1 : decode cX7_box 1 = .ok (.iload_n 1, 1) := by decide +kernel
theorem dX7_box_2 : decode cX7_box 2 = .ok (.iload_n 2, 1) := by decide +kernel
theorem dX7_box_3 : decode cX7_box 3 = .ok (.iload_n 3, 1) := by decide +kernel
theorem dX7_box_4 : decode cX7_box 4 = .ok (.invokevirtual 131, 3) := by decide +kernel
theorem dX7_box_7 : decode cX7_box 7 = .ok (.ifCond .eq 16, 3) := by decide +kernel
theorem dX7_box_10 : decode cX7_box 10 = .ok (.iload 4, 2) := by decide +kernel
theorem dX7_box_12 : decode cX7_box 12 = .ok (.i2l, 1) := by decide +kernel
theorem dX7_box_13 : decode cX7_box 13 = .ok (.lconst 0, 1) := by decide +kernel
theorem dX7_box_14 : decode cX7_box 14 = .ok (.ldc2_w 134, 3) := by decide +kernel
theorem dX7_box_17 : decode cX7_box 17 = .ok (.invokestatic 62, 3) := by decide +kernel
theorem dX7_box_20 : decode cX7_box 20 = .ok (.ifCond .ne 6, 3) := by decide +kernel
theorem dX7_box_23 : decode cX7_box 23 = .ok (.bipush (-2), 2) := by decide +kernel
theorem dX7_box_25 : decode cX7_box 25 = .ok (.ireturn, 1) := by decide +kernel
theorem dX7_box_26 : decode cX7_box 26 = .ok (.iload 4, 2) := by decide +kernel
theorem dX7_box_28 : decode cX7_box 28 = .ok (.ifCond .ne 13, 3) := by decide +kernel
theorem dX7_box_31 : decode cX7_box 31 = .ok (.aload_n 0, 1) := by decide +kernel
theorem dX7_box_32 : decode cX7_box 32 = .ok (.iload_n 1, 1) := by decide +kernel
theorem dX7_box_33 : decode cX7_box 33 = .ok (.iload_n 2, 1) := by decide +kernel
theorem dX7_box_34 : decode cX7_box 34 = .ok (.iload_n 3, 1) := by decide +kernel
theorem dX7_box_35 : decode cX7_box 35 = .ok (.invokevirtual 117, 3) := by decide +kernel
theorem dX7_box_38 : decode cX7_box 38 = .ok (.goto 35, 3) := by decide +kernel
theorem dX7_box_41 : decode cX7_box 41 = .ok (.iload 4, 2) := by decide +kernel
theorem dX7_box_43 : decode cX7_box 43 = .ok (.iconst 1, 1) := by decide +kernel
theorem dX7_box_44 : decode cX7_box 44 = .ok (.if_icmp .ne 14, 3) := by decide +kernel
theorem dX7_box_47 : decode cX7_box 47 = .ok (.aload_n 0, 1) := by decide +kernel
theorem dX7_box_48 : decode cX7_box 48 = .ok (.iload_n 1, 1) := by decide +kernel
theorem dX7_box_49 : decode cX7_box 49 = .ok (.iload_n 2, 1) := by decide +kernel
theorem dX7_box_50 : decode cX7_box 50 = .ok (.iload_n 3, 1) := by decide +kernel
theorem dX7_box_51 : decode cX7_box 51 = .ok (.invokevirtual 136, 3) := by decide +kernel
theorem dX7_box_54 : decode cX7_box 54 = .ok (.l2i, 1) := by decide +kernel
theorem dX7_box_55 : decode cX7_box 55 = .ok (.goto 18, 3) := by decide +kernel
theorem dX7_box_58 : decode cX7_box 58 = .ok (.aload_n 0, 1) := by decide +kernel
theorem dX7_box_59 : decode cX7_box 59 = .ok (.iload_n 1, 1) := by decide +kernel
theorem dX7_box_60 : decode cX7_box 60 = .ok (.iload_n 2, 1) := by decide +kernel
theorem dX7_box_61 : decode cX7_box 61 = .ok (.iload_n 3, 1) := by decide +kernel
theorem dX7_box_62 : decode cX7_box 62 = .ok (.invokevirtual 123, 3) := by decide +kernel
theorem dX7_box_65 : decode cX7_box 65 = .ok (.ifCond .eq 7, 3) := by decide +kernel
theorem dX7_box_68 : decode cX7_box 68 = .ok (.iconst 1, 1) := by decide +kernel
theorem dX7_box_69 : decode cX7_box 69 = .ok (.goto 4, 3) := by decide +kernel
theorem dX7_box_72 : decode cX7_box 72 = .ok (.iconst 0, 1) := by decide +kernel
theorem dX7_box_73 : decode cX7_box 73 = .ok (.ireturn, 1) := by decide +kernel
theorem dX7_moment_0 : decode cX7_moment 0 = .ok (.aload_n 0, 1) := by decide +kernel
theorem dX7_moment_1 : decode cX7_moment 1 = .ok (.iload_n 1, 1) := by decide +kernel
theorem dX7_moment_2 : decode cX7_moment 2 = .ok (.iload_n 2, 1) := by decide +kernel
theorem dX7_moment_3 : decode cX7_moment 3 = .ok (.iload_n 3, 1) := by decide +kernel
theorem dX7_moment_4 : decode cX7_moment 4 = .ok (.invokevirtual 131, 3) := by decide +kernel
theorem dX7_moment_7 : decode cX7_moment 7 = .ok (.ifCond .eq 27, 3) := by decide +kernel
theorem dX7_moment_10 : decode cX7_moment 10 = .ok (.iload 4, 2) := by decide +kernel
theorem dX7_moment_12 : decode cX7_moment 12 = .ok (.iload 5, 2) := by decide +kernel
theorem dX7_moment_14 : decode cX7_moment 14 = .ok (.invokestatic 88, 3) := by decide +kernel
theorem dX7_moment_17 : decode cX7_moment 17 = .ok (.ifCond .eq 17, 3) := by decide +kernel
theorem dX7_moment_20 : decode cX7_moment 20 = .ok (.aload_n 0, 1) := by decide +kernel
theorem dX7_moment_21 : decode cX7_moment 21 = .ok (.iload_n 1, 1) := by decide +kernel
theorem dX7_moment_22 : decode cX7_moment 22 = .ok (.iload_n 2, 1) := by decide +kernel
theorem dX7_moment_23 : decode cX7_moment 23 = .ok (.iload_n 3, 1) := by decide +kernel
theorem dX7_moment_24 : decode cX7_moment 24 = .ok (.iload 4, 2) := by decide +kernel
theorem dX7_moment_26 : decode cX7_moment 26 = .ok (.iload 5, 2) := by decide +kernel
theorem dX7_moment_28 : decode cX7_moment 28 = .ok (.invokevirtual 139, 3) := by decide +kernel
theorem dX7_moment_31 : decode cX7_moment 31 = .ok (.goto 6, 3) := by decide +kernel
theorem dX7_moment_34 : decode cX7_moment 34 = .ok (.ldc2_w 111, 3) := by decide +kernel
theorem dX7_moment_37 : decode cX7_moment 37 = .ok (.lreturn, 1) := by decide +kernel
theorem dX7_leaf_0 : decode cX7_leaf 0 = .ok (.iload_n 1, 1) := by decide +kernel
theorem dX7_leaf_1 : decode cX7_leaf 1 = .ok (.iload_n 2, 1) := by decide +kernel
theorem dX7_leaf_2 : decode cX7_leaf 2 = .ok (.invokestatic 68, 3) := by decide +kernel
theorem dX7_leaf_5 : decode cX7_leaf 5 = .ok (.ifCond .ne 6, 3) := by decide +kernel
theorem dX7_leaf_8 : decode cX7_leaf 8 = .ok (.bipush (-2), 2) := by decide +kernel
theorem dX7_leaf_10 : decode cX7_leaf 10 = .ok (.ireturn, 1) := by decide +kernel
theorem dX7_leaf_11 : decode cX7_leaf 11 = .ok (.iconst 0, 1) := by decide +kernel
theorem dX7_leaf_12 : decode cX7_leaf 12 = .ok (.istore_n 3, 1) := by decide +kernel
theorem dX7_leaf_13 : decode cX7_leaf 13 = .ok (.aload_n 0, 1) := by decide +kernel
theorem dX7_leaf_14 : decode cX7_leaf 14 = .ok (.iload_n 3, 1) := by decide +kernel
theorem dX7_leaf_15 : decode cX7_leaf 15 = .ok (.iload_n 1, 1) := by decide +kernel
theorem dX7_leaf_16 : decode cX7_leaf 16 = .ok (.bipush 6, 2) := by decide +kernel
theorem dX7_leaf_18 : decode cX7_leaf 18 = .ok (.iload_n 3, 1) := by decide +kernel
theorem dX7_leaf_19 : decode cX7_leaf 19 = .ok (.isub, 1) := by decide +kernel
theorem dX7_leaf_20 : decode cX7_leaf 20 = .ok (.ishr, 1) := by decide +kernel
theorem dX7_leaf_21 : decode cX7_leaf 21 = .ok (.iload_n 2, 1) := by decide +kernel
theorem dX7_leaf_22 : decode cX7_leaf 22 = .ok (.bipush 6, 2) := by decide +kernel
theorem dX7_leaf_24 : decode cX7_leaf 24 = .ok (.iload_n 3, 1) := by decide +kernel
theorem dX7_leaf_25 : decode cX7_leaf 25 = .ok (.isub, 1) := by decide +kernel
theorem dX7_leaf_26 : decode cX7_leaf 26 = .ok (.ishr, 1) := by decide +kernel
theorem dX7_leaf_27 : decode cX7_leaf 27 = .ok (.invokevirtual 123, 3) := by decide +kernel
theorem dX7_leaf_30 : decode cX7_leaf 30 = .ok (.ifCond .eq 9, 3) := by decide +kernel
theorem dX7_leaf_33 : decode cX7_leaf 33 = .ok (.iinc 3 1, 3) := by decide +kernel
theorem dX7_leaf_36 : decode cX7_leaf 36 = .ok (.goto (-23), 3) := by decide +kernel
theorem dX7_leaf_39 : decode cX7_leaf 39 = .ok (.iload_n 3, 1) := by decide +kernel
theorem dX7_leaf_40 : decode cX7_leaf 40 = .ok (.ireturn, 1) := by decide +kernel
theorem dX7_choose_0 : decode cX7_choose 0 = .ok (.lconst 1, 1) := by decide +kernel
theorem dX7_choose_1 : decode cX7_choose 1 = .ok (.lstore_n 2, 1) := by decide +kernel
theorem dX7_choose_2 : decode cX7_choose 2 = .ok (.iconst 0, 1) := by decide +kernel
theorem dX7_choose_3 : decode cX7_choose 3 = .ok (.istore 4, 2) := by decide +kernel
theorem dX7_choose_5 : decode cX7_choose 5 = .ok (.iload 4, 2) := by decide +kernel
theorem dX7_choose_7 : decode cX7_choose 7 = .ok (.iload_n 1, 1) := by decide +kernel
theorem dX7_choose_8 : decode cX7_choose 8 = .ok (.if_icmp .ge 23, 3) := by decide +kernel
theorem dX7_choose_11 : decode cX7_choose 11 = .ok (.lload_n 2, 1) := by decide +kernel
theorem dX7_choose_12 : decode cX7_choose 12 = .ok (.iload_n 0, 1) := by decide +kernel
theorem dX7_choose_13 : decode cX7_choose 13 = .ok (.iload 4, 2) := by decide +kernel
theorem dX7_choose_15 : decode cX7_choose 15 = .ok (.isub, 1) := by decide +kernel
theorem dX7_choose_16 : decode cX7_choose 16 = .ok (.i2l, 1) := by decide +kernel
theorem dX7_choose_17 : decode cX7_choose 17 = .ok (.lmul, 1) := by decide +kernel
theorem dX7_choose_18 : decode cX7_choose 18 = .ok (.iload 4, 2) := by decide +kernel
theorem dX7_choose_20 : decode cX7_choose 20 = .ok (.iconst 1, 1) := by decide +kernel
theorem dX7_choose_21 : decode cX7_choose 21 = .ok (.iadd, 1) := by decide +kernel
theorem dX7_choose_22 : decode cX7_choose 22 = .ok (.i2l, 1) := by decide +kernel
theorem dX7_choose_23 : decode cX7_choose 23 = .ok (.ldiv, 1) := by decide +kernel
theorem dX7_choose_24 : decode cX7_choose 24 = .ok (.lstore_n 2, 1) := by decide +kernel
theorem dX7_choose_25 : decode cX7_choose 25 = .ok (.iinc 4 1, 3) := by decide +kernel
theorem dX7_choose_28 : decode cX7_choose 28 = .ok (.goto (-23), 3) := by decide +kernel
theorem dX7_choose_31 : decode cX7_choose 31 = .ok (.lload_n 2, 1) := by decide +kernel
theorem dX7_choose_32 : decode cX7_choose 32 = .ok (.lreturn, 1) := by decide +kernel
theorem dX7_term_0 : decode cX7_term 0 = .ok (.ldc2_w 134, 3) := by decide +kernel
theorem dX7_term_3 : decode cX7_term 3 = .ok (.iload 4, 2) := by decide +kernel
theorem dX7_term_5 : decode cX7_term 5 = .ok (.i2l, 1) := by decide +kernel
theorem dX7_term_6 : decode cX7_term 6 = .ok (.lmul, 1) := by decide +kernel
theorem dX7_term_7 : decode cX7_term 7 = .ok (.iload_n 1, 1) := by decide +kernel
theorem dX7_term_8 : decode cX7_term 8 = .ok (.iload_n 2, 1) := by decide +kernel
theorem dX7_term_9 : decode cX7_term 9 = .ok (.invokestatic 127, 3) := by decide +kernel
theorem dX7_term_12 : decode cX7_term 12 = .ok (.i2l, 1) := by decide +kernel
theorem dX7_term_13 : decode cX7_term 13 = .ok (.lsub, 1) := by decide +kernel
theorem dX7_term_14 : decode cX7_term 14 = .ok (.lstore 7, 2) := by decide +kernel
theorem dX7_term_16 : decode cX7_term 16 = .ok (.ldc2_w 134, 3) := by decide +kernel
theorem dX7_term_19 : decode cX7_term 19 = .ok (.iload 5, 2) := by decide +kernel
theorem dX7_term_21 : decode cX7_term 21 = .ok (.i2l, 1) := by decide +kernel
theorem dX7_term_22 : decode cX7_term 22 = .ok (.lmul, 1) := by decide +kernel
theorem dX7_term_23 : decode cX7_term 23 = .ok (.iload_n 1, 1) := by decide +kernel
theorem dX7_term_24 : decode cX7_term 24 = .ok (.iload_n 3, 1) := by decide +kernel
theorem dX7_term_25 : decode cX7_term 25 = .ok (.invokestatic 127, 3) := by decide +kernel
theorem dX7_term_28 : decode cX7_term 28 = .ok (.i2l, 1) := by decide +kernel
theorem dX7_term_29 : decode cX7_term 29 = .ok (.lsub, 1) := by decide +kernel
theorem dX7_term_30 : decode cX7_term 30 = .ok (.lstore 9, 2) := by decide +kernel
theorem dX7_term_32 : decode cX7_term 32 = .ok (.lconst 0, 1) := by decide +kernel
theorem dX7_term_33 : decode cX7_term 33 = .ok (.lstore 11, 2) := by decide +kernel
theorem dX7_term_35 : decode cX7_term 35 = .ok (.iconst 0, 1) := by decide +kernel
theorem dX7_term_36 : decode cX7_term 36 = .ok (.istore 13, 2) := by decide +kernel
theorem dX7_term_38 : decode cX7_term 38 = .ok (.iload 13, 2) := by decide +kernel
theorem dX7_term_40 : decode cX7_term 40 = .ok (.iload 6, 2) := by decide +kernel
theorem dX7_term_42 : decode cX7_term 42 = .ok (.if_icmp .gt 167, 3) := by decide +kernel
theorem dX7_term_45 : decode cX7_term 45 = .ok (.iconst 0, 1) := by decide +kernel
theorem dX7_term_46 : decode cX7_term 46 = .ok (.istore 14, 2) := by decide +kernel
theorem dX7_term_48 : decode cX7_term 48 = .ok (.iload 13, 2) := by decide +kernel
theorem dX7_term_50 : decode cX7_term 50 = .ok (.iload 14, 2) := by decide +kernel
theorem dX7_term_52 : decode cX7_term 52 = .ok (.iadd, 1) := by decide +kernel
theorem dX7_term_53 : decode cX7_term 53 = .ok (.iload 6, 2) := by decide +kernel
theorem dX7_term_55 : decode cX7_term 55 = .ok (.if_icmp .gt 148, 3) := by decide +kernel
theorem dX7_term_58 : decode cX7_term 58 = .ok (.lconst 0, 1) := by decide +kernel
theorem dX7_term_59 : decode cX7_term 59 = .ok (.lstore 15, 2) := by decide +kernel
theorem dX7_term_61 : decode cX7_term 61 = .ok (.iload 13, 2) := by decide +kernel
theorem dX7_term_63 : decode cX7_term 63 = .ok (.istore 17, 2) := by decide +kernel
theorem dX7_term_65 : decode cX7_term 65 = .ok (.iload 17, 2) := by decide +kernel
theorem dX7_term_67 : decode cX7_term 67 = .ok (.iconst 5, 1) := by decide +kernel
theorem dX7_term_68 : decode cX7_term 68 = .ok (.if_icmp .ge 94, 3) := by decide +kernel
theorem dX7_term_71 : decode cX7_term 71 = .ok (.iload 14, 2) := by decide +kernel
theorem dX7_term_73 : decode cX7_term 73 = .ok (.istore 18, 2) := by decide +kernel
theorem dX7_term_75 : decode cX7_term 75 = .ok (.iload 17, 2) := by decide +kernel
theorem dX7_term_77 : decode cX7_term 77 = .ok (.iload 18, 2) := by decide +kernel
theorem dX7_term_79 : decode cX7_term 79 = .ok (.iadd, 1) := by decide +kernel
theorem dX7_term_80 : decode cX7_term 80 = .ok (.iconst 5, 1) := by decide +kernel
theorem dX7_term_81 : decode cX7_term 81 = .ok (.if_icmp .ge 75, 3) := by decide +kernel
theorem dX7_term_84 : decode cX7_term 84 = .ok (.lload 15, 2) := by decide +kernel
theorem dX7_term_86 : decode cX7_term 86 = .ok (.aload_n 0, 1) := by decide +kernel
theorem dX7_term_87 : decode cX7_term 87 = .ok (.getfield 29, 3) := by decide +kernel
theorem dX7_term_90 : decode cX7_term 90 = .ok (.iconst 5, 1) := by decide +kernel
theorem dX7_term_91 : decode cX7_term 91 = .ok (.iload 17, 2) := by decide +kernel
theorem dX7_term_93 : decode cX7_term 93 = .ok (.imul, 1) := by decide +kernel
theorem dX7_term_94 : decode cX7_term 94 = .ok (.iload 18, 2) := by decide +kernel
theorem dX7_term_96 : decode cX7_term 96 = .ok (.iadd, 1) := by decide +kernel
theorem dX7_term_97 : decode cX7_term 97 = .ok (.iaload, 1) := by decide +kernel
theorem dX7_term_98 : decode cX7_term 98 = .ok (.i2l, 1) := by decide +kernel
theorem dX7_term_99 : decode cX7_term 99 = .ok (.ldc2_w 101, 3) := by decide +kernel
theorem dX7_term_102 : decode cX7_term 102 = .ok (.iload 17, 2) := by decide +kernel
theorem dX7_term_104 : decode cX7_term 104 = .ok (.iload 18, 2) := by decide +kernel
theorem dX7_term_106 : decode cX7_term 106 = .ok (.iadd, 1) := by decide +kernel
theorem dX7_term_107 : decode cX7_term 107 = .ok (.lshr, 1) := by decide +kernel
theorem dX7_term_108 : decode cX7_term 108 = .ok (.lmul, 1) := by decide +kernel
theorem dX7_term_109 : decode cX7_term 109 = .ok (.iload 17, 2) := by decide +kernel
theorem dX7_term_111 : decode cX7_term 111 = .ok (.iload 13, 2) := by decide +kernel
theorem dX7_term_113 : decode cX7_term 113 = .ok (.invokestatic 143, 3) := by decide +kernel
theorem dX7_term_116 : decode cX7_term 116 = .ok (.lmul, 1) := by decide +kernel
theorem dX7_term_117 : decode cX7_term 117 = .ok (.iload 18, 2) := by decide +kernel
theorem dX7_term_119 : decode cX7_term 119 = .ok (.iload 14, 2) := by decide +kernel
theorem dX7_term_121 : decode cX7_term 121 = .ok (.invokestatic 143, 3) := by decide +kernel
theorem dX7_term_124 : decode cX7_term 124 = .ok (.lmul, 1) := by decide +kernel
theorem dX7_term_125 : decode cX7_term 125 = .ok (.lload 7, 2) := by decide +kernel
theorem dX7_term_127 : decode cX7_term 127 = .ok (.iload 17, 2) := by decide +kernel
theorem dX7_term_129 : decode cX7_term 129 = .ok (.iload 13, 2) := by decide +kernel
theorem dX7_term_131 : decode cX7_term 131 = .ok (.isub, 1) := by decide +kernel
theorem dX7_term_132 : decode cX7_term 132 = .ok (.invokestatic 97, 3) := by decide +kernel
theorem dX7_term_135 : decode cX7_term 135 = .ok (.lmul, 1) := by decide +kernel
theorem dX7_term_136 : decode cX7_term 136 = .ok (.lload 9, 2) := by decide +kernel
theorem dX7_term_138 : decode cX7_term 138 = .ok (.iload 18, 2) := by decide +kernel
theorem dX7_term_140 : decode cX7_term 140 = .ok (.iload 14, 2) := by decide +kernel
theorem dX7_term_142 : decode cX7_term 142 = .ok (.isub, 1) := by decide +kernel
theorem dX7_term_143 : decode cX7_term 143 = .ok (.invokestatic 97, 3) := by decide +kernel
theorem dX7_term_146 : decode cX7_term 146 = .ok (.lmul, 1) := by decide +kernel
theorem dX7_term_147 : decode cX7_term 147 = .ok (.ladd, 1) := by decide +kernel
theorem dX7_term_148 : decode cX7_term 148 = .ok (.lstore 15, 2) := by decide +kernel
theorem dX7_term_150 : decode cX7_term 150 = .ok (.iinc 18 1, 3) := by decide +kernel
theorem dX7_term_153 : decode cX7_term 153 = .ok (.goto (-78), 3) := by decide +kernel
theorem dX7_term_156 : decode cX7_term 156 = .ok (.iinc 17 1, 3) := by decide +kernel
theorem dX7_term_159 : decode cX7_term 159 = .ok (.goto (-94), 3) := by decide +kernel
theorem dX7_term_162 : decode cX7_term 162 = .ok (.lload 11, 2) := by decide +kernel
theorem dX7_term_164 : decode cX7_term 164 = .ok (.iload 13, 2) := by decide +kernel
theorem dX7_term_166 : decode cX7_term 166 = .ok (.iload 14, 2) := by decide +kernel
theorem dX7_term_168 : decode cX7_term 168 = .ok (.iadd, 1) := by decide +kernel
theorem dX7_term_169 : decode cX7_term 169 = .ok (.iconst 2, 1) := by decide +kernel
theorem dX7_term_170 : decode cX7_term 170 = .ok (.irem, 1) := by decide +kernel
theorem dX7_term_171 : decode cX7_term 171 = .ok (.ifCond .ne 8, 3) := by decide +kernel
theorem dX7_term_174 : decode cX7_term 174 = .ok (.lload 15, 2) := by decide +kernel
theorem dX7_term_176 : decode cX7_term 176 = .ok (.goto 6, 3) := by decide +kernel
theorem dX7_term_179 : decode cX7_term 179 = .ok (.lload 15, 2) := by decide +kernel
theorem dX7_term_181 : decode cX7_term 181 = .ok (.lneg, 1) := by decide +kernel
theorem dX7_term_182 : decode cX7_term 182 = .ok (.aload_n 0, 1) := by decide +kernel
theorem dX7_term_183 : decode cX7_term 183 = .ok (.iload_n 1, 1) := by decide +kernel
theorem dX7_term_184 : decode cX7_term 184 = .ok (.iload_n 2, 1) := by decide +kernel
theorem dX7_term_185 : decode cX7_term 185 = .ok (.iload_n 3, 1) := by decide +kernel
theorem dX7_term_186 : decode cX7_term 186 = .ok (.iload 13, 2) := by decide +kernel
theorem dX7_term_188 : decode cX7_term 188 = .ok (.iload 14, 2) := by decide +kernel
theorem dX7_term_190 : decode cX7_term 190 = .ok (.invokevirtual 139, 3) := by decide +kernel
theorem dX7_term_193 : decode cX7_term 193 = .ok (.lmul, 1) := by decide +kernel
theorem dX7_term_194 : decode cX7_term 194 = .ok (.ladd, 1) := by decide +kernel
theorem dX7_term_195 : decode cX7_term 195 = .ok (.lstore 11, 2) := by decide +kernel
theorem dX7_term_197 : decode cX7_term 197 = .ok (.iinc 14 1, 3) := by decide +kernel
theorem dX7_term_200 : decode cX7_term 200 = .ok (.goto (-152), 3) := by decide +kernel
theorem dX7_term_203 : decode cX7_term 203 = .ok (.iinc 13 1, 3) := by decide +kernel
theorem dX7_term_206 : decode cX7_term 206 = .ok (.goto (-168), 3) := by decide +kernel
theorem dX7_term_209 : decode cX7_term 209 = .ok (.lload 11, 2) := by decide +kernel
theorem dX7_term_211 : decode cX7_term 211 = .ok (.lreturn, 1) := by decide +kernel
theorem dX7_size_0 : decode cX7_size 0 = .ok (.lload_n 0, 1) := by decide +kernel
theorem dX7_size_1 : decode cX7_size 1 = .ok (.lconst 0, 1) := by decide +kernel
theorem dX7_size_2 : decode cX7_size 2 = .ok (.lcmp, 1) := by decide +kernel
theorem dX7_size_3 : decode cX7_size 3 = .ok (.ifCond .ge 8, 3) := by decide +kernel
theorem dX7_size_6 : decode cX7_size 6 = .ok (.lload_n 0, 1) := by decide +kernel
theorem dX7_size_7 : decode cX7_size 7 = .ok (.lneg, 1) := by decide +kernel
theorem dX7_size_8 : decode cX7_size 8 = .ok (.goto 4, 3) := by decide +kernel
theorem dX7_size_11 : decode cX7_size 11 = .ok (.lload_n 0, 1) := by decide +kernel
theorem dX7_size_12 : decode cX7_size 12 = .ok (.lreturn, 1) := by decide +kernel
theorem dX7_endOf_0 : decode cX7_endOf 0 = .ok (.ldc2_w 134, 3) := by decide +kernel
theorem dX7_endOf_3 : decode cX7_endOf 3 = .ok (.iload 4, 2) := by decide +kernel
theorem dX7_endOf_5 : decode cX7_endOf 5 = .ok (.i2l, 1) := by decide +kernel
theorem dX7_endOf_6 : decode cX7_endOf 6 = .ok (.lmul, 1) := by decide +kernel
theorem dX7_endOf_7 : decode cX7_endOf 7 = .ok (.iload_n 1, 1) := by decide +kernel
theorem dX7_endOf_8 : decode cX7_endOf 8 = .ok (.iload_n 2, 1) := by decide +kernel
theorem dX7_endOf_9 : decode cX7_endOf 9 = .ok (.invokestatic 127, 3) := by decide +kernel
theorem dX7_endOf_12 : decode cX7_endOf 12 = .ok (.i2l, 1) := by decide +kernel
theorem dX7_endOf_13 : decode cX7_endOf 13 = .ok (.lsub, 1) := by decide +kernel
theorem dX7_endOf_14 : decode cX7_endOf 14 = .ok (.invokestatic 146, 3) := by decide +kernel
theorem dX7_endOf_17 : decode cX7_endOf 17 = .ok (.lstore 7, 2) := by decide +kernel
theorem dX7_endOf_19 : decode cX7_endOf 19 = .ok (.ldc2_w 134, 3) := by decide +kernel
theorem dX7_endOf_22 : decode cX7_endOf 22 = .ok (.iload 5, 2) := by decide +kernel
theorem dX7_endOf_24 : decode cX7_endOf 24 = .ok (.i2l, 1) := by decide +kernel
theorem dX7_endOf_25 : decode cX7_endOf 25 = .ok (.lmul, 1) := by decide +kernel
theorem dX7_endOf_26 : decode cX7_endOf 26 = .ok (.iload_n 1, 1) := by decide +kernel
theorem dX7_endOf_27 : decode cX7_endOf 27 = .ok (.iload_n 3, 1) := by decide +kernel
theorem dX7_endOf_28 : decode cX7_endOf 28 = .ok (.invokestatic 127, 3) := by decide +kernel
theorem dX7_endOf_31 : decode cX7_endOf 31 = .ok (.i2l, 1) := by decide +kernel
theorem dX7_endOf_32 : decode cX7_endOf 32 = .ok (.lsub, 1) := by decide +kernel
theorem dX7_endOf_33 : decode cX7_endOf 33 = .ok (.invokestatic 146, 3) := by decide +kernel
theorem dX7_endOf_36 : decode cX7_endOf 36 = .ok (.lstore 9, 2) := by decide +kernel
theorem dX7_endOf_38 : decode cX7_endOf 38 = .ok (.bipush 64, 2) := by decide +kernel
theorem dX7_endOf_40 : decode cX7_endOf 40 = .ok (.iload_n 1, 1) := by decide +kernel
theorem dX7_endOf_41 : decode cX7_endOf 41 = .ok (.ishr, 1) := by decide +kernel
theorem dX7_endOf_42 : decode cX7_endOf 42 = .ok (.iconst 1, 1) := by decide +kernel
theorem dX7_endOf_43 : decode cX7_endOf 43 = .ok (.isub, 1) := by decide +kernel
end
section
theorem dX7_endOf_44 : decode cX7_endOf 44 = .ok (.i2l, 1) := by decide +kernel
theorem dX7_endOf_45 : decode cX7_endOf 45 = .ok (.lstore 11, 2) := by decide +kernel
theorem dX7_endOf_47 : decode cX7_endOf 47 = .ok (.lconst 0, 1) := by decide +kernel
theorem dX7_endOf_48 : decode cX7_endOf 48 = .ok (.lstore 13, 2) := by decide +kernel
theorem dX7_endOf_50 : decode cX7_endOf 50 = .ok (.iconst 0, 1) := by decide +kernel
theorem dX7_endOf_51 : decode cX7_endOf 51 = .ok (.istore 15, 2) := by decide +kernel
theorem dX7_endOf_53 : decode cX7_endOf 53 = .ok (.iload 15, 2) := by decide +kernel
theorem dX7_endOf_55 : decode cX7_endOf 55 = .ok (.iconst 5, 1) := by decide +kernel
theorem dX7_endOf_56 : decode cX7_endOf 56 = .ok (.if_icmp .ge 149, 3) := by decide +kernel
theorem dX7_endOf_59 : decode cX7_endOf 59 = .ok (.iconst 0, 1) := by decide +kernel
theorem dX7_endOf_60 : decode cX7_endOf 60 = .ok (.istore 16, 2) := by decide +kernel
theorem dX7_endOf_62 : decode cX7_endOf 62 = .ok (.iload 15, 2) := by decide +kernel
theorem dX7_endOf_64 : decode cX7_endOf 64 = .ok (.iload 16, 2) := by decide +kernel
theorem dX7_endOf_66 : decode cX7_endOf 66 = .ok (.iadd, 1) := by decide +kernel
theorem dX7_endOf_67 : decode cX7_endOf 67 = .ok (.iconst 5, 1) := by decide +kernel
theorem dX7_endOf_68 : decode cX7_endOf 68 = .ok (.if_icmp .ge 131, 3) := by decide +kernel
theorem dX7_endOf_71 : decode cX7_endOf 71 = .ok (.iconst 0, 1) := by decide +kernel
theorem dX7_endOf_72 : decode cX7_endOf 72 = .ok (.istore 17, 2) := by decide +kernel
theorem dX7_endOf_74 : decode cX7_endOf 74 = .ok (.iload 17, 2) := by decide +kernel
theorem dX7_endOf_76 : decode cX7_endOf 76 = .ok (.iload 15, 2) := by decide +kernel
theorem dX7_endOf_78 : decode cX7_endOf 78 = .ok (.if_icmp .gt 115, 3) := by decide +kernel
theorem dX7_endOf_81 : decode cX7_endOf 81 = .ok (.iconst 0, 1) := by decide +kernel
theorem dX7_endOf_82 : decode cX7_endOf 82 = .ok (.istore 18, 2) := by decide +kernel
theorem dX7_endOf_84 : decode cX7_endOf 84 = .ok (.iload 18, 2) := by decide +kernel
theorem dX7_endOf_86 : decode cX7_endOf 86 = .ok (.iload 16, 2) := by decide +kernel
theorem dX7_endOf_88 : decode cX7_endOf 88 = .ok (.if_icmp .gt 99, 3) := by decide +kernel
theorem dX7_endOf_91 : decode cX7_endOf 91 = .ok (.iload 17, 2) := by decide +kernel
theorem dX7_endOf_93 : decode cX7_endOf 93 = .ok (.iload 18, 2) := by decide +kernel
theorem dX7_endOf_95 : decode cX7_endOf 95 = .ok (.iadd, 1) := by decide +kernel
theorem dX7_endOf_96 : decode cX7_endOf 96 = .ok (.iload 6, 2) := by decide +kernel
theorem dX7_endOf_98 : decode cX7_endOf 98 = .ok (.if_icmp .le 83, 3) := by decide +kernel
theorem dX7_endOf_101 : decode cX7_endOf 101 = .ok (.lload 13, 2) := by decide +kernel
theorem dX7_endOf_103 : decode cX7_endOf 103 = .ok (.aload_n 0, 1) := by decide +kernel
theorem dX7_endOf_104 : decode cX7_endOf 104 = .ok (.getfield 29, 3) := by decide +kernel
theorem dX7_endOf_107 : decode cX7_endOf 107 = .ok (.iconst 5, 1) := by decide +kernel
theorem dX7_endOf_108 : decode cX7_endOf 108 = .ok (.iload 15, 2) := by decide +kernel
theorem dX7_endOf_110 : decode cX7_endOf 110 = .ok (.imul, 1) := by decide +kernel
theorem dX7_endOf_111 : decode cX7_endOf 111 = .ok (.iload 16, 2) := by decide +kernel
theorem dX7_endOf_113 : decode cX7_endOf 113 = .ok (.iadd, 1) := by decide +kernel
theorem dX7_endOf_114 : decode cX7_endOf 114 = .ok (.iaload, 1) := by decide +kernel
theorem dX7_endOf_115 : decode cX7_endOf 115 = .ok (.i2l, 1) := by decide +kernel
theorem dX7_endOf_116 : decode cX7_endOf 116 = .ok (.invokestatic 146, 3) := by decide +kernel
theorem dX7_endOf_119 : decode cX7_endOf 119 = .ok (.ldc2_w 101, 3) := by decide +kernel
theorem dX7_endOf_122 : decode cX7_endOf 122 = .ok (.iload 15, 2) := by decide +kernel
theorem dX7_endOf_124 : decode cX7_endOf 124 = .ok (.iload 16, 2) := by decide +kernel
theorem dX7_endOf_126 : decode cX7_endOf 126 = .ok (.iadd, 1) := by decide +kernel
theorem dX7_endOf_127 : decode cX7_endOf 127 = .ok (.lshr, 1) := by decide +kernel
theorem dX7_endOf_128 : decode cX7_endOf 128 = .ok (.lmul, 1) := by decide +kernel
theorem dX7_endOf_129 : decode cX7_endOf 129 = .ok (.iload 15, 2) := by decide +kernel
theorem dX7_endOf_131 : decode cX7_endOf 131 = .ok (.iload 17, 2) := by decide +kernel
theorem dX7_endOf_133 : decode cX7_endOf 133 = .ok (.invokestatic 143, 3) := by decide +kernel
theorem dX7_endOf_136 : decode cX7_endOf 136 = .ok (.lmul, 1) := by decide +kernel
theorem dX7_endOf_137 : decode cX7_endOf 137 = .ok (.iload 16, 2) := by decide +kernel
theorem dX7_endOf_139 : decode cX7_endOf 139 = .ok (.iload 18, 2) := by decide +kernel
theorem dX7_endOf_141 : decode cX7_endOf 141 = .ok (.invokestatic 143, 3) := by decide +kernel
theorem dX7_endOf_144 : decode cX7_endOf 144 = .ok (.lmul, 1) := by decide +kernel
theorem dX7_endOf_145 : decode cX7_endOf 145 = .ok (.lload 7, 2) := by decide +kernel
theorem dX7_endOf_147 : decode cX7_endOf 147 = .ok (.iload 15, 2) := by decide +kernel
theorem dX7_endOf_149 : decode cX7_endOf 149 = .ok (.iload 17, 2) := by decide +kernel
theorem dX7_endOf_151 : decode cX7_endOf 151 = .ok (.isub, 1) := by decide +kernel
theorem dX7_endOf_152 : decode cX7_endOf 152 = .ok (.invokestatic 97, 3) := by decide +kernel
theorem dX7_endOf_155 : decode cX7_endOf 155 = .ok (.lmul, 1) := by decide +kernel
theorem dX7_endOf_156 : decode cX7_endOf 156 = .ok (.lload 9, 2) := by decide +kernel
theorem dX7_endOf_158 : decode cX7_endOf 158 = .ok (.iload 16, 2) := by decide +kernel
theorem dX7_endOf_160 : decode cX7_endOf 160 = .ok (.iload 18, 2) := by decide +kernel
theorem dX7_endOf_162 : decode cX7_endOf 162 = .ok (.isub, 1) := by decide +kernel
theorem dX7_endOf_163 : decode cX7_endOf 163 = .ok (.invokestatic 97, 3) := by decide +kernel
theorem dX7_endOf_166 : decode cX7_endOf 166 = .ok (.lmul, 1) := by decide +kernel
theorem dX7_endOf_167 : decode cX7_endOf 167 = .ok (.lload 11, 2) := by decide +kernel
theorem dX7_endOf_169 : decode cX7_endOf 169 = .ok (.iload 17, 2) := by decide +kernel
theorem dX7_endOf_171 : decode cX7_endOf 171 = .ok (.iload 18, 2) := by decide +kernel
theorem dX7_endOf_173 : decode cX7_endOf 173 = .ok (.iadd, 1) := by decide +kernel
theorem dX7_endOf_174 : decode cX7_endOf 174 = .ok (.invokestatic 97, 3) := by decide +kernel
theorem dX7_endOf_177 : decode cX7_endOf 177 = .ok (.lmul, 1) := by decide +kernel
theorem dX7_endOf_178 : decode cX7_endOf 178 = .ok (.ladd, 1) := by decide +kernel
theorem dX7_endOf_179 : decode cX7_endOf 179 = .ok (.lstore 13, 2) := by decide +kernel
theorem dX7_endOf_181 : decode cX7_endOf 181 = .ok (.iinc 18 1, 3) := by decide +kernel
theorem dX7_endOf_184 : decode cX7_endOf 184 = .ok (.goto (-100), 3) := by decide +kernel
theorem dX7_endOf_187 : decode cX7_endOf 187 = .ok (.iinc 17 1, 3) := by decide +kernel
theorem dX7_endOf_190 : decode cX7_endOf 190 = .ok (.goto (-116), 3) := by decide +kernel
theorem dX7_endOf_193 : decode cX7_endOf 193 = .ok (.iinc 16 1, 3) := by decide +kernel
theorem dX7_endOf_196 : decode cX7_endOf 196 = .ok (.goto (-134), 3) := by decide +kernel
theorem dX7_endOf_199 : decode cX7_endOf 199 = .ok (.iinc 15 1, 3) := by decide +kernel
theorem dX7_endOf_202 : decode cX7_endOf 202 = .ok (.goto (-149), 3) := by decide +kernel
theorem dX7_endOf_205 : decode cX7_endOf 205 = .ok (.lload 13, 2) := by decide +kernel
theorem dX7_endOf_207 : decode cX7_endOf 207 = .ok (.aload_n 0, 1) := by decide +kernel
theorem dX7_endOf_208 : decode cX7_endOf 208 = .ok (.iload_n 1, 1) := by decide +kernel
theorem dX7_endOf_209 : decode cX7_endOf 209 = .ok (.iload_n 2, 1) := by decide +kernel
theorem dX7_endOf_210 : decode cX7_endOf 210 = .ok (.iload_n 3, 1) := by decide +kernel
theorem dX7_endOf_211 : decode cX7_endOf 211 = .ok (.invokevirtual 136, 3) := by decide +kernel
theorem dX7_endOf_214 : decode cX7_endOf 214 = .ok (.lmul, 1) := by decide +kernel
theorem dX7_endOf_215 : decode cX7_endOf 215 = .ok (.lreturn, 1) := by decide +kernel
theorem dX7_goes_0 : decode cX7_goes 0 = .ok (.aload_n 0, 1) := by decide +kernel
theorem dX7_goes_1 : decode cX7_goes 1 = .ok (.getfield 45, 3) := by decide +kernel
theorem dX7_goes_4 : decode cX7_goes 4 = .ok (.aload_n 0, 1) := by decide +kernel
theorem dX7_goes_5 : decode cX7_goes 5 = .ok (.getfield 150, 3) := by decide +kernel
theorem dX7_goes_8 : decode cX7_goes 8 = .ok (.iload_n 1, 1) := by decide +kernel
theorem dX7_goes_9 : decode cX7_goes 9 = .ok (.iastore, 1) := by decide +kernel
theorem dX7_goes_10 : decode cX7_goes 10 = .ok (.aload_n 0, 1) := by decide +kernel
theorem dX7_goes_11 : decode cX7_goes 11 = .ok (.getfield 48, 3) := by decide +kernel
theorem dX7_goes_14 : decode cX7_goes 14 = .ok (.aload_n 0, 1) := by decide +kernel
theorem dX7_goes_15 : decode cX7_goes 15 = .ok (.getfield 150, 3) := by decide +kernel
theorem dX7_goes_18 : decode cX7_goes 18 = .ok (.iload_n 2, 1) := by decide +kernel
theorem dX7_goes_19 : decode cX7_goes 19 = .ok (.iastore, 1) := by decide +kernel
theorem dX7_goes_20 : decode cX7_goes 20 = .ok (.aload_n 0, 1) := by decide +kernel
theorem dX7_goes_21 : decode cX7_goes 21 = .ok (.getfield 51, 3) := by decide +kernel
theorem dX7_goes_24 : decode cX7_goes 24 = .ok (.aload_n 0, 1) := by decide +kernel
theorem dX7_goes_25 : decode cX7_goes 25 = .ok (.getfield 150, 3) := by decide +kernel
theorem dX7_goes_28 : decode cX7_goes 28 = .ok (.iload_n 3, 1) := by decide +kernel
theorem dX7_goes_29 : decode cX7_goes 29 = .ok (.iastore, 1) := by decide +kernel
theorem dX7_goes_30 : decode cX7_goes 30 = .ok (.aload_n 0, 1) := by decide +kernel
theorem dX7_goes_31 : decode cX7_goes 31 = .ok (.dup, 1) := by decide +kernel
theorem dX7_goes_32 : decode cX7_goes 32 = .ok (.getfield 150, 3) := by decide +kernel
theorem dX7_goes_35 : decode cX7_goes 35 = .ok (.iconst 1, 1) := by decide +kernel
theorem dX7_goes_36 : decode cX7_goes 36 = .ok (.iadd, 1) := by decide +kernel
theorem dX7_goes_37 : decode cX7_goes 37 = .ok (.putfield 150, 3) := by decide +kernel
theorem dX7_goes_40 : decode cX7_goes 40 = .ok (.return_, 1) := by decide +kernel
theorem dX7_goAcross_0 : decode cX7_goAcross 0 = .ok (.aload_n 0, 1) := by decide +kernel
theorem dX7_goAcross_1 : decode cX7_goAcross 1 = .ok (.lconst 0, 1) := by decide +kernel
theorem dX7_goAcross_2 : decode cX7_goAcross 2 = .ok (.putfield 153, 3) := by decide +kernel
theorem dX7_goAcross_5 : decode cX7_goAcross 5 = .ok (.aload_n 0, 1) := by decide +kernel
theorem dX7_goAcross_6 : decode cX7_goAcross 6 = .ok (.lconst 0, 1) := by decide +kernel
theorem dX7_goAcross_7 : decode cX7_goAcross 7 = .ok (.putfield 157, 3) := by decide +kernel
theorem dX7_goAcross_10 : decode cX7_goAcross 10 = .ok (.aload_n 0, 1) := by decide +kernel
theorem dX7_goAcross_11 : decode cX7_goAcross 11 = .ok (.iconst 0, 1) := by decide +kernel
theorem dX7_goAcross_12 : decode cX7_goAcross 12 = .ok (.putfield 150, 3) := by decide +kernel
theorem dX7_goAcross_15 : decode cX7_goAcross 15 = .ok (.iconst 1, 1) := by decide +kernel
theorem dX7_goAcross_16 : decode cX7_goAcross 16 = .ok (.istore 5, 2) := by decide +kernel
theorem dX7_goAcross_18 : decode cX7_goAcross 18 = .ok (.aload_n 0, 1) := by decide +kernel
theorem dX7_goAcross_19 : decode cX7_goAcross 19 = .ok (.getfield 36, 3) := by decide +kernel
theorem dX7_goAcross_22 : decode cX7_goAcross 22 = .ok (.iconst 0, 1) := by decide +kernel
theorem dX7_goAcross_23 : decode cX7_goAcross 23 = .ok (.iconst 0, 1) := by decide +kernel
theorem dX7_goAcross_24 : decode cX7_goAcross 24 = .ok (.iastore, 1) := by decide +kernel
theorem dX7_goAcross_25 : decode cX7_goAcross 25 = .ok (.aload_n 0, 1) := by decide +kernel
theorem dX7_goAcross_26 : decode cX7_goAcross 26 = .ok (.getfield 39, 3) := by decide +kernel
theorem dX7_goAcross_29 : decode cX7_goAcross 29 = .ok (.iconst 0, 1) := by decide +kernel
theorem dX7_goAcross_30 : decode cX7_goAcross 30 = .ok (.iconst 0, 1) := by decide +kernel
theorem dX7_goAcross_31 : decode cX7_goAcross 31 = .ok (.iastore, 1) := by decide +kernel
theorem dX7_goAcross_32 : decode cX7_goAcross 32 = .ok (.aload_n 0, 1) := by decide +kernel
theorem dX7_goAcross_33 : decode cX7_goAcross 33 = .ok (.getfield 42, 3) := by decide +kernel
theorem dX7_goAcross_36 : decode cX7_goAcross 36 = .ok (.iconst 0, 1) := by decide +kernel
theorem dX7_goAcross_37 : decode cX7_goAcross 37 = .ok (.iconst 0, 1) := by decide +kernel
theorem dX7_goAcross_38 : decode cX7_goAcross 38 = .ok (.iastore, 1) := by decide +kernel
theorem dX7_goAcross_39 : decode cX7_goAcross 39 = .ok (.iload 5, 2) := by decide +kernel
theorem dX7_goAcross_41 : decode cX7_goAcross 41 = .ok (.ifCond .le 302, 3) := by decide +kernel
theorem dX7_goAcross_44 : decode cX7_goAcross 44 = .ok (.iinc 5 (-1), 3) := by decide +kernel
theorem dX7_goAcross_47 : decode cX7_goAcross 47 = .ok (.aload_n 0, 1) := by decide +kernel
theorem dX7_goAcross_48 : decode cX7_goAcross 48 = .ok (.getfield 36, 3) := by decide +kernel
theorem dX7_goAcross_51 : decode cX7_goAcross 51 = .ok (.iload 5, 2) := by decide +kernel
theorem dX7_goAcross_53 : decode cX7_goAcross 53 = .ok (.iaload, 1) := by decide +kernel
theorem dX7_goAcross_54 : decode cX7_goAcross 54 = .ok (.istore 6, 2) := by decide +kernel
theorem dX7_goAcross_56 : decode cX7_goAcross 56 = .ok (.aload_n 0, 1) := by decide +kernel
theorem dX7_goAcross_57 : decode cX7_goAcross 57 = .ok (.getfield 39, 3) := by decide +kernel
theorem dX7_goAcross_60 : decode cX7_goAcross 60 = .ok (.iload 5, 2) := by decide +kernel
theorem dX7_goAcross_62 : decode cX7_goAcross 62 = .ok (.iaload, 1) := by decide +kernel
theorem dX7_goAcross_63 : decode cX7_goAcross 63 = .ok (.istore 7, 2) := by decide +kernel
theorem dX7_goAcross_65 : decode cX7_goAcross 65 = .ok (.aload_n 0, 1) := by decide +kernel
theorem dX7_goAcross_66 : decode cX7_goAcross 66 = .ok (.getfield 42, 3) := by decide +kernel
theorem dX7_goAcross_69 : decode cX7_goAcross 69 = .ok (.iload 5, 2) := by decide +kernel
theorem dX7_goAcross_71 : decode cX7_goAcross 71 = .ok (.iaload, 1) := by decide +kernel
theorem dX7_goAcross_72 : decode cX7_goAcross 72 = .ok (.istore 8, 2) := by decide +kernel
theorem dX7_goAcross_74 : decode cX7_goAcross 74 = .ok (.ldc2_w 134, 3) := by decide +kernel
theorem dX7_goAcross_77 : decode cX7_goAcross 77 = .ok (.bipush 64, 2) := by decide +kernel
theorem dX7_goAcross_79 : decode cX7_goAcross 79 = .ok (.iload 6, 2) := by decide +kernel
theorem dX7_goAcross_81 : decode cX7_goAcross 81 = .ok (.ishr, 1) := by decide +kernel
theorem dX7_goAcross_82 : decode cX7_goAcross 82 = .ok (.i2l, 1) := by decide +kernel
theorem dX7_goAcross_83 : decode cX7_goAcross 83 = .ok (.lmul, 1) := by decide +kernel
theorem dX7_goAcross_84 : decode cX7_goAcross 84 = .ok (.iload 4, 2) := by decide +kernel
theorem dX7_goAcross_86 : decode cX7_goAcross 86 = .ok (.i2l, 1) := by decide +kernel
theorem dX7_goAcross_87 : decode cX7_goAcross 87 = .ok (.lmul, 1) := by decide +kernel
theorem dX7_goAcross_88 : decode cX7_goAcross 88 = .ok (.lstore 9, 2) := by decide +kernel
theorem dX7_goAcross_90 : decode cX7_goAcross 90 = .ok (.aload_n 0, 1) := by decide +kernel
theorem dX7_goAcross_91 : decode cX7_goAcross 91 = .ok (.iload 6, 2) := by decide +kernel
theorem dX7_goAcross_93 : decode cX7_goAcross 93 = .ok (.iload 7, 2) := by decide +kernel
theorem dX7_goAcross_95 : decode cX7_goAcross 95 = .ok (.iload 8, 2) := by decide +kernel
theorem dX7_goAcross_97 : decode cX7_goAcross 97 = .ok (.invokevirtual 117, 3) := by decide +kernel
theorem dX7_goAcross_100 : decode cX7_goAcross 100 = .ok (.ifCond .le 240, 3) := by decide +kernel
theorem dX7_goAcross_103 : decode cX7_goAcross 103 = .ok (.ldc2_w 134, 3) := by decide +kernel
theorem dX7_goAcross_106 : decode cX7_goAcross 106 = .ok (.iload_n 1, 1) := by decide +kernel
theorem dX7_goAcross_107 : decode cX7_goAcross 107 = .ok (.i2l, 1) := by decide +kernel
theorem dX7_goAcross_108 : decode cX7_goAcross 108 = .ok (.lmul, 1) := by decide +kernel
theorem dX7_goAcross_109 : decode cX7_goAcross 109 = .ok (.iload 6, 2) := by decide +kernel
theorem dX7_goAcross_111 : decode cX7_goAcross 111 = .ok (.iload 7, 2) := by decide +kernel
theorem dX7_goAcross_113 : decode cX7_goAcross 113 = .ok (.invokestatic 127, 3) := by decide +kernel
theorem dX7_goAcross_116 : decode cX7_goAcross 116 = .ok (.i2l, 1) := by decide +kernel
theorem dX7_goAcross_117 : decode cX7_goAcross 117 = .ok (.lsub, 1) := by decide +kernel
theorem dX7_goAcross_118 : decode cX7_goAcross 118 = .ok (.invokestatic 146, 3) := by decide +kernel
theorem dX7_goAcross_121 : decode cX7_goAcross 121 = .ok (.lload 9, 2) := by decide +kernel
theorem dX7_goAcross_123 : decode cX7_goAcross 123 = .ok (.lcmp, 1) := by decide +kernel
theorem dX7_goAcross_124 : decode cX7_goAcross 124 = .ok (.ifCond .ge 27, 3) := by decide +kernel
theorem dX7_goAcross_127 : decode cX7_goAcross 127 = .ok (.ldc2_w 134, 3) := by decide +kernel
theorem dX7_goAcross_130 : decode cX7_goAcross 130 = .ok (.iload_n 2, 1) := by decide +kernel
theorem dX7_goAcross_131 : decode cX7_goAcross 131 = .ok (.i2l, 1) := by decide +kernel
theorem dX7_goAcross_132 : decode cX7_goAcross 132 = .ok (.lmul, 1) := by decide +kernel
theorem dX7_goAcross_133 : decode cX7_goAcross 133 = .ok (.iload 6, 2) := by decide +kernel
theorem dX7_goAcross_135 : decode cX7_goAcross 135 = .ok (.iload 8, 2) := by decide +kernel
theorem dX7_goAcross_137 : decode cX7_goAcross 137 = .ok (.invokestatic 127, 3) := by decide +kernel
theorem dX7_goAcross_140 : decode cX7_goAcross 140 = .ok (.i2l, 1) := by decide +kernel
theorem dX7_goAcross_141 : decode cX7_goAcross 141 = .ok (.lsub, 1) := by decide +kernel
theorem dX7_goAcross_142 : decode cX7_goAcross 142 = .ok (.invokestatic 146, 3) := by decide +kernel
theorem dX7_goAcross_145 : decode cX7_goAcross 145 = .ok (.lload 9, 2) := by decide +kernel
theorem dX7_goAcross_147 : decode cX7_goAcross 147 = .ok (.lcmp, 1) := by decide +kernel
theorem dX7_goAcross_148 : decode cX7_goAcross 148 = .ok (.ifCond .lt 60, 3) := by decide +kernel
theorem dX7_goAcross_151 : decode cX7_goAcross 151 = .ok (.aload_n 0, 1) := by decide +kernel
theorem dX7_goAcross_152 : decode cX7_goAcross 152 = .ok (.dup, 1) := by decide +kernel
theorem dX7_goAcross_153 : decode cX7_goAcross 153 = .ok (.getfield 153, 3) := by decide +kernel
theorem dX7_goAcross_156 : decode cX7_goAcross 156 = .ok (.aload_n 0, 1) := by decide +kernel
theorem dX7_goAcross_157 : decode cX7_goAcross 157 = .ok (.iload 6, 2) := by decide +kernel
theorem dX7_goAcross_159 : decode cX7_goAcross 159 = .ok (.iload 7, 2) := by decide +kernel
theorem dX7_goAcross_161 : decode cX7_goAcross 161 = .ok (.iload 8, 2) := by decide +kernel
theorem dX7_goAcross_163 : decode cX7_goAcross 163 = .ok (.iload_n 1, 1) := by decide +kernel
theorem dX7_goAcross_164 : decode cX7_goAcross 164 = .ok (.iload_n 2, 1) := by decide +kernel
theorem dX7_goAcross_165 : decode cX7_goAcross 165 = .ok (.iload_n 3, 1) := by decide +kernel
theorem dX7_goAcross_166 : decode cX7_goAcross 166 = .ok (.invokevirtual 160, 3) := by decide +kernel
theorem dX7_goAcross_169 : decode cX7_goAcross 169 = .ok (.ladd, 1) := by decide +kernel
theorem dX7_goAcross_170 : decode cX7_goAcross 170 = .ok (.putfield 153, 3) := by decide +kernel
theorem dX7_goAcross_173 : decode cX7_goAcross 173 = .ok (.aload_n 0, 1) := by decide +kernel
theorem dX7_goAcross_174 : decode cX7_goAcross 174 = .ok (.dup, 1) := by decide +kernel
theorem dX7_goAcross_175 : decode cX7_goAcross 175 = .ok (.getfield 157, 3) := by decide +kernel
theorem dX7_goAcross_178 : decode cX7_goAcross 178 = .ok (.aload_n 0, 1) := by decide +kernel
theorem dX7_goAcross_179 : decode cX7_goAcross 179 = .ok (.iload 6, 2) := by decide +kernel
theorem dX7_goAcross_181 : decode cX7_goAcross 181 = .ok (.iload 7, 2) := by decide +kernel
theorem dX7_goAcross_183 : decode cX7_goAcross 183 = .ok (.iload 8, 2) := by decide +kernel
theorem dX7_goAcross_185 : decode cX7_goAcross 185 = .ok (.iload_n 1, 1) := by decide +kernel
theorem dX7_goAcross_186 : decode cX7_goAcross 186 = .ok (.iload_n 2, 1) := by decide +kernel
theorem dX7_goAcross_187 : decode cX7_goAcross 187 = .ok (.iload_n 3, 1) := by decide +kernel
theorem dX7_goAcross_188 : decode cX7_goAcross 188 = .ok (.invokevirtual 164, 3) := by decide +kernel
theorem dX7_goAcross_191 : decode cX7_goAcross 191 = .ok (.ladd, 1) := by decide +kernel
theorem dX7_goAcross_192 : decode cX7_goAcross 192 = .ok (.putfield 157, 3) := by decide +kernel
theorem dX7_goAcross_195 : decode cX7_goAcross 195 = .ok (.aload_n 0, 1) := by decide +kernel
theorem dX7_goAcross_196 : decode cX7_goAcross 196 = .ok (.iload 6, 2) := by decide +kernel
theorem dX7_goAcross_198 : decode cX7_goAcross 198 = .ok (.iload 7, 2) := by decide +kernel
theorem dX7_goAcross_200 : decode cX7_goAcross 200 = .ok (.iload 8, 2) := by decide +kernel
theorem dX7_goAcross_202 : decode cX7_goAcross 202 = .ok (.invokevirtual 167, 3) := by decide +kernel
theorem dX7_goAcross_205 : decode cX7_goAcross 205 = .ok (.goto 135, 3) := by decide +kernel
theorem dX7_goAcross_208 : decode cX7_goAcross 208 = .ok (.aload_n 0, 1) := by decide +kernel
theorem dX7_goAcross_209 : decode cX7_goAcross 209 = .ok (.iload 6, 2) := by decide +kernel
theorem dX7_goAcross_211 : decode cX7_goAcross 211 = .ok (.iload 7, 2) := by decide +kernel
theorem dX7_goAcross_213 : decode cX7_goAcross 213 = .ok (.iload 8, 2) := by decide +kernel
theorem dX7_goAcross_215 : decode cX7_goAcross 215 = .ok (.invokevirtual 123, 3) := by decide +kernel
theorem dX7_goAcross_218 : decode cX7_goAcross 218 = .ok (.ifCond .eq 66, 3) := by decide +kernel
theorem dX7_goAcross_221 : decode cX7_goAcross 221 = .ok (.iconst 3, 1) := by decide +kernel
theorem dX7_goAcross_222 : decode cX7_goAcross 222 = .ok (.istore 11, 2) := by decide +kernel
theorem dX7_goAcross_224 : decode cX7_goAcross 224 = .ok (.iload 11, 2) := by decide +kernel
theorem dX7_goAcross_226 : decode cX7_goAcross 226 = .ok (.ifCond .lt 55, 3) := by decide +kernel
theorem dX7_goAcross_229 : decode cX7_goAcross 229 = .ok (.aload_n 0, 1) := by decide +kernel
theorem dX7_goAcross_230 : decode cX7_goAcross 230 = .ok (.getfield 36, 3) := by decide +kernel
theorem dX7_goAcross_233 : decode cX7_goAcross 233 = .ok (.iload 5, 2) := by decide +kernel
theorem dX7_goAcross_235 : decode cX7_goAcross 235 = .ok (.iload 6, 2) := by decide +kernel
theorem dX7_goAcross_237 : decode cX7_goAcross 237 = .ok (.iconst 1, 1) := by decide +kernel
theorem dX7_goAcross_238 : decode cX7_goAcross 238 = .ok (.iadd, 1) := by decide +kernel
theorem dX7_goAcross_239 : decode cX7_goAcross 239 = .ok (.iastore, 1) := by decide +kernel
theorem dX7_goAcross_240 : decode cX7_goAcross 240 = .ok (.aload_n 0, 1) := by decide +kernel
theorem dX7_goAcross_241 : decode cX7_goAcross 241 = .ok (.getfield 39, 3) := by decide +kernel
theorem dX7_goAcross_244 : decode cX7_goAcross 244 = .ok (.iload 5, 2) := by decide +kernel
theorem dX7_goAcross_246 : decode cX7_goAcross 246 = .ok (.iconst 2, 1) := by decide +kernel
theorem dX7_goAcross_247 : decode cX7_goAcross 247 = .ok (.iload 7, 2) := by decide +kernel
theorem dX7_goAcross_249 : decode cX7_goAcross 249 = .ok (.imul, 1) := by decide +kernel
theorem dX7_goAcross_250 : decode cX7_goAcross 250 = .ok (.iload 11, 2) := by decide +kernel
theorem dX7_goAcross_252 : decode cX7_goAcross 252 = .ok (.iconst 2, 1) := by decide +kernel
theorem dX7_goAcross_253 : decode cX7_goAcross 253 = .ok (.irem, 1) := by decide +kernel
theorem dX7_goAcross_254 : decode cX7_goAcross 254 = .ok (.iadd, 1) := by decide +kernel
theorem dX7_goAcross_255 : decode cX7_goAcross 255 = .ok (.iastore, 1) := by decide +kernel
theorem dX7_goAcross_256 : decode cX7_goAcross 256 = .ok (.aload_n 0, 1) := by decide +kernel
theorem dX7_goAcross_257 : decode cX7_goAcross 257 = .ok (.getfield 42, 3) := by decide +kernel
theorem dX7_goAcross_260 : decode cX7_goAcross 260 = .ok (.iload 5, 2) := by decide +kernel
theorem dX7_goAcross_262 : decode cX7_goAcross 262 = .ok (.iconst 2, 1) := by decide +kernel
theorem dX7_goAcross_263 : decode cX7_goAcross 263 = .ok (.iload 8, 2) := by decide +kernel
theorem dX7_goAcross_265 : decode cX7_goAcross 265 = .ok (.imul, 1) := by decide +kernel
theorem dX7_goAcross_266 : decode cX7_goAcross 266 = .ok (.iload 11, 2) := by decide +kernel
theorem dX7_goAcross_268 : decode cX7_goAcross 268 = .ok (.iconst 2, 1) := by decide +kernel
theorem dX7_goAcross_269 : decode cX7_goAcross 269 = .ok (.idiv, 1) := by decide +kernel
theorem dX7_goAcross_270 : decode cX7_goAcross 270 = .ok (.iadd, 1) := by decide +kernel
theorem dX7_goAcross_271 : decode cX7_goAcross 271 = .ok (.iastore, 1) := by decide +kernel
theorem dX7_goAcross_272 : decode cX7_goAcross 272 = .ok (.iinc 5 1, 3) := by decide +kernel
theorem dX7_goAcross_275 : decode cX7_goAcross 275 = .ok (.iinc 11 (-1), 3) := by decide +kernel
theorem dX7_goAcross_278 : decode cX7_goAcross 278 = .ok (.goto (-54), 3) := by decide +kernel
theorem dX7_goAcross_281 : decode cX7_goAcross 281 = .ok (.goto 59, 3) := by decide +kernel
theorem dX7_goAcross_284 : decode cX7_goAcross 284 = .ok (.iconst 0, 1) := by decide +kernel
theorem dX7_goAcross_285 : decode cX7_goAcross 285 = .ok (.istore 11, 2) := by decide +kernel
theorem dX7_goAcross_287 : decode cX7_goAcross 287 = .ok (.iload 11, 2) := by decide +kernel
theorem dX7_goAcross_289 : decode cX7_goAcross 289 = .ok (.bipush 40, 2) := by decide +kernel
theorem dX7_goAcross_291 : decode cX7_goAcross 291 = .ok (.if_icmp .ge 49, 3) := by decide +kernel
theorem dX7_goAcross_294 : decode cX7_goAcross 294 = .ok (.aload_n 0, 1) := by decide +kernel
theorem dX7_goAcross_295 : decode cX7_goAcross 295 = .ok (.iload 11, 2) := by decide +kernel
theorem dX7_goAcross_297 : decode cX7_goAcross 297 = .ok (.iload 6, 2) := by decide +kernel
theorem dX7_goAcross_299 : decode cX7_goAcross 299 = .ok (.iload 7, 2) := by decide +kernel
theorem dX7_goAcross_301 : decode cX7_goAcross 301 = .ok (.iload 8, 2) := by decide +kernel
theorem dX7_goAcross_303 : decode cX7_goAcross 303 = .ok (.invokevirtual 113, 3) := by decide +kernel
theorem dX7_goAcross_306 : decode cX7_goAcross 306 = .ok (.ifCond .eq 28, 3) := by decide +kernel
theorem dX7_goAcross_309 : decode cX7_goAcross 309 = .ok (.aload_n 0, 1) := by decide +kernel
theorem dX7_goAcross_310 : decode cX7_goAcross 310 = .ok (.dup, 1) := by decide +kernel
theorem dX7_goAcross_311 : decode cX7_goAcross 311 = .ok (.getfield 153, 3) := by decide +kernel
theorem dX7_goAcross_314 : decode cX7_goAcross 314 = .ok (.aload_n 0, 1) := by decide +kernel
theorem dX7_goAcross_315 : decode cX7_goAcross 315 = .ok (.iload 11, 2) := by decide +kernel
theorem dX7_goAcross_317 : decode cX7_goAcross 317 = .ok (.iload_n 1, 1) := by decide +kernel
theorem dX7_goAcross_318 : decode cX7_goAcross 318 = .ok (.iload_n 2, 1) := by decide +kernel
theorem dX7_goAcross_319 : decode cX7_goAcross 319 = .ok (.invokevirtual 103, 3) := by decide +kernel
theorem dX7_goAcross_322 : decode cX7_goAcross 322 = .ok (.ladd, 1) := by decide +kernel
theorem dX7_goAcross_323 : decode cX7_goAcross 323 = .ok (.putfield 153, 3) := by decide +kernel
theorem dX7_goAcross_326 : decode cX7_goAcross 326 = .ok (.aload_n 0, 1) := by decide +kernel
theorem dX7_goAcross_327 : decode cX7_goAcross 327 = .ok (.iconst (-1), 1) := by decide +kernel
theorem dX7_goAcross_328 : decode cX7_goAcross 328 = .ok (.iload 11, 2) := by decide +kernel
theorem dX7_goAcross_330 : decode cX7_goAcross 330 = .ok (.iconst (-1), 1) := by decide +kernel
theorem dX7_goAcross_331 : decode cX7_goAcross 331 = .ok (.invokevirtual 167, 3) := by decide +kernel
theorem dX7_goAcross_334 : decode cX7_goAcross 334 = .ok (.iinc 11 1, 3) := by decide +kernel
theorem dX7_goAcross_337 : decode cX7_goAcross 337 = .ok (.goto (-50), 3) := by decide +kernel
theorem dX7_goAcross_340 : decode cX7_goAcross 340 = .ok (.goto (-301), 3) := by decide +kernel
theorem dX7_goAcross_343 : decode cX7_goAcross 343 = .ok (.return_, 1) := by decide +kernel
theorem dX7_across_0 : decode cX7_across 0 = .ok (.iload_n 1, 1) := by decide +kernel
theorem dX7_across_1 : decode cX7_across 1 = .ok (.iload_n 2, 1) := by decide +kernel
theorem dX7_across_2 : decode cX7_across 2 = .ok (.invokestatic 68, 3) := by decide +kernel
theorem dX7_across_5 : decode cX7_across 5 = .ok (.ifCond .eq 41, 3) := by decide +kernel
theorem dX7_across_8 : decode cX7_across 8 = .ok (.iload_n 3, 1) := by decide +kernel
theorem dX7_across_9 : decode cX7_across 9 = .ok (.i2l, 1) := by decide +kernel
theorem dX7_across_10 : decode cX7_across 10 = .ok (.lconst 0, 1) := by decide +kernel
theorem dX7_across_11 : decode cX7_across 11 = .ok (.ldc2_w 171, 3) := by decide +kernel
theorem dX7_across_14 : decode cX7_across 14 = .ok (.invokestatic 62, 3) := by decide +kernel
theorem dX7_across_17 : decode cX7_across 17 = .ok (.ifCond .eq 29, 3) := by decide +kernel
theorem dX7_across_20 : decode cX7_across 20 = .ok (.iload 4, 2) := by decide +kernel
theorem dX7_across_22 : decode cX7_across 22 = .ok (.i2l, 1) := by decide +kernel
theorem dX7_across_23 : decode cX7_across 23 = .ok (.lconst 1, 1) := by decide +kernel
theorem dX7_across_24 : decode cX7_across 24 = .ok (.ldc2_w 171, 3) := by decide +kernel
theorem dX7_across_27 : decode cX7_across 27 = .ok (.invokestatic 62, 3) := by decide +kernel
theorem dX7_across_30 : decode cX7_across 30 = .ok (.ifCond .eq 16, 3) := by decide +kernel
theorem dX7_across_33 : decode cX7_across 33 = .ok (.iload 5, 2) := by decide +kernel
theorem dX7_across_35 : decode cX7_across 35 = .ok (.i2l, 1) := by decide +kernel
theorem dX7_across_36 : decode cX7_across 36 = .ok (.lconst 0, 1) := by decide +kernel
theorem dX7_across_37 : decode cX7_across 37 = .ok (.ldc2_w 134, 3) := by decide +kernel
theorem dX7_across_40 : decode cX7_across 40 = .ok (.invokestatic 62, 3) := by decide +kernel
theorem dX7_across_43 : decode cX7_across 43 = .ok (.ifCond .ne 7, 3) := by decide +kernel
theorem dX7_across_46 : decode cX7_across 46 = .ok (.ldc2_w 111, 3) := by decide +kernel
theorem dX7_across_49 : decode cX7_across 49 = .ok (.lreturn, 1) := by decide +kernel
theorem dX7_across_50 : decode cX7_across 50 = .ok (.aload_n 0, 1) := by decide +kernel
theorem dX7_across_51 : decode cX7_across 51 = .ok (.iload_n 1, 1) := by decide +kernel
theorem dX7_across_52 : decode cX7_across 52 = .ok (.iload_n 2, 1) := by decide +kernel
theorem dX7_across_53 : decode cX7_across 53 = .ok (.iload_n 3, 1) := by decide +kernel
theorem dX7_across_54 : decode cX7_across 54 = .ok (.iload 4, 2) := by decide +kernel
theorem dX7_across_56 : decode cX7_across 56 = .ok (.invokevirtual 173, 3) := by decide +kernel
theorem dX7_across_59 : decode cX7_across 59 = .ok (.iload 5, 2) := by decide +kernel
theorem dX7_across_61 : decode cX7_across 61 = .ok (.ifCond .ne 10, 3) := by decide +kernel
theorem dX7_across_64 : decode cX7_across 64 = .ok (.aload_n 0, 1) := by decide +kernel
theorem dX7_across_65 : decode cX7_across 65 = .ok (.getfield 153, 3) := by decide +kernel
theorem dX7_across_68 : decode cX7_across 68 = .ok (.goto 21, 3) := by decide +kernel
theorem dX7_across_71 : decode cX7_across 71 = .ok (.iload 5, 2) := by decide +kernel
theorem dX7_across_73 : decode cX7_across 73 = .ok (.iconst 1, 1) := by decide +kernel
theorem dX7_across_74 : decode cX7_across 74 = .ok (.if_icmp .ne 10, 3) := by decide +kernel
theorem dX7_across_77 : decode cX7_across 77 = .ok (.aload_n 0, 1) := by decide +kernel
theorem dX7_across_78 : decode cX7_across 78 = .ok (.getfield 157, 3) := by decide +kernel
theorem dX7_across_81 : decode cX7_across 81 = .ok (.goto 8, 3) := by decide +kernel
theorem dX7_across_84 : decode cX7_across 84 = .ok (.aload_n 0, 1) := by decide +kernel
theorem dX7_across_85 : decode cX7_across 85 = .ok (.getfield 150, 3) := by decide +kernel
theorem dX7_across_88 : decode cX7_across 88 = .ok (.i2l, 1) := by decide +kernel
theorem dX7_across_89 : decode cX7_across 89 = .ok (.lreturn, 1) := by decide +kernel
theorem dX7_order_0 : decode cX7_order 0 = .ok (.iload_n 1, 1) := by decide +kernel
theorem dX7_order_1 : decode cX7_order 1 = .ok (.iload_n 2, 1) := by decide +kernel
theorem dX7_order_2 : decode cX7_order 2 = .ok (.invokestatic 68, 3) := by decide +kernel
theorem dX7_order_5 : decode cX7_order 5 = .ok (.ifCond .eq 22, 3) := by decide +kernel
theorem dX7_order_8 : decode cX7_order 8 = .ok (.iload_n 3, 1) := by decide +kernel
theorem dX7_order_9 : decode cX7_order 9 = .ok (.i2l, 1) := by decide +kernel
theorem dX7_order_10 : decode cX7_order 10 = .ok (.lconst 1, 1) := by decide +kernel
theorem dX7_order_11 : decode cX7_order 11 = .ok (.ldc2_w 171, 3) := by decide +kernel
theorem dX7_order_14 : decode cX7_order 14 = .ok (.invokestatic 62, 3) := by decide +kernel
theorem dX7_order_17 : decode cX7_order 17 = .ok (.ifCond .eq 10, 3) := by decide +kernel
theorem dX7_order_20 : decode cX7_order 20 = .ok (.lload 4, 2) := by decide +kernel
theorem dX7_order_22 : decode cX7_order 22 = .ok (.lconst 0, 1) := by decide +kernel
theorem dX7_order_23 : decode cX7_order 23 = .ok (.lcmp, 1) := by decide +kernel
theorem dX7_order_24 : decode cX7_order 24 = .ok (.ifCond .ge 6, 3) := by decide +kernel
theorem dX7_order_27 : decode cX7_order 27 = .ok (.bipush (-2), 2) := by decide +kernel
theorem dX7_order_29 : decode cX7_order 29 = .ok (.ireturn, 1) := by decide +kernel
theorem dX7_order_30 : decode cX7_order 30 = .ok (.iconst 0, 1) := by decide +kernel
theorem dX7_order_31 : decode cX7_order 31 = .ok (.istore 6, 2) := by decide +kernel
theorem dX7_order_33 : decode cX7_order 33 = .ok (.aload_n 0, 1) := by decide +kernel
theorem dX7_order_34 : decode cX7_order 34 = .ok (.iload_n 1, 1) := by decide +kernel
theorem dX7_order_35 : decode cX7_order 35 = .ok (.iload_n 2, 1) := by decide +kernel
theorem dX7_order_36 : decode cX7_order 36 = .ok (.iload 6, 2) := by decide +kernel
theorem dX7_order_38 : decode cX7_order 38 = .ok (.iload_n 3, 1) := by decide +kernel
theorem dX7_order_39 : decode cX7_order 39 = .ok (.invokevirtual 173, 3) := by decide +kernel
theorem dX7_order_42 : decode cX7_order 42 = .ok (.aload_n 0, 1) := by decide +kernel
theorem dX7_order_43 : decode cX7_order 43 = .ok (.getfield 157, 3) := by decide +kernel
theorem dX7_order_46 : decode cX7_order 46 = .ok (.lload 4, 2) := by decide +kernel
theorem dX7_order_48 : decode cX7_order 48 = .ok (.lcmp, 1) := by decide +kernel
theorem dX7_order_49 : decode cX7_order 49 = .ok (.ifCond .le 18, 3) := by decide +kernel
theorem dX7_order_52 : decode cX7_order 52 = .ok (.iinc 6 1, 3) := by decide +kernel
theorem dX7_order_55 : decode cX7_order 55 = .ok (.aload_n 0, 1) := by decide +kernel
theorem dX7_order_56 : decode cX7_order 56 = .ok (.iload_n 1, 1) := by decide +kernel
theorem dX7_order_57 : decode cX7_order 57 = .ok (.iload_n 2, 1) := by decide +kernel
theorem dX7_order_58 : decode cX7_order 58 = .ok (.iload 6, 2) := by decide +kernel
theorem dX7_order_60 : decode cX7_order 60 = .ok (.iload_n 3, 1) := by decide +kernel
theorem dX7_order_61 : decode cX7_order 61 = .ok (.invokevirtual 173, 3) := by decide +kernel
theorem dX7_order_64 : decode cX7_order 64 = .ok (.goto (-22), 3) := by decide +kernel
theorem dX7_order_67 : decode cX7_order 67 = .ok (.iload 6, 2) := by decide +kernel
theorem dX7_order_69 : decode cX7_order 69 = .ok (.ireturn, 1) := by decide +kernel
theorem dX7_way_0 : decode cX7_way 0 = .ok (.iload_n 1, 1) := by decide +kernel
theorem dX7_way_1 : decode cX7_way 1 = .ok (.iload_n 2, 1) := by decide +kernel
theorem dX7_way_2 : decode cX7_way 2 = .ok (.invokestatic 68, 3) := by decide +kernel
theorem dX7_way_5 : decode cX7_way 5 = .ok (.ifCond .eq 33, 3) := by decide +kernel
theorem dX7_way_8 : decode cX7_way 8 = .ok (.iload_n 3, 1) := by decide +kernel
theorem dX7_way_9 : decode cX7_way 9 = .ok (.i2l, 1) := by decide +kernel
theorem dX7_way_10 : decode cX7_way 10 = .ok (.lconst 1, 1) := by decide +kernel
theorem dX7_way_11 : decode cX7_way 11 = .ok (.ldc2_w 171, 3) := by decide +kernel
theorem dX7_way_14 : decode cX7_way 14 = .ok (.invokestatic 62, 3) := by decide +kernel
theorem dX7_way_17 : decode cX7_way 17 = .ok (.ifCond .eq 21, 3) := by decide +kernel
theorem dX7_way_20 : decode cX7_way 20 = .ok (.iload 4, 2) := by decide +kernel
theorem dX7_way_22 : decode cX7_way 22 = .ok (.ifCond .lt 16, 3) := by decide +kernel
theorem dX7_way_25 : decode cX7_way 25 = .ok (.iload 5, 2) := by decide +kernel
theorem dX7_way_27 : decode cX7_way 27 = .ok (.i2l, 1) := by decide +kernel
theorem dX7_way_28 : decode cX7_way 28 = .ok (.lconst 0, 1) := by decide +kernel
theorem dX7_way_29 : decode cX7_way 29 = .ok (.ldc2_w 134, 3) := by decide +kernel
theorem dX7_way_32 : decode cX7_way 32 = .ok (.invokestatic 62, 3) := by decide +kernel
theorem dX7_way_35 : decode cX7_way 35 = .ok (.ifCond .ne 6, 3) := by decide +kernel
theorem dX7_way_38 : decode cX7_way 38 = .ok (.bipush (-2), 2) := by decide +kernel
theorem dX7_way_40 : decode cX7_way 40 = .ok (.ireturn, 1) := by decide +kernel
theorem dX7_way_41 : decode cX7_way 41 = .ok (.aload_n 0, 1) := by decide +kernel
theorem dX7_way_42 : decode cX7_way 42 = .ok (.iload_n 1, 1) := by decide +kernel
theorem dX7_way_43 : decode cX7_way 43 = .ok (.iload_n 2, 1) := by decide +kernel
theorem dX7_way_44 : decode cX7_way 44 = .ok (.iconst 0, 1) := by decide +kernel
theorem dX7_way_45 : decode cX7_way 45 = .ok (.iload_n 3, 1) := by decide +kernel
theorem dX7_way_46 : decode cX7_way 46 = .ok (.invokevirtual 173, 3) := by decide +kernel
theorem dX7_way_49 : decode cX7_way 49 = .ok (.iload 4, 2) := by decide +kernel
theorem dX7_way_51 : decode cX7_way 51 = .ok (.aload_n 0, 1) := by decide +kernel
theorem dX7_way_52 : decode cX7_way 52 = .ok (.getfield 150, 3) := by decide +kernel
theorem dX7_way_55 : decode cX7_way 55 = .ok (.if_icmp .lt 5, 3) := by decide +kernel
theorem dX7_way_58 : decode cX7_way 58 = .ok (.iconst (-1), 1) := by decide +kernel
theorem dX7_way_59 : decode cX7_way 59 = .ok (.ireturn, 1) := by decide +kernel
theorem dX7_way_60 : decode cX7_way 60 = .ok (.iload 5, 2) := by decide +kernel
theorem dX7_way_62 : decode cX7_way 62 = .ok (.ifCond .ne 13, 3) := by decide +kernel
theorem dX7_way_65 : decode cX7_way 65 = .ok (.aload_n 0, 1) := by decide +kernel
theorem dX7_way_66 : decode cX7_way 66 = .ok (.getfield 45, 3) := by decide +kernel
theorem dX7_way_69 : decode cX7_way 69 = .ok (.iload 4, 2) := by decide +kernel
theorem dX7_way_71 : decode cX7_way 71 = .ok (.iaload, 1) := by decide +kernel
theorem dX7_way_72 : decode cX7_way 72 = .ok (.goto 26, 3) := by decide +kernel
theorem dX7_way_75 : decode cX7_way 75 = .ok (.iload 5, 2) := by decide +kernel
theorem dX7_way_77 : decode cX7_way 77 = .ok (.iconst 1, 1) := by decide +kernel
theorem dX7_way_78 : decode cX7_way 78 = .ok (.if_icmp .ne 13, 3) := by decide +kernel
theorem dX7_way_81 : decode cX7_way 81 = .ok (.aload_n 0, 1) := by decide +kernel
theorem dX7_way_82 : decode cX7_way 82 = .ok (.getfield 48, 3) := by decide +kernel
theorem dX7_way_85 : decode cX7_way 85 = .ok (.iload 4, 2) := by decide +kernel
theorem dX7_way_87 : decode cX7_way 87 = .ok (.iaload, 1) := by decide +kernel
theorem dX7_way_88 : decode cX7_way 88 = .ok (.goto 10, 3) := by decide +kernel
theorem dX7_way_91 : decode cX7_way 91 = .ok (.aload_n 0, 1) := by decide +kernel
theorem dX7_way_92 : decode cX7_way 92 = .ok (.getfield 51, 3) := by decide +kernel
theorem dX7_way_95 : decode cX7_way 95 = .ok (.iload 4, 2) := by decide +kernel
theorem dX7_way_97 : decode cX7_way 97 = .ok (.iaload, 1) := by decide +kernel
theorem dX7_way_98 : decode cX7_way 98 = .ok (.ireturn, 1) := by decide +kernel
theorem dX7_farOf_0 : decode cX7_farOf 0 = .ok (.aload_n 0, 1) := by decide +kernel
theorem dX7_farOf_1 : decode cX7_farOf 1 = .ok (.getfield 13, 3) := by decide +kernel
theorem dX7_farOf_4 : decode cX7_farOf 4 = .ok (.iload_n 1, 1) := by decide +kernel
theorem dX7_farOf_5 : decode cX7_farOf 5 = .ok (.iaload, 1) := by decide +kernel
theorem dX7_farOf_6 : decode cX7_farOf 6 = .ok (.iload_n 2, 1) := by decide +kernel
theorem dX7_farOf_7 : decode cX7_farOf 7 = .ok (.isub, 1) := by decide +kernel
theorem dX7_farOf_8 : decode cX7_farOf 8 = .ok (.aload_n 0, 1) := by decide +kernel
theorem dX7_farOf_9 : decode cX7_farOf 9 = .ok (.getfield 13, 3) := by decide +kernel
theorem dX7_farOf_12 : decode cX7_farOf 12 = .ok (.iload_n 1, 1) := by decide +kernel
theorem dX7_farOf_13 : decode cX7_farOf 13 = .ok (.iaload, 1) := by decide +kernel
theorem dX7_farOf_14 : decode cX7_farOf 14 = .ok (.iload_n 2, 1) := by decide +kernel
theorem dX7_farOf_15 : decode cX7_farOf 15 = .ok (.isub, 1) := by decide +kernel
theorem dX7_farOf_16 : decode cX7_farOf 16 = .ok (.imul, 1) := by decide +kernel
theorem dX7_farOf_17 : decode cX7_farOf 17 = .ok (.aload_n 0, 1) := by decide +kernel
theorem dX7_farOf_18 : decode cX7_farOf 18 = .ok (.getfield 17, 3) := by decide +kernel
theorem dX7_farOf_21 : decode cX7_farOf 21 = .ok (.iload_n 1, 1) := by decide +kernel
theorem dX7_farOf_22 : decode cX7_farOf 22 = .ok (.iaload, 1) := by decide +kernel
theorem dX7_farOf_23 : decode cX7_farOf 23 = .ok (.iload_n 3, 1) := by decide +kernel
theorem dX7_farOf_24 : decode cX7_farOf 24 = .ok (.isub, 1) := by decide +kernel
theorem dX7_farOf_25 : decode cX7_farOf 25 = .ok (.aload_n 0, 1) := by decide +kernel
theorem dX7_farOf_26 : decode cX7_farOf 26 = .ok (.getfield 17, 3) := by decide +kernel
theorem dX7_farOf_29 : decode cX7_farOf 29 = .ok (.iload_n 1, 1) := by decide +kernel
theorem dX7_farOf_30 : decode cX7_farOf 30 = .ok (.iaload, 1) := by decide +kernel
theorem dX7_farOf_31 : decode cX7_farOf 31 = .ok (.iload_n 3, 1) := by decide +kernel
theorem dX7_farOf_32 : decode cX7_farOf 32 = .ok (.isub, 1) := by decide +kernel
theorem dX7_farOf_33 : decode cX7_farOf 33 = .ok (.imul, 1) := by decide +kernel
theorem dX7_farOf_34 : decode cX7_farOf 34 = .ok (.iadd, 1) := by decide +kernel
theorem dX7_farOf_35 : decode cX7_farOf 35 = .ok (.ireturn, 1) := by decide +kernel
theorem dX7_nearest_0 : decode cX7_nearest 0 = .ok (.iload_n 1, 1) := by decide +kernel
theorem dX7_nearest_1 : decode cX7_nearest 1 = .ok (.iload_n 2, 1) := by decide +kernel
theorem dX7_nearest_2 : decode cX7_nearest 2 = .ok (.invokestatic 68, 3) := by decide +kernel
theorem dX7_nearest_5 : decode cX7_nearest 5 = .ok (.ifCond .eq 7, 3) := by decide +kernel
theorem dX7_nearest_8 : decode cX7_nearest 8 = .ok (.iload_n 3, 1) := by decide +kernel
theorem dX7_nearest_9 : decode cX7_nearest 9 = .ok (.ifCond .ge 6, 3) := by decide +kernel
theorem dX7_nearest_12 : decode cX7_nearest 12 = .ok (.bipush (-2), 2) := by decide +kernel
theorem dX7_nearest_14 : decode cX7_nearest 14 = .ok (.ireturn, 1) := by decide +kernel
theorem dX7_nearest_15 : decode cX7_nearest 15 = .ok (.iconst 0, 1) := by decide +kernel
theorem dX7_nearest_16 : decode cX7_nearest 16 = .ok (.istore 4, 2) := by decide +kernel
theorem dX7_nearest_18 : decode cX7_nearest 18 = .ok (.iload 4, 2) := by decide +kernel
theorem dX7_nearest_20 : decode cX7_nearest 20 = .ok (.bipush 40, 2) := by decide +kernel
theorem dX7_nearest_22 : decode cX7_nearest 22 = .ok (.if_icmp .ge 112, 3) := by decide +kernel
theorem dX7_nearest_25 : decode cX7_nearest 25 = .ok (.aload_n 0, 1) := by decide +kernel
theorem dX7_nearest_26 : decode cX7_nearest 26 = .ok (.getfield 7, 3) := by decide +kernel
theorem dX7_nearest_29 : decode cX7_nearest 29 = .ok (.iload 4, 2) := by decide +kernel
theorem dX7_nearest_31 : decode cX7_nearest 31 = .ok (.baload, 1) := by decide +kernel
theorem dX7_nearest_32 : decode cX7_nearest 32 = .ok (.ifCond .eq 96, 3) := by decide +kernel
theorem dX7_nearest_35 : decode cX7_nearest 35 = .ok (.iconst 0, 1) := by decide +kernel
theorem dX7_nearest_36 : decode cX7_nearest 36 = .ok (.istore 5, 2) := by decide +kernel
theorem dX7_nearest_38 : decode cX7_nearest 38 = .ok (.iconst 0, 1) := by decide +kernel
theorem dX7_nearest_39 : decode cX7_nearest 39 = .ok (.istore 6, 2) := by decide +kernel
theorem dX7_nearest_41 : decode cX7_nearest 41 = .ok (.iload 6, 2) := by decide +kernel
theorem dX7_nearest_43 : decode cX7_nearest 43 = .ok (.bipush 40, 2) := by decide +kernel
theorem dX7_nearest_45 : decode cX7_nearest 45 = .ok (.if_icmp .ge 74, 3) := by decide +kernel
theorem dX7_nearest_48 : decode cX7_nearest 48 = .ok (.iload 5, 2) := by decide +kernel
theorem dX7_nearest_50 : decode cX7_nearest 50 = .ok (.aload_n 0, 1) := by decide +kernel
theorem dX7_nearest_51 : decode cX7_nearest 51 = .ok (.getfield 7, 3) := by decide +kernel
theorem dX7_nearest_54 : decode cX7_nearest 54 = .ok (.iload 6, 2) := by decide +kernel
theorem dX7_nearest_56 : decode cX7_nearest 56 = .ok (.baload, 1) := by decide +kernel
theorem dX7_nearest_57 : decode cX7_nearest 57 = .ok (.ifCond .eq 52, 3) := by decide +kernel
theorem dX7_nearest_60 : decode cX7_nearest 60 = .ok (.aload_n 0, 1) := by decide +kernel
theorem dX7_nearest_61 : decode cX7_nearest 61 = .ok (.iload 6, 2) := by decide +kernel
theorem dX7_nearest_63 : decode cX7_nearest 63 = .ok (.iload_n 1, 1) := by decide +kernel
theorem dX7_nearest_64 : decode cX7_nearest 64 = .ok (.iload_n 2, 1) := by decide +kernel
theorem dX7_nearest_65 : decode cX7_nearest 65 = .ok (.invokevirtual 177, 3) := by decide +kernel
theorem dX7_nearest_68 : decode cX7_nearest 68 = .ok (.aload_n 0, 1) := by decide +kernel
theorem dX7_nearest_69 : decode cX7_nearest 69 = .ok (.iload 4, 2) := by decide +kernel
theorem dX7_nearest_71 : decode cX7_nearest 71 = .ok (.iload_n 1, 1) := by decide +kernel
theorem dX7_nearest_72 : decode cX7_nearest 72 = .ok (.iload_n 2, 1) := by decide +kernel
theorem dX7_nearest_73 : decode cX7_nearest 73 = .ok (.invokevirtual 177, 3) := by decide +kernel
theorem dX7_nearest_76 : decode cX7_nearest 76 = .ok (.if_icmp .lt 29, 3) := by decide +kernel
theorem dX7_nearest_79 : decode cX7_nearest 79 = .ok (.aload_n 0, 1) := by decide +kernel
theorem dX7_nearest_80 : decode cX7_nearest 80 = .ok (.iload 6, 2) := by decide +kernel
theorem dX7_nearest_82 : decode cX7_nearest 82 = .ok (.iload_n 1, 1) := by decide +kernel
theorem dX7_nearest_83 : decode cX7_nearest 83 = .ok (.iload_n 2, 1) := by decide +kernel
theorem dX7_nearest_84 : decode cX7_nearest 84 = .ok (.invokevirtual 177, 3) := by decide +kernel
theorem dX7_nearest_87 : decode cX7_nearest 87 = .ok (.aload_n 0, 1) := by decide +kernel
theorem dX7_nearest_88 : decode cX7_nearest 88 = .ok (.iload 4, 2) := by decide +kernel
theorem dX7_nearest_90 : decode cX7_nearest 90 = .ok (.iload_n 1, 1) := by decide +kernel
theorem dX7_nearest_91 : decode cX7_nearest 91 = .ok (.iload_n 2, 1) := by decide +kernel
theorem dX7_nearest_92 : decode cX7_nearest 92 = .ok (.invokevirtual 177, 3) := by decide +kernel
theorem dX7_nearest_95 : decode cX7_nearest 95 = .ok (.if_icmp .ne 14, 3) := by decide +kernel
theorem dX7_nearest_98 : decode cX7_nearest 98 = .ok (.iload 6, 2) := by decide +kernel
theorem dX7_nearest_100 : decode cX7_nearest 100 = .ok (.iload 4, 2) := by decide +kernel
theorem dX7_nearest_102 : decode cX7_nearest 102 = .ok (.if_icmp .ge 7, 3) := by decide +kernel
theorem dX7_nearest_105 : decode cX7_nearest 105 = .ok (.iconst 1, 1) := by decide +kernel
theorem dX7_nearest_106 : decode cX7_nearest 106 = .ok (.goto 4, 3) := by decide +kernel
theorem dX7_nearest_109 : decode cX7_nearest 109 = .ok (.iconst 0, 1) := by decide +kernel
theorem dX7_nearest_110 : decode cX7_nearest 110 = .ok (.iadd, 1) := by decide +kernel
theorem dX7_nearest_111 : decode cX7_nearest 111 = .ok (.istore 5, 2) := by decide +kernel
theorem dX7_nearest_113 : decode cX7_nearest 113 = .ok (.iinc 6 1, 3) := by decide +kernel
theorem dX7_nearest_116 : decode cX7_nearest 116 = .ok (.goto (-75), 3) := by decide +kernel
theorem dX7_nearest_119 : decode cX7_nearest 119 = .ok (.iload 5, 2) := by decide +kernel
theorem dX7_nearest_121 : decode cX7_nearest 121 = .ok (.iload_n 3, 1) := by decide +kernel
theorem dX7_nearest_122 : decode cX7_nearest 122 = .ok (.if_icmp .ne 6, 3) := by decide +kernel
theorem dX7_nearest_125 : decode cX7_nearest 125 = .ok (.iload 4, 2) := by decide +kernel
theorem dX7_nearest_127 : decode cX7_nearest 127 = .ok (.ireturn, 1) := by decide +kernel
theorem dX7_nearest_128 : decode cX7_nearest 128 = .ok (.iinc 4 1, 3) := by decide +kernel
theorem dX7_nearest_131 : decode cX7_nearest 131 = .ok (.goto (-113), 3) := by decide +kernel
theorem dX7_nearest_134 : decode cX7_nearest 134 = .ok (.iconst (-1), 1) := by decide +kernel
theorem dX7_nearest_135 : decode cX7_nearest 135 = .ok (.ireturn, 1) := by decide +kernel
theorem dX7_push_0 : decode cX7_push 0 = .ok (.lload_n 0, 1) := by decide +kernel
theorem dX7_push_1 : decode cX7_push 1 = .ok (.lload_n 2, 1) := by decide +kernel
theorem dX7_push_2 : decode cX7_push 2 = .ok (.lsub, 1) := by decide +kernel
theorem dX7_push_3 : decode cX7_push 3 = .ok (.bipush 12, 2) := by decide +kernel
theorem dX7_push_5 : decode cX7_push 5 = .ok (.lshr, 1) := by decide +kernel
theorem dX7_push_6 : decode cX7_push 6 = .ok (.ldc2_w 180, 3) := by decide +kernel
theorem dX7_push_9 : decode cX7_push 9 = .ok (.ladd, 1) := by decide +kernel
theorem dX7_push_10 : decode cX7_push 10 = .ok (.ldc2_w 60, 3) := by decide +kernel
theorem dX7_push_13 : decode cX7_push 13 = .ok (.land, 1) := by decide +kernel
theorem dX7_push_14 : decode cX7_push 14 = .ok (.l2i, 1) := by decide +kernel
theorem dX7_push_15 : decode cX7_push 15 = .ok (.bipush 32, 2) := by decide +kernel
theorem dX7_push_17 : decode cX7_push 17 = .ok (.isub, 1) := by decide +kernel
theorem dX7_push_18 : decode cX7_push 18 = .ok (.ireturn, 1) := by decide +kernel
theorem dX7_findPushes_0 : decode cX7_findPushes 0 = .ok (.iconst 0, 1) := by decide +kernel
theorem dX7_findPushes_1 : decode cX7_findPushes 1 = .ok (.istore_n 1, 1) := by decide +kernel
theorem dX7_findPushes_2 : decode cX7_findPushes 2 = .ok (.iload_n 1, 1) := by decide +kernel
theorem dX7_findPushes_3 : decode cX7_findPushes 3 = .ok (.bipush 40, 2) := by decide +kernel
theorem dX7_findPushes_5 : decode cX7_findPushes 5 = .ok (.if_icmp .ge 108, 3) := by decide +kernel
theorem dX7_findPushes_8 : decode cX7_findPushes 8 = .ok (.aload_n 0, 1) := by decide +kernel
theorem dX7_findPushes_9 : decode cX7_findPushes 9 = .ok (.getfield 7, 3) := by decide +kernel
theorem dX7_findPushes_12 : decode cX7_findPushes 12 = .ok (.iload_n 1, 1) := by decide +kernel
theorem dX7_findPushes_13 : decode cX7_findPushes 13 = .ok (.baload, 1) := by decide +kernel
theorem dX7_findPushes_14 : decode cX7_findPushes 14 = .ok (.ifCond .eq 93, 3) := by decide +kernel
theorem dX7_findPushes_17 : decode cX7_findPushes 17 = .ok (.aload_n 0, 1) := by decide +kernel
theorem dX7_findPushes_18 : decode cX7_findPushes 18 = .ok (.getfield 54, 3) := by decide +kernel
theorem dX7_findPushes_21 : decode cX7_findPushes 21 = .ok (.iload_n 1, 1) := by decide +kernel
theorem dX7_findPushes_22 : decode cX7_findPushes 22 = .ok (.aload_n 0, 1) := by decide +kernel
theorem dX7_findPushes_23 : decode cX7_findPushes 23 = .ok (.aload_n 0, 1) := by decide +kernel
theorem dX7_findPushes_24 : decode cX7_findPushes 24 = .ok (.getfield 13, 3) := by decide +kernel
theorem dX7_findPushes_27 : decode cX7_findPushes 27 = .ok (.iload_n 1, 1) := by decide +kernel
theorem dX7_findPushes_28 : decode cX7_findPushes 28 = .ok (.iaload, 1) := by decide +kernel
theorem dX7_findPushes_29 : decode cX7_findPushes 29 = .ok (.iconst 1, 1) := by decide +kernel
theorem dX7_findPushes_30 : decode cX7_findPushes 30 = .ok (.iadd, 1) := by decide +kernel
theorem dX7_findPushes_31 : decode cX7_findPushes 31 = .ok (.aload_n 0, 1) := by decide +kernel
theorem dX7_findPushes_32 : decode cX7_findPushes 32 = .ok (.getfield 17, 3) := by decide +kernel
theorem dX7_findPushes_35 : decode cX7_findPushes 35 = .ok (.iload_n 1, 1) := by decide +kernel
theorem dX7_findPushes_36 : decode cX7_findPushes 36 = .ok (.iaload, 1) := by decide +kernel
theorem dX7_findPushes_37 : decode cX7_findPushes 37 = .ok (.invokevirtual 107, 3) := by decide +kernel
theorem dX7_findPushes_40 : decode cX7_findPushes 40 = .ok (.aload_n 0, 1) := by decide +kernel
theorem dX7_findPushes_41 : decode cX7_findPushes 41 = .ok (.aload_n 0, 1) := by decide +kernel
theorem dX7_findPushes_42 : decode cX7_findPushes 42 = .ok (.getfield 13, 3) := by decide +kernel
theorem dX7_findPushes_45 : decode cX7_findPushes 45 = .ok (.iload_n 1, 1) := by decide +kernel
theorem dX7_findPushes_46 : decode cX7_findPushes 46 = .ok (.iaload, 1) := by decide +kernel
theorem dX7_findPushes_47 : decode cX7_findPushes 47 = .ok (.iconst 1, 1) := by decide +kernel
theorem dX7_findPushes_48 : decode cX7_findPushes 48 = .ok (.isub, 1) := by decide +kernel
theorem dX7_findPushes_49 : decode cX7_findPushes 49 = .ok (.aload_n 0, 1) := by decide +kernel
theorem dX7_findPushes_50 : decode cX7_findPushes 50 = .ok (.getfield 17, 3) := by decide +kernel
theorem dX7_findPushes_53 : decode cX7_findPushes 53 = .ok (.iload_n 1, 1) := by decide +kernel
theorem dX7_findPushes_54 : decode cX7_findPushes 54 = .ok (.iaload, 1) := by decide +kernel
theorem dX7_findPushes_55 : decode cX7_findPushes 55 = .ok (.invokevirtual 107, 3) := by decide +kernel
theorem dX7_findPushes_58 : decode cX7_findPushes 58 = .ok (.invokestatic 182, 3) := by decide +kernel
theorem dX7_findPushes_61 : decode cX7_findPushes 61 = .ok (.iastore, 1) := by decide +kernel
theorem dX7_findPushes_62 : decode cX7_findPushes 62 = .ok (.aload_n 0, 1) := by decide +kernel
theorem dX7_findPushes_63 : decode cX7_findPushes 63 = .ok (.getfield 57, 3) := by decide +kernel
theorem dX7_findPushes_66 : decode cX7_findPushes 66 = .ok (.iload_n 1, 1) := by decide +kernel
theorem dX7_findPushes_67 : decode cX7_findPushes 67 = .ok (.aload_n 0, 1) := by decide +kernel
theorem dX7_findPushes_68 : decode cX7_findPushes 68 = .ok (.aload_n 0, 1) := by decide +kernel
theorem dX7_findPushes_69 : decode cX7_findPushes 69 = .ok (.getfield 13, 3) := by decide +kernel
theorem dX7_findPushes_72 : decode cX7_findPushes 72 = .ok (.iload_n 1, 1) := by decide +kernel
theorem dX7_findPushes_73 : decode cX7_findPushes 73 = .ok (.iaload, 1) := by decide +kernel
theorem dX7_findPushes_74 : decode cX7_findPushes 74 = .ok (.aload_n 0, 1) := by decide +kernel
theorem dX7_findPushes_75 : decode cX7_findPushes 75 = .ok (.getfield 17, 3) := by decide +kernel
theorem dX7_findPushes_78 : decode cX7_findPushes 78 = .ok (.iload_n 1, 1) := by decide +kernel
theorem dX7_findPushes_79 : decode cX7_findPushes 79 = .ok (.iaload, 1) := by decide +kernel
theorem dX7_findPushes_80 : decode cX7_findPushes 80 = .ok (.iconst 1, 1) := by decide +kernel
theorem dX7_findPushes_81 : decode cX7_findPushes 81 = .ok (.iadd, 1) := by decide +kernel
theorem dX7_findPushes_82 : decode cX7_findPushes 82 = .ok (.invokevirtual 107, 3) := by decide +kernel
theorem dX7_findPushes_85 : decode cX7_findPushes 85 = .ok (.aload_n 0, 1) := by decide +kernel
theorem dX7_findPushes_86 : decode cX7_findPushes 86 = .ok (.aload_n 0, 1) := by decide +kernel
theorem dX7_findPushes_87 : decode cX7_findPushes 87 = .ok (.getfield 13, 3) := by decide +kernel
theorem dX7_findPushes_90 : decode cX7_findPushes 90 = .ok (.iload_n 1, 1) := by decide +kernel
theorem dX7_findPushes_91 : decode cX7_findPushes 91 = .ok (.iaload, 1) := by decide +kernel
theorem dX7_findPushes_92 : decode cX7_findPushes 92 = .ok (.aload_n 0, 1) := by decide +kernel
theorem dX7_findPushes_93 : decode cX7_findPushes 93 = .ok (.getfield 17, 3) := by decide +kernel
theorem dX7_findPushes_96 : decode cX7_findPushes 96 = .ok (.iload_n 1, 1) := by decide +kernel
theorem dX7_findPushes_97 : decode cX7_findPushes 97 = .ok (.iaload, 1) := by decide +kernel
theorem dX7_findPushes_98 : decode cX7_findPushes 98 = .ok (.iconst 1, 1) := by decide +kernel
theorem dX7_findPushes_99 : decode cX7_findPushes 99 = .ok (.isub, 1) := by decide +kernel
theorem dX7_findPushes_100 : decode cX7_findPushes 100 = .ok (.invokevirtual 107, 3) := by decide +kernel
theorem dX7_findPushes_103 : decode cX7_findPushes 103 = .ok (.invokestatic 182, 3) := by decide +kernel
theorem dX7_findPushes_106 : decode cX7_findPushes 106 = .ok (.iastore, 1) := by decide +kernel
theorem dX7_findPushes_107 : decode cX7_findPushes 107 = .ok (.iinc 1 1, 3) := by decide +kernel
theorem dX7_findPushes_110 : decode cX7_findPushes 110 = .ok (.goto (-108), 3) := by decide +kernel
theorem dX7_findPushes_113 : decode cX7_findPushes 113 = .ok (.return_, 1) := by decide +kernel
theorem dX7_brought_0 : decode cX7_brought 0 = .ok (.iload_n 0, 1) := by decide +kernel
theorem dX7_brought_1 : decode cX7_brought 1 = .ok (.bipush 32, 2) := by decide +kernel
theorem dX7_brought_3 : decode cX7_brought 3 = .ok (.iadd, 1) := by decide +kernel
theorem dX7_brought_4 : decode cX7_brought 4 = .ok (.bipush 63, 2) := by decide +kernel
theorem dX7_brought_6 : decode cX7_brought 6 = .ok (.iand, 1) := by decide +kernel
theorem dX7_brought_7 : decode cX7_brought 7 = .ok (.bipush 32, 2) := by decide +kernel
theorem dX7_brought_9 : decode cX7_brought 9 = .ok (.isub, 1) := by decide +kernel
theorem dX7_brought_10 : decode cX7_brought 10 = .ok (.ireturn, 1) := by decide +kernel
theorem dX7_goOn_0 : decode cX7_goOn 0 = .ok (.aload_n 0, 1) := by decide +kernel
theorem dX7_goOn_1 : decode cX7_goOn 1 = .ok (.invokevirtual 186, 3) := by decide +kernel
theorem dX7_goOn_4 : decode cX7_goOn 4 = .ok (.iconst 0, 1) := by decide +kernel
theorem dX7_goOn_5 : decode cX7_goOn 5 = .ok (.istore_n 1, 1) := by decide +kernel
theorem dX7_goOn_6 : decode cX7_goOn 6 = .ok (.iload_n 1, 1) := by decide +kernel
theorem dX7_goOn_7 : decode cX7_goOn 7 = .ok (.bipush 40, 2) := by decide +kernel
theorem dX7_goOn_9 : decode cX7_goOn 9 = .ok (.if_icmp .ge 106, 3) := by decide +kernel
theorem dX7_goOn_12 : decode cX7_goOn 12 = .ok (.aload_n 0, 1) := by decide +kernel
theorem dX7_goOn_13 : decode cX7_goOn 13 = .ok (.getfield 7, 3) := by decide +kernel
theorem dX7_goOn_16 : decode cX7_goOn 16 = .ok (.iload_n 1, 1) := by decide +kernel
theorem dX7_goOn_17 : decode cX7_goOn 17 = .ok (.baload, 1) := by decide +kernel
theorem dX7_goOn_18 : decode cX7_goOn 18 = .ok (.ifCond .eq 91, 3) := by decide +kernel
theorem dX7_goOn_21 : decode cX7_goOn 21 = .ok (.aload_n 0, 1) := by decide +kernel
theorem dX7_goOn_22 : decode cX7_goOn 22 = .ok (.getfield 23, 3) := by decide +kernel
theorem dX7_goOn_25 : decode cX7_goOn 25 = .ok (.iload_n 1, 1) := by decide +kernel
theorem dX7_goOn_26 : decode cX7_goOn 26 = .ok (.aload_n 0, 1) := by decide +kernel
theorem dX7_goOn_27 : decode cX7_goOn 27 = .ok (.getfield 23, 3) := by decide +kernel
theorem dX7_goOn_30 : decode cX7_goOn 30 = .ok (.iload_n 1, 1) := by decide +kernel
theorem dX7_goOn_31 : decode cX7_goOn 31 = .ok (.iaload, 1) := by decide +kernel
theorem dX7_goOn_32 : decode cX7_goOn 32 = .ok (.aload_n 0, 1) := by decide +kernel
theorem dX7_goOn_33 : decode cX7_goOn 33 = .ok (.getfield 54, 3) := by decide +kernel
theorem dX7_goOn_36 : decode cX7_goOn 36 = .ok (.iload_n 1, 1) := by decide +kernel
theorem dX7_goOn_37 : decode cX7_goOn 37 = .ok (.iaload, 1) := by decide +kernel
theorem dX7_goOn_38 : decode cX7_goOn 38 = .ok (.iadd, 1) := by decide +kernel
theorem dX7_goOn_39 : decode cX7_goOn 39 = .ok (.invokestatic 189, 3) := by decide +kernel
theorem dX7_goOn_42 : decode cX7_goOn 42 = .ok (.iastore, 1) := by decide +kernel
theorem dX7_goOn_43 : decode cX7_goOn 43 = .ok (.aload_n 0, 1) := by decide +kernel
theorem dX7_goOn_44 : decode cX7_goOn 44 = .ok (.getfield 26, 3) := by decide +kernel
theorem dX7_goOn_47 : decode cX7_goOn 47 = .ok (.iload_n 1, 1) := by decide +kernel
theorem dX7_goOn_48 : decode cX7_goOn 48 = .ok (.aload_n 0, 1) := by decide +kernel
theorem dX7_goOn_49 : decode cX7_goOn 49 = .ok (.getfield 26, 3) := by decide +kernel
theorem dX7_goOn_52 : decode cX7_goOn 52 = .ok (.iload_n 1, 1) := by decide +kernel
theorem dX7_goOn_53 : decode cX7_goOn 53 = .ok (.iaload, 1) := by decide +kernel
theorem dX7_goOn_54 : decode cX7_goOn 54 = .ok (.aload_n 0, 1) := by decide +kernel
theorem dX7_goOn_55 : decode cX7_goOn 55 = .ok (.getfield 57, 3) := by decide +kernel
theorem dX7_goOn_58 : decode cX7_goOn 58 = .ok (.iload_n 1, 1) := by decide +kernel
theorem dX7_goOn_59 : decode cX7_goOn 59 = .ok (.iaload, 1) := by decide +kernel
theorem dX7_goOn_60 : decode cX7_goOn 60 = .ok (.iadd, 1) := by decide +kernel
theorem dX7_goOn_61 : decode cX7_goOn 61 = .ok (.invokestatic 189, 3) := by decide +kernel
theorem dX7_goOn_64 : decode cX7_goOn 64 = .ok (.iastore, 1) := by decide +kernel
theorem dX7_goOn_65 : decode cX7_goOn 65 = .ok (.aload_n 0, 1) := by decide +kernel
theorem dX7_goOn_66 : decode cX7_goOn 66 = .ok (.getfield 13, 3) := by decide +kernel
theorem dX7_goOn_69 : decode cX7_goOn 69 = .ok (.iload_n 1, 1) := by decide +kernel
theorem dX7_goOn_70 : decode cX7_goOn 70 = .ok (.aload_n 0, 1) := by decide +kernel
theorem dX7_goOn_71 : decode cX7_goOn 71 = .ok (.getfield 13, 3) := by decide +kernel
theorem dX7_goOn_74 : decode cX7_goOn 74 = .ok (.iload_n 1, 1) := by decide +kernel
theorem dX7_goOn_75 : decode cX7_goOn 75 = .ok (.iaload, 1) := by decide +kernel
theorem dX7_goOn_76 : decode cX7_goOn 76 = .ok (.aload_n 0, 1) := by decide +kernel
theorem dX7_goOn_77 : decode cX7_goOn 77 = .ok (.getfield 23, 3) := by decide +kernel
theorem dX7_goOn_80 : decode cX7_goOn 80 = .ok (.iload_n 1, 1) := by decide +kernel
theorem dX7_goOn_81 : decode cX7_goOn 81 = .ok (.iaload, 1) := by decide +kernel
theorem dX7_goOn_82 : decode cX7_goOn 82 = .ok (.iadd, 1) := by decide +kernel
theorem dX7_goOn_83 : decode cX7_goOn 83 = .ok (.bipush 63, 2) := by decide +kernel
theorem dX7_goOn_85 : decode cX7_goOn 85 = .ok (.iand, 1) := by decide +kernel
theorem dX7_goOn_86 : decode cX7_goOn 86 = .ok (.iastore, 1) := by decide +kernel
theorem dX7_goOn_87 : decode cX7_goOn 87 = .ok (.aload_n 0, 1) := by decide +kernel
theorem dX7_goOn_88 : decode cX7_goOn 88 = .ok (.getfield 17, 3) := by decide +kernel
theorem dX7_goOn_91 : decode cX7_goOn 91 = .ok (.iload_n 1, 1) := by decide +kernel
theorem dX7_goOn_92 : decode cX7_goOn 92 = .ok (.aload_n 0, 1) := by decide +kernel
theorem dX7_goOn_93 : decode cX7_goOn 93 = .ok (.getfield 17, 3) := by decide +kernel
theorem dX7_goOn_96 : decode cX7_goOn 96 = .ok (.iload_n 1, 1) := by decide +kernel
theorem dX7_goOn_97 : decode cX7_goOn 97 = .ok (.iaload, 1) := by decide +kernel
theorem dX7_goOn_98 : decode cX7_goOn 98 = .ok (.aload_n 0, 1) := by decide +kernel
theorem dX7_goOn_99 : decode cX7_goOn 99 = .ok (.getfield 26, 3) := by decide +kernel
theorem dX7_goOn_102 : decode cX7_goOn 102 = .ok (.iload_n 1, 1) := by decide +kernel
theorem dX7_goOn_103 : decode cX7_goOn 103 = .ok (.iaload, 1) := by decide +kernel
theorem dX7_goOn_104 : decode cX7_goOn 104 = .ok (.iadd, 1) := by decide +kernel
theorem dX7_goOn_105 : decode cX7_goOn 105 = .ok (.bipush 63, 2) := by decide +kernel
theorem dX7_goOn_107 : decode cX7_goOn 107 = .ok (.iand, 1) := by decide +kernel
theorem dX7_goOn_108 : decode cX7_goOn 108 = .ok (.iastore, 1) := by decide +kernel
theorem dX7_goOn_109 : decode cX7_goOn 109 = .ok (.iinc 1 1, 3) := by decide +kernel
theorem dX7_goOn_112 : decode cX7_goOn 112 = .ok (.goto (-106), 3) := by decide +kernel
theorem dX7_goOn_115 : decode cX7_goOn 115 = .ok (.return_, 1) := by decide +kernel
theorem dX7_goBack_0 : decode cX7_goBack 0 = .ok (.iconst 0, 1) := by decide +kernel
theorem dX7_goBack_1 : decode cX7_goBack 1 = .ok (.istore_n 1, 1) := by decide +kernel
theorem dX7_goBack_2 : decode cX7_goBack 2 = .ok (.iload_n 1, 1) := by decide +kernel
theorem dX7_goBack_3 : decode cX7_goBack 3 = .ok (.bipush 40, 2) := by decide +kernel
theorem dX7_goBack_5 : decode cX7_goBack 5 = .ok (.if_icmp .ge 62, 3) := by decide +kernel
theorem dX7_goBack_8 : decode cX7_goBack 8 = .ok (.aload_n 0, 1) := by decide +kernel
theorem dX7_goBack_9 : decode cX7_goBack 9 = .ok (.getfield 7, 3) := by decide +kernel
theorem dX7_goBack_12 : decode cX7_goBack 12 = .ok (.iload_n 1, 1) := by decide +kernel
theorem dX7_goBack_13 : decode cX7_goBack 13 = .ok (.baload, 1) := by decide +kernel
theorem dX7_goBack_14 : decode cX7_goBack 14 = .ok (.ifCond .eq 47, 3) := by decide +kernel
theorem dX7_goBack_17 : decode cX7_goBack 17 = .ok (.aload_n 0, 1) := by decide +kernel
theorem dX7_goBack_18 : decode cX7_goBack 18 = .ok (.getfield 13, 3) := by decide +kernel
theorem dX7_goBack_21 : decode cX7_goBack 21 = .ok (.iload_n 1, 1) := by decide +kernel
theorem dX7_goBack_22 : decode cX7_goBack 22 = .ok (.aload_n 0, 1) := by decide +kernel
theorem dX7_goBack_23 : decode cX7_goBack 23 = .ok (.getfield 13, 3) := by decide +kernel
theorem dX7_goBack_26 : decode cX7_goBack 26 = .ok (.iload_n 1, 1) := by decide +kernel
theorem dX7_goBack_27 : decode cX7_goBack 27 = .ok (.iaload, 1) := by decide +kernel
theorem dX7_goBack_28 : decode cX7_goBack 28 = .ok (.aload_n 0, 1) := by decide +kernel
theorem dX7_goBack_29 : decode cX7_goBack 29 = .ok (.getfield 23, 3) := by decide +kernel
theorem dX7_goBack_32 : decode cX7_goBack 32 = .ok (.iload_n 1, 1) := by decide +kernel
theorem dX7_goBack_33 : decode cX7_goBack 33 = .ok (.iaload, 1) := by decide +kernel
theorem dX7_goBack_34 : decode cX7_goBack 34 = .ok (.isub, 1) := by decide +kernel
theorem dX7_goBack_35 : decode cX7_goBack 35 = .ok (.bipush 63, 2) := by decide +kernel
theorem dX7_goBack_37 : decode cX7_goBack 37 = .ok (.iand, 1) := by decide +kernel
theorem dX7_goBack_38 : decode cX7_goBack 38 = .ok (.iastore, 1) := by decide +kernel
theorem dX7_goBack_39 : decode cX7_goBack 39 = .ok (.aload_n 0, 1) := by decide +kernel
theorem dX7_goBack_40 : decode cX7_goBack 40 = .ok (.getfield 17, 3) := by decide +kernel
theorem dX7_goBack_43 : decode cX7_goBack 43 = .ok (.iload_n 1, 1) := by decide +kernel
theorem dX7_goBack_44 : decode cX7_goBack 44 = .ok (.aload_n 0, 1) := by decide +kernel
theorem dX7_goBack_45 : decode cX7_goBack 45 = .ok (.getfield 17, 3) := by decide +kernel
theorem dX7_goBack_48 : decode cX7_goBack 48 = .ok (.iload_n 1, 1) := by decide +kernel
theorem dX7_goBack_49 : decode cX7_goBack 49 = .ok (.iaload, 1) := by decide +kernel
theorem dX7_goBack_50 : decode cX7_goBack 50 = .ok (.aload_n 0, 1) := by decide +kernel
theorem dX7_goBack_51 : decode cX7_goBack 51 = .ok (.getfield 26, 3) := by decide +kernel
theorem dX7_goBack_54 : decode cX7_goBack 54 = .ok (.iload_n 1, 1) := by decide +kernel
theorem dX7_goBack_55 : decode cX7_goBack 55 = .ok (.iaload, 1) := by decide +kernel
theorem dX7_goBack_56 : decode cX7_goBack 56 = .ok (.isub, 1) := by decide +kernel
theorem dX7_goBack_57 : decode cX7_goBack 57 = .ok (.bipush 63, 2) := by decide +kernel
theorem dX7_goBack_59 : decode cX7_goBack 59 = .ok (.iand, 1) := by decide +kernel
theorem dX7_goBack_60 : decode cX7_goBack 60 = .ok (.iastore, 1) := by decide +kernel
theorem dX7_goBack_61 : decode cX7_goBack 61 = .ok (.iinc 1 1, 3) := by decide +kernel
theorem dX7_goBack_64 : decode cX7_goBack 64 = .ok (.goto (-62), 3) := by decide +kernel
theorem dX7_goBack_67 : decode cX7_goBack 67 = .ok (.aload_n 0, 1) := by decide +kernel
theorem dX7_goBack_68 : decode cX7_goBack 68 = .ok (.invokevirtual 186, 3) := by decide +kernel
theorem dX7_goBack_71 : decode cX7_goBack 71 = .ok (.iconst 0, 1) := by decide +kernel
theorem dX7_goBack_72 : decode cX7_goBack 72 = .ok (.istore_n 1, 1) := by decide +kernel
theorem dX7_goBack_73 : decode cX7_goBack 73 = .ok (.iload_n 1, 1) := by decide +kernel
theorem dX7_goBack_74 : decode cX7_goBack 74 = .ok (.bipush 40, 2) := by decide +kernel
theorem dX7_goBack_76 : decode cX7_goBack 76 = .ok (.if_icmp .ge 62, 3) := by decide +kernel
theorem dX7_goBack_79 : decode cX7_goBack 79 = .ok (.aload_n 0, 1) := by decide +kernel
theorem dX7_goBack_80 : decode cX7_goBack 80 = .ok (.getfield 7, 3) := by decide +kernel
theorem dX7_goBack_83 : decode cX7_goBack 83 = .ok (.iload_n 1, 1) := by decide +kernel
theorem dX7_goBack_84 : decode cX7_goBack 84 = .ok (.baload, 1) := by decide +kernel
theorem dX7_goBack_85 : decode cX7_goBack 85 = .ok (.ifCond .eq 47, 3) := by decide +kernel
theorem dX7_goBack_88 : decode cX7_goBack 88 = .ok (.aload_n 0, 1) := by decide +kernel
theorem dX7_goBack_89 : decode cX7_goBack 89 = .ok (.getfield 23, 3) := by decide +kernel
theorem dX7_goBack_92 : decode cX7_goBack 92 = .ok (.iload_n 1, 1) := by decide +kernel
theorem dX7_goBack_93 : decode cX7_goBack 93 = .ok (.aload_n 0, 1) := by decide +kernel
theorem dX7_goBack_94 : decode cX7_goBack 94 = .ok (.getfield 23, 3) := by decide +kernel
theorem dX7_goBack_97 : decode cX7_goBack 97 = .ok (.iload_n 1, 1) := by decide +kernel
theorem dX7_goBack_98 : decode cX7_goBack 98 = .ok (.iaload, 1) := by decide +kernel
theorem dX7_goBack_99 : decode cX7_goBack 99 = .ok (.aload_n 0, 1) := by decide +kernel
theorem dX7_goBack_100 : decode cX7_goBack 100 = .ok (.getfield 54, 3) := by decide +kernel
theorem dX7_goBack_103 : decode cX7_goBack 103 = .ok (.iload_n 1, 1) := by decide +kernel
theorem dX7_goBack_104 : decode cX7_goBack 104 = .ok (.iaload, 1) := by decide +kernel
theorem dX7_goBack_105 : decode cX7_goBack 105 = .ok (.isub, 1) := by decide +kernel
theorem dX7_goBack_106 : decode cX7_goBack 106 = .ok (.invokestatic 189, 3) := by decide +kernel
theorem dX7_goBack_109 : decode cX7_goBack 109 = .ok (.iastore, 1) := by decide +kernel
theorem dX7_goBack_110 : decode cX7_goBack 110 = .ok (.aload_n 0, 1) := by decide +kernel
theorem dX7_goBack_111 : decode cX7_goBack 111 = .ok (.getfield 26, 3) := by decide +kernel
theorem dX7_goBack_114 : decode cX7_goBack 114 = .ok (.iload_n 1, 1) := by decide +kernel
theorem dX7_goBack_115 : decode cX7_goBack 115 = .ok (.aload_n 0, 1) := by decide +kernel
theorem dX7_goBack_116 : decode cX7_goBack 116 = .ok (.getfield 26, 3) := by decide +kernel
theorem dX7_goBack_119 : decode cX7_goBack 119 = .ok (.iload_n 1, 1) := by decide +kernel
theorem dX7_goBack_120 : decode cX7_goBack 120 = .ok (.iaload, 1) := by decide +kernel
theorem dX7_goBack_121 : decode cX7_goBack 121 = .ok (.aload_n 0, 1) := by decide +kernel
theorem dX7_goBack_122 : decode cX7_goBack 122 = .ok (.getfield 57, 3) := by decide +kernel
theorem dX7_goBack_125 : decode cX7_goBack 125 = .ok (.iload_n 1, 1) := by decide +kernel
theorem dX7_goBack_126 : decode cX7_goBack 126 = .ok (.iaload, 1) := by decide +kernel
theorem dX7_goBack_127 : decode cX7_goBack 127 = .ok (.isub, 1) := by decide +kernel
theorem dX7_goBack_128 : decode cX7_goBack 128 = .ok (.invokestatic 189, 3) := by decide +kernel
theorem dX7_goBack_131 : decode cX7_goBack 131 = .ok (.iastore, 1) := by decide +kernel
theorem dX7_goBack_132 : decode cX7_goBack 132 = .ok (.iinc 1 1, 3) := by decide +kernel
theorem dX7_goBack_135 : decode cX7_goBack 135 = .ok (.goto (-62), 3) := by decide +kernel
theorem dX7_goBack_138 : decode cX7_goBack 138 = .ok (.return_, 1) := by decide +kernel
theorem dX7_step_0 : decode cX7_step 0 = .ok (.iload_n 1, 1) := by decide +kernel
theorem dX7_step_1 : decode cX7_step 1 = .ok (.i2l, 1) := by decide +kernel
theorem dX7_step_2 : decode cX7_step 2 = .ok (.ldc2_w 193, 3) := by decide +kernel
theorem dX7_step_5 : decode cX7_step 5 = .ok (.ldc2_w 95, 3) := by decide +kernel
theorem dX7_step_8 : decode cX7_step 8 = .ok (.invokestatic 62, 3) := by decide +kernel
theorem dX7_step_11 : decode cX7_step 11 = .ok (.ifCond .eq 7, 3) := by decide +kernel
theorem dX7_step_14 : decode cX7_step 14 = .ok (.iload_n 1, 1) := by decide +kernel
theorem dX7_step_15 : decode cX7_step 15 = .ok (.ifCond .ne 6, 3) := by decide +kernel
theorem dX7_step_18 : decode cX7_step 18 = .ok (.bipush (-2), 2) := by decide +kernel
theorem dX7_step_20 : decode cX7_step 20 = .ok (.ireturn, 1) := by decide +kernel
theorem dX7_step_21 : decode cX7_step 21 = .ok (.iconst 0, 1) := by decide +kernel
theorem dX7_step_22 : decode cX7_step 22 = .ok (.istore_n 2, 1) := by decide +kernel
theorem dX7_step_23 : decode cX7_step 23 = .ok (.iload_n 2, 1) := by decide +kernel
theorem dX7_step_24 : decode cX7_step 24 = .ok (.iload_n 1, 1) := by decide +kernel
theorem dX7_step_25 : decode cX7_step 25 = .ok (.if_icmp .ge 13, 3) := by decide +kernel
theorem dX7_step_28 : decode cX7_step 28 = .ok (.aload_n 0, 1) := by decide +kernel
theorem dX7_step_29 : decode cX7_step 29 = .ok (.invokevirtual 195, 3) := by decide +kernel
theorem dX7_step_32 : decode cX7_step 32 = .ok (.iinc 2 1, 3) := by decide +kernel
theorem dX7_step_35 : decode cX7_step 35 = .ok (.goto (-12), 3) := by decide +kernel
theorem dX7_step_38 : decode cX7_step 38 = .ok (.iconst 0, 1) := by decide +kernel
theorem dX7_step_39 : decode cX7_step 39 = .ok (.istore_n 2, 1) := by decide +kernel
theorem dX7_step_40 : decode cX7_step 40 = .ok (.iload_n 2, 1) := by decide +kernel
theorem dX7_step_41 : decode cX7_step 41 = .ok (.iload_n 1, 1) := by decide +kernel
theorem dX7_step_42 : decode cX7_step 42 = .ok (.if_icmp .le 13, 3) := by decide +kernel
theorem dX7_step_45 : decode cX7_step 45 = .ok (.aload_n 0, 1) := by decide +kernel
theorem dX7_step_46 : decode cX7_step 46 = .ok (.invokevirtual 198, 3) := by decide +kernel
theorem dX7_step_49 : decode cX7_step 49 = .ok (.iinc 2 (-1), 3) := by decide +kernel
theorem dX7_step_52 : decode cX7_step 52 = .ok (.goto (-12), 3) := by decide +kernel
theorem dX7_step_55 : decode cX7_step 55 = .ok (.aload_n 0, 1) := by decide +kernel
theorem dX7_step_56 : decode cX7_step 56 = .ok (.dup, 1) := by decide +kernel
theorem dX7_step_57 : decode cX7_step 57 = .ok (.getfield 201, 3) := by decide +kernel
theorem dX7_step_60 : decode cX7_step 60 = .ok (.iload_n 1, 1) := by decide +kernel
theorem dX7_step_61 : decode cX7_step 61 = .ok (.iadd, 1) := by decide +kernel
theorem dX7_step_62 : decode cX7_step 62 = .ok (.putfield 201, 3) := by decide +kernel
theorem dX7_step_65 : decode cX7_step 65 = .ok (.aload_n 0, 1) := by decide +kernel
theorem dX7_step_66 : decode cX7_step 66 = .ok (.getfield 201, 3) := by decide +kernel
theorem dX7_step_69 : decode cX7_step 69 = .ok (.ireturn, 1) := by decide +kernel
theorem dX7_count_0 : decode cX7_count 0 = .ok (.iconst 0, 1) := by decide +kernel
theorem dX7_count_1 : decode cX7_count 1 = .ok (.istore_n 2, 1) := by decide +kernel
theorem dX7_count_2 : decode cX7_count 2 = .ok (.iconst 0, 1) := by decide +kernel
theorem dX7_count_3 : decode cX7_count 3 = .ok (.istore_n 3, 1) := by decide +kernel
theorem dX7_count_4 : decode cX7_count 4 = .ok (.iconst 0, 1) := by decide +kernel
theorem dX7_count_5 : decode cX7_count 5 = .ok (.istore 4, 2) := by decide +kernel
theorem dX7_count_7 : decode cX7_count 7 = .ok (.iconst 0, 1) := by decide +kernel
theorem dX7_count_8 : decode cX7_count 8 = .ok (.istore 5, 2) := by decide +kernel
theorem dX7_count_10 : decode cX7_count 10 = .ok (.iload 5, 2) := by decide +kernel
theorem dX7_count_12 : decode cX7_count 12 = .ok (.bipush 6, 2) := by decide +kernel
theorem dX7_count_14 : decode cX7_count 14 = .ok (.if_icmp .ge 89, 3) := by decide +kernel
theorem dX7_count_17 : decode cX7_count 17 = .ok (.iconst 0, 1) := by decide +kernel
theorem dX7_count_18 : decode cX7_count 18 = .ok (.istore 6, 2) := by decide +kernel
theorem dX7_count_20 : decode cX7_count 20 = .ok (.iload 6, 2) := by decide +kernel
theorem dX7_count_22 : decode cX7_count 22 = .ok (.iconst 1, 1) := by decide +kernel
theorem dX7_count_23 : decode cX7_count 23 = .ok (.iconst 2, 1) := by decide +kernel
theorem dX7_count_24 : decode cX7_count 24 = .ok (.iload 5, 2) := by decide +kernel
theorem dX7_count_26 : decode cX7_count 26 = .ok (.imul, 1) := by decide +kernel
theorem dX7_count_27 : decode cX7_count 27 = .ok (.ishl, 1) := by decide +kernel
theorem dX7_count_28 : decode cX7_count 28 = .ok (.if_icmp .ge 69, 3) := by decide +kernel
theorem dX7_count_31 : decode cX7_count 31 = .ok (.iload 6, 2) := by decide +kernel
theorem dX7_count_33 : decode cX7_count 33 = .ok (.iconst 1, 1) := by decide +kernel
theorem dX7_count_34 : decode cX7_count 34 = .ok (.iload 5, 2) := by decide +kernel
theorem dX7_count_36 : decode cX7_count 36 = .ok (.ishl, 1) := by decide +kernel
theorem dX7_count_37 : decode cX7_count 37 = .ok (.iconst 1, 1) := by decide +kernel
theorem dX7_count_38 : decode cX7_count 38 = .ok (.isub, 1) := by decide +kernel
theorem dX7_count_39 : decode cX7_count 39 = .ok (.iand, 1) := by decide +kernel
theorem dX7_count_40 : decode cX7_count 40 = .ok (.istore 7, 2) := by decide +kernel
theorem dX7_count_42 : decode cX7_count 42 = .ok (.iload 6, 2) := by decide +kernel
theorem dX7_count_44 : decode cX7_count 44 = .ok (.iload 5, 2) := by decide +kernel
theorem dX7_count_46 : decode cX7_count 46 = .ok (.ishr, 1) := by decide +kernel
theorem dX7_count_47 : decode cX7_count 47 = .ok (.istore 8, 2) := by decide +kernel
theorem dX7_count_49 : decode cX7_count 49 = .ok (.aload_n 0, 1) := by decide +kernel
theorem dX7_count_50 : decode cX7_count 50 = .ok (.iload 5, 2) := by decide +kernel
theorem dX7_count_52 : decode cX7_count 52 = .ok (.iload 7, 2) := by decide +kernel
theorem dX7_count_54 : decode cX7_count 54 = .ok (.iload 8, 2) := by decide +kernel
theorem dX7_count_56 : decode cX7_count 56 = .ok (.invokevirtual 131, 3) := by decide +kernel
theorem dX7_count_59 : decode cX7_count 59 = .ok (.ifCond .eq 32, 3) := by decide +kernel
theorem dX7_count_62 : decode cX7_count 62 = .ok (.iinc 2 1, 3) := by decide +kernel
theorem dX7_count_65 : decode cX7_count 65 = .ok (.iload 5, 2) := by decide +kernel
theorem dX7_count_67 : decode cX7_count 67 = .ok (.istore_n 3, 1) := by decide +kernel
theorem dX7_count_68 : decode cX7_count 68 = .ok (.iload 4, 2) := by decide +kernel
theorem dX7_count_70 : decode cX7_count 70 = .ok (.aload_n 0, 1) := by decide +kernel
theorem dX7_count_71 : decode cX7_count 71 = .ok (.iload 5, 2) := by decide +kernel
theorem dX7_count_73 : decode cX7_count 73 = .ok (.iload 7, 2) := by decide +kernel
theorem dX7_count_75 : decode cX7_count 75 = .ok (.iload 8, 2) := by decide +kernel
theorem dX7_count_77 : decode cX7_count 77 = .ok (.invokevirtual 123, 3) := by decide +kernel
theorem dX7_count_80 : decode cX7_count 80 = .ok (.ifCond .eq 7, 3) := by decide +kernel
theorem dX7_count_83 : decode cX7_count 83 = .ok (.iconst 1, 1) := by decide +kernel
theorem dX7_count_84 : decode cX7_count 84 = .ok (.goto 4, 3) := by decide +kernel
theorem dX7_count_87 : decode cX7_count 87 = .ok (.iconst 0, 1) := by decide +kernel
theorem dX7_count_88 : decode cX7_count 88 = .ok (.iadd, 1) := by decide +kernel
theorem dX7_count_89 : decode cX7_count 89 = .ok (.istore 4, 2) := by decide +kernel
theorem dX7_count_91 : decode cX7_count 91 = .ok (.iinc 6 1, 3) := by decide +kernel
theorem dX7_count_94 : decode cX7_count 94 = .ok (.goto (-74), 3) := by decide +kernel
theorem dX7_count_97 : decode cX7_count 97 = .ok (.iinc 5 1, 3) := by decide +kernel
theorem dX7_count_100 : decode cX7_count 100 = .ok (.goto (-90), 3) := by decide +kernel
theorem dX7_count_103 : decode cX7_count 103 = .ok (.iload_n 1, 1) := by decide +kernel
theorem dX7_count_104 : decode cX7_count 104 = .ok (.tableswitch 66 0 5 #[40, 45, 47, 50, 52, 57], 40) := by decide +kernel
theorem dX7_count_144 : decode cX7_count 144 = .ok (.aload_n 0, 1) := by decide +kernel
theorem dX7_count_145 : decode cX7_count 145 = .ok (.invokevirtual 80, 3) := by decide +kernel
theorem dX7_count_148 : decode cX7_count 148 = .ok (.ireturn, 1) := by decide +kernel
theorem dX7_count_149 : decode cX7_count 149 = .ok (.iload_n 2, 1) := by decide +kernel
theorem dX7_count_150 : decode cX7_count 150 = .ok (.ireturn, 1) := by decide +kernel
theorem dX7_count_151 : decode cX7_count 151 = .ok (.iload 4, 2) := by decide +kernel
theorem dX7_count_153 : decode cX7_count 153 = .ok (.ireturn, 1) := by decide +kernel
theorem dX7_count_154 : decode cX7_count 154 = .ok (.iload_n 3, 1) := by decide +kernel
theorem dX7_count_155 : decode cX7_count 155 = .ok (.ireturn, 1) := by decide +kernel
theorem dX7_count_156 : decode cX7_count 156 = .ok (.aload_n 0, 1) := by decide +kernel
theorem dX7_count_157 : decode cX7_count 157 = .ok (.getfield 201, 3) := by decide +kernel
theorem dX7_count_160 : decode cX7_count 160 = .ok (.ireturn, 1) := by decide +kernel
theorem dX7_count_161 : decode cX7_count 161 = .ok (.aload_n 0, 1) := by decide +kernel
theorem dX7_count_162 : decode cX7_count 162 = .ok (.iconst 0, 1) := by decide +kernel
theorem dX7_count_163 : decode cX7_count 163 = .ok (.iconst 0, 1) := by decide +kernel
theorem dX7_count_164 : decode cX7_count 164 = .ok (.iconst 0, 1) := by decide +kernel
theorem dX7_count_165 : decode cX7_count 165 = .ok (.invokevirtual 136, 3) := by decide +kernel
theorem dX7_count_168 : decode cX7_count 168 = .ok (.l2i, 1) := by decide +kernel
theorem dX7_count_169 : decode cX7_count 169 = .ok (.ireturn, 1) := by decide +kernel
theorem dX7_count_170 : decode cX7_count 170 = .ok (.bipush (-2), 2) := by decide +kernel
theorem dX7_count_172 : decode cX7_count 172 = .ok (.ireturn, 1) := by decide +kernel
theorem dX7_digest_0 : decode cX7_digest 0 = .ok (.ldc2_w 204, 3) := by decide +kernel
theorem dX7_digest_3 : decode cX7_digest 3 = .ok (.lstore_n 1, 1) := by decide +kernel
theorem dX7_digest_4 : decode cX7_digest 4 = .ok (.iconst 0, 1) := by decide +kernel
theorem dX7_digest_5 : decode cX7_digest 5 = .ok (.istore_n 3, 1) := by decide +kernel
theorem dX7_digest_6 : decode cX7_digest 6 = .ok (.iload_n 3, 1) := by decide +kernel
theorem dX7_digest_7 : decode cX7_digest 7 = .ok (.bipush 6, 2) := by decide +kernel
theorem dX7_digest_9 : decode cX7_digest 9 = .ok (.if_icmp .ge 22, 3) := by decide +kernel
theorem dX7_digest_12 : decode cX7_digest 12 = .ok (.ldc2_w 86, 3) := by decide +kernel
theorem dX7_digest_15 : decode cX7_digest 15 = .ok (.lload_n 1, 1) := by decide +kernel
theorem dX7_digest_16 : decode cX7_digest 16 = .ok (.lmul, 1) := by decide +kernel
theorem dX7_digest_17 : decode cX7_digest 17 = .ok (.aload_n 0, 1) := by decide +kernel
theorem dX7_digest_18 : decode cX7_digest 18 = .ok (.iload_n 3, 1) := by decide +kernel
theorem dX7_digest_19 : decode cX7_digest 19 = .ok (.invokevirtual 206, 3) := by decide +kernel
theorem dX7_digest_22 : decode cX7_digest 22 = .ok (.i2l, 1) := by decide +kernel
theorem dX7_digest_23 : decode cX7_digest 23 = .ok (.ladd, 1) := by decide +kernel
theorem dX7_digest_24 : decode cX7_digest 24 = .ok (.lstore_n 1, 1) := by decide +kernel
theorem dX7_digest_25 : decode cX7_digest 25 = .ok (.iinc 3 1, 3) := by decide +kernel
theorem dX7_digest_28 : decode cX7_digest 28 = .ok (.goto (-22), 3) := by decide +kernel
theorem dX7_digest_31 : decode cX7_digest 31 = .ok (.iconst 0, 1) := by decide +kernel
theorem dX7_digest_32 : decode cX7_digest 32 = .ok (.istore_n 3, 1) := by decide +kernel
theorem dX7_digest_33 : decode cX7_digest 33 = .ok (.iload_n 3, 1) := by decide +kernel
theorem dX7_digest_34 : decode cX7_digest 34 = .ok (.bipush 40, 2) := by decide +kernel
theorem dX7_digest_36 : decode cX7_digest 36 = .ok (.if_icmp .ge 57, 3) := by decide +kernel
theorem dX7_digest_39 : decode cX7_digest 39 = .ok (.aload_n 0, 1) := by decide +kernel
theorem dX7_digest_40 : decode cX7_digest 40 = .ok (.getfield 7, 3) := by decide +kernel
theorem dX7_digest_43 : decode cX7_digest 43 = .ok (.iload_n 3, 1) := by decide +kernel
theorem dX7_digest_44 : decode cX7_digest 44 = .ok (.baload, 1) := by decide +kernel
theorem dX7_digest_45 : decode cX7_digest 45 = .ok (.ifCond .eq 42, 3) := by decide +kernel
theorem dX7_digest_48 : decode cX7_digest 48 = .ok (.ldc2_w 86, 3) := by decide +kernel
theorem dX7_digest_51 : decode cX7_digest 51 = .ok (.lload_n 1, 1) := by decide +kernel
theorem dX7_digest_52 : decode cX7_digest 52 = .ok (.lmul, 1) := by decide +kernel
theorem dX7_digest_53 : decode cX7_digest 53 = .ok (.iload_n 3, 1) := by decide +kernel
theorem dX7_digest_54 : decode cX7_digest 54 = .ok (.i2l, 1) := by decide +kernel
theorem dX7_digest_55 : decode cX7_digest 55 = .ok (.ladd, 1) := by decide +kernel
theorem dX7_digest_56 : decode cX7_digest 56 = .ok (.lstore_n 1, 1) := by decide +kernel
theorem dX7_digest_57 : decode cX7_digest 57 = .ok (.iconst 0, 1) := by decide +kernel
theorem dX7_digest_58 : decode cX7_digest 58 = .ok (.istore 4, 2) := by decide +kernel
theorem dX7_digest_60 : decode cX7_digest 60 = .ok (.iload 4, 2) := by decide +kernel
theorem dX7_digest_62 : decode cX7_digest 62 = .ok (.iconst 5, 1) := by decide +kernel
theorem dX7_digest_63 : decode cX7_digest 63 = .ok (.if_icmp .ge 24, 3) := by decide +kernel
theorem dX7_digest_66 : decode cX7_digest 66 = .ok (.ldc2_w 86, 3) := by decide +kernel
theorem dX7_digest_69 : decode cX7_digest 69 = .ok (.lload_n 1, 1) := by decide +kernel
theorem dX7_digest_70 : decode cX7_digest 70 = .ok (.lmul, 1) := by decide +kernel
theorem dX7_digest_71 : decode cX7_digest 71 = .ok (.aload_n 0, 1) := by decide +kernel
theorem dX7_digest_72 : decode cX7_digest 72 = .ok (.iload_n 3, 1) := by decide +kernel
theorem dX7_digest_73 : decode cX7_digest 73 = .ok (.iload 4, 2) := by decide +kernel
theorem dX7_digest_75 : decode cX7_digest 75 = .ok (.invokevirtual 209, 3) := by decide +kernel
theorem dX7_digest_78 : decode cX7_digest 78 = .ok (.i2l, 1) := by decide +kernel
theorem dX7_digest_79 : decode cX7_digest 79 = .ok (.ladd, 1) := by decide +kernel
theorem dX7_digest_80 : decode cX7_digest 80 = .ok (.lstore_n 1, 1) := by decide +kernel
theorem dX7_digest_81 : decode cX7_digest 81 = .ok (.iinc 4 1, 3) := by decide +kernel
theorem dX7_digest_84 : decode cX7_digest 84 = .ok (.goto (-24), 3) := by decide +kernel
theorem dX7_digest_87 : decode cX7_digest 87 = .ok (.iinc 3 1, 3) := by decide +kernel
theorem dX7_digest_90 : decode cX7_digest 90 = .ok (.goto (-57), 3) := by decide +kernel
theorem dX7_digest_93 : decode cX7_digest 93 = .ok (.iconst 0, 1) := by decide +kernel
theorem dX7_digest_94 : decode cX7_digest 94 = .ok (.istore_n 3, 1) := by decide +kernel
theorem dX7_digest_95 : decode cX7_digest 95 = .ok (.iload_n 3, 1) := by decide +kernel
theorem dX7_digest_96 : decode cX7_digest 96 = .ok (.iconst 5, 1) := by decide +kernel
theorem dX7_digest_97 : decode cX7_digest 97 = .ok (.if_icmp .ge 45, 3) := by decide +kernel
theorem dX7_digest_100 : decode cX7_digest 100 = .ok (.iconst 0, 1) := by decide +kernel
theorem dX7_digest_101 : decode cX7_digest 101 = .ok (.istore 4, 2) := by decide +kernel
theorem dX7_digest_103 : decode cX7_digest 103 = .ok (.iload_n 3, 1) := by decide +kernel
theorem dX7_digest_104 : decode cX7_digest 104 = .ok (.iload 4, 2) := by decide +kernel
theorem dX7_digest_106 : decode cX7_digest 106 = .ok (.iadd, 1) := by decide +kernel
theorem dX7_digest_107 : decode cX7_digest 107 = .ok (.iconst 5, 1) := by decide +kernel
theorem dX7_digest_108 : decode cX7_digest 108 = .ok (.if_icmp .ge 28, 3) := by decide +kernel
theorem dX7_digest_111 : decode cX7_digest 111 = .ok (.ldc2_w 86, 3) := by decide +kernel
theorem dX7_digest_114 : decode cX7_digest 114 = .ok (.lload_n 1, 1) := by decide +kernel
theorem dX7_digest_115 : decode cX7_digest 115 = .ok (.lmul, 1) := by decide +kernel
theorem dX7_digest_116 : decode cX7_digest 116 = .ok (.aload_n 0, 1) := by decide +kernel
theorem dX7_digest_117 : decode cX7_digest 117 = .ok (.getfield 29, 3) := by decide +kernel
theorem dX7_digest_120 : decode cX7_digest 120 = .ok (.iconst 5, 1) := by decide +kernel
theorem dX7_digest_121 : decode cX7_digest 121 = .ok (.iload_n 3, 1) := by decide +kernel
theorem dX7_digest_122 : decode cX7_digest 122 = .ok (.imul, 1) := by decide +kernel
theorem dX7_digest_123 : decode cX7_digest 123 = .ok (.iload 4, 2) := by decide +kernel
theorem dX7_digest_125 : decode cX7_digest 125 = .ok (.iadd, 1) := by decide +kernel
theorem dX7_digest_126 : decode cX7_digest 126 = .ok (.iaload, 1) := by decide +kernel
theorem dX7_digest_127 : decode cX7_digest 127 = .ok (.i2l, 1) := by decide +kernel
theorem dX7_digest_128 : decode cX7_digest 128 = .ok (.ladd, 1) := by decide +kernel
theorem dX7_digest_129 : decode cX7_digest 129 = .ok (.lstore_n 1, 1) := by decide +kernel
theorem dX7_digest_130 : decode cX7_digest 130 = .ok (.iinc 4 1, 3) := by decide +kernel
theorem dX7_digest_133 : decode cX7_digest 133 = .ok (.goto (-30), 3) := by decide +kernel
theorem dX7_digest_136 : decode cX7_digest 136 = .ok (.iinc 3 1, 3) := by decide +kernel
theorem dX7_digest_139 : decode cX7_digest 139 = .ok (.goto (-44), 3) := by decide +kernel
theorem dX7_digest_142 : decode cX7_digest 142 = .ok (.ldc2_w 86, 3) := by decide +kernel
theorem dX7_digest_145 : decode cX7_digest 145 = .ok (.lload_n 1, 1) := by decide +kernel
theorem dX7_digest_146 : decode cX7_digest 146 = .ok (.lmul, 1) := by decide +kernel
theorem dX7_digest_147 : decode cX7_digest 147 = .ok (.aload_n 0, 1) := by decide +kernel
theorem dX7_digest_148 : decode cX7_digest 148 = .ok (.getfield 32, 3) := by decide +kernel
theorem dX7_digest_151 : decode cX7_digest 151 = .ok (.i2l, 1) := by decide +kernel
theorem dX7_digest_152 : decode cX7_digest 152 = .ok (.ladd, 1) := by decide +kernel
theorem dX7_digest_153 : decode cX7_digest 153 = .ok (.lstore_n 1, 1) := by decide +kernel
theorem dX7_digest_154 : decode cX7_digest 154 = .ok (.iconst 0, 1) := by decide +kernel
theorem dX7_digest_155 : decode cX7_digest 155 = .ok (.istore_n 3, 1) := by decide +kernel
theorem dX7_digest_156 : decode cX7_digest 156 = .ok (.iload_n 3, 1) := by decide +kernel
theorem dX7_digest_157 : decode cX7_digest 157 = .ok (.bipush 6, 2) := by decide +kernel
theorem dX7_digest_159 : decode cX7_digest 159 = .ok (.if_icmp .ge 110, 3) := by decide +kernel
theorem dX7_digest_162 : decode cX7_digest 162 = .ok (.iconst 0, 1) := by decide +kernel
theorem dX7_digest_163 : decode cX7_digest 163 = .ok (.istore 4, 2) := by decide +kernel
theorem dX7_digest_165 : decode cX7_digest 165 = .ok (.iload 4, 2) := by decide +kernel
theorem dX7_digest_167 : decode cX7_digest 167 = .ok (.iconst 1, 1) := by decide +kernel
theorem dX7_digest_168 : decode cX7_digest 168 = .ok (.iconst 2, 1) := by decide +kernel
theorem dX7_digest_169 : decode cX7_digest 169 = .ok (.iload_n 3, 1) := by decide +kernel
theorem dX7_digest_170 : decode cX7_digest 170 = .ok (.imul, 1) := by decide +kernel
theorem dX7_digest_171 : decode cX7_digest 171 = .ok (.ishl, 1) := by decide +kernel
theorem dX7_digest_172 : decode cX7_digest 172 = .ok (.if_icmp .ge 91, 3) := by decide +kernel
theorem dX7_digest_175 : decode cX7_digest 175 = .ok (.iload 4, 2) := by decide +kernel
theorem dX7_digest_177 : decode cX7_digest 177 = .ok (.iconst 1, 1) := by decide +kernel
theorem dX7_digest_178 : decode cX7_digest 178 = .ok (.iload_n 3, 1) := by decide +kernel
theorem dX7_digest_179 : decode cX7_digest 179 = .ok (.ishl, 1) := by decide +kernel
theorem dX7_digest_180 : decode cX7_digest 180 = .ok (.iconst 1, 1) := by decide +kernel
theorem dX7_digest_181 : decode cX7_digest 181 = .ok (.isub, 1) := by decide +kernel
theorem dX7_digest_182 : decode cX7_digest 182 = .ok (.iand, 1) := by decide +kernel
theorem dX7_digest_183 : decode cX7_digest 183 = .ok (.istore 5, 2) := by decide +kernel
theorem dX7_digest_185 : decode cX7_digest 185 = .ok (.iload 4, 2) := by decide +kernel
theorem dX7_digest_187 : decode cX7_digest 187 = .ok (.iload_n 3, 1) := by decide +kernel
theorem dX7_digest_188 : decode cX7_digest 188 = .ok (.ishr, 1) := by decide +kernel
theorem dX7_digest_189 : decode cX7_digest 189 = .ok (.istore 6, 2) := by decide +kernel
theorem dX7_digest_191 : decode cX7_digest 191 = .ok (.aload_n 0, 1) := by decide +kernel
theorem dX7_digest_192 : decode cX7_digest 192 = .ok (.iload_n 3, 1) := by decide +kernel
theorem dX7_digest_193 : decode cX7_digest 193 = .ok (.iload 5, 2) := by decide +kernel
theorem dX7_digest_195 : decode cX7_digest 195 = .ok (.iload 6, 2) := by decide +kernel
theorem dX7_digest_197 : decode cX7_digest 197 = .ok (.invokevirtual 131, 3) := by decide +kernel
theorem dX7_digest_200 : decode cX7_digest 200 = .ok (.ifCond .eq 57, 3) := by decide +kernel
theorem dX7_digest_203 : decode cX7_digest 203 = .ok (.ldc2_w 86, 3) := by decide +kernel
theorem dX7_digest_206 : decode cX7_digest 206 = .ok (.lload_n 1, 1) := by decide +kernel
theorem dX7_digest_207 : decode cX7_digest 207 = .ok (.lmul, 1) := by decide +kernel
theorem dX7_digest_208 : decode cX7_digest 208 = .ok (.aload_n 0, 1) := by decide +kernel
theorem dX7_digest_209 : decode cX7_digest 209 = .ok (.iload_n 3, 1) := by decide +kernel
theorem dX7_digest_210 : decode cX7_digest 210 = .ok (.iload 5, 2) := by decide +kernel
theorem dX7_digest_212 : decode cX7_digest 212 = .ok (.iload 6, 2) := by decide +kernel
theorem dX7_digest_214 : decode cX7_digest 214 = .ok (.iconst 0, 1) := by decide +kernel
theorem dX7_digest_215 : decode cX7_digest 215 = .ok (.iconst 0, 1) := by decide +kernel
theorem dX7_digest_216 : decode cX7_digest 216 = .ok (.invokevirtual 139, 3) := by decide +kernel
theorem dX7_digest_219 : decode cX7_digest 219 = .ok (.ladd, 1) := by decide +kernel
theorem dX7_digest_220 : decode cX7_digest 220 = .ok (.lstore_n 1, 1) := by decide +kernel
theorem dX7_digest_221 : decode cX7_digest 221 = .ok (.ldc2_w 86, 3) := by decide +kernel
theorem dX7_digest_224 : decode cX7_digest 224 = .ok (.lload_n 1, 1) := by decide +kernel
theorem dX7_digest_225 : decode cX7_digest 225 = .ok (.lmul, 1) := by decide +kernel
theorem dX7_digest_226 : decode cX7_digest 226 = .ok (.aload_n 0, 1) := by decide +kernel
theorem dX7_digest_227 : decode cX7_digest 227 = .ok (.iload_n 3, 1) := by decide +kernel
theorem dX7_digest_228 : decode cX7_digest 228 = .ok (.iload 5, 2) := by decide +kernel
theorem dX7_digest_230 : decode cX7_digest 230 = .ok (.iload 6, 2) := by decide +kernel
theorem dX7_digest_232 : decode cX7_digest 232 = .ok (.iconst 1, 1) := by decide +kernel
theorem dX7_digest_233 : decode cX7_digest 233 = .ok (.iconst 0, 1) := by decide +kernel
theorem dX7_digest_234 : decode cX7_digest 234 = .ok (.invokevirtual 139, 3) := by decide +kernel
theorem dX7_digest_237 : decode cX7_digest 237 = .ok (.ladd, 1) := by decide +kernel
theorem dX7_digest_238 : decode cX7_digest 238 = .ok (.lstore_n 1, 1) := by decide +kernel
theorem dX7_digest_239 : decode cX7_digest 239 = .ok (.ldc2_w 86, 3) := by decide +kernel
theorem dX7_digest_242 : decode cX7_digest 242 = .ok (.lload_n 1, 1) := by decide +kernel
theorem dX7_digest_243 : decode cX7_digest 243 = .ok (.lmul, 1) := by decide +kernel
theorem dX7_digest_244 : decode cX7_digest 244 = .ok (.aload_n 0, 1) := by decide +kernel
theorem dX7_digest_245 : decode cX7_digest 245 = .ok (.iload_n 3, 1) := by decide +kernel
theorem dX7_digest_246 : decode cX7_digest 246 = .ok (.iload 5, 2) := by decide +kernel
theorem dX7_digest_248 : decode cX7_digest 248 = .ok (.iload 6, 2) := by decide +kernel
theorem dX7_digest_250 : decode cX7_digest 250 = .ok (.iconst 0, 1) := by decide +kernel
theorem dX7_digest_251 : decode cX7_digest 251 = .ok (.iconst 1, 1) := by decide +kernel
theorem dX7_digest_252 : decode cX7_digest 252 = .ok (.invokevirtual 139, 3) := by decide +kernel
theorem dX7_digest_255 : decode cX7_digest 255 = .ok (.ladd, 1) := by decide +kernel
theorem dX7_digest_256 : decode cX7_digest 256 = .ok (.lstore_n 1, 1) := by decide +kernel
theorem dX7_digest_257 : decode cX7_digest 257 = .ok (.iinc 4 1, 3) := by decide +kernel
theorem dX7_digest_260 : decode cX7_digest 260 = .ok (.goto (-95), 3) := by decide +kernel
theorem dX7_digest_263 : decode cX7_digest 263 = .ok (.iinc 3 1, 3) := by decide +kernel
theorem dX7_digest_266 : decode cX7_digest 266 = .ok (.goto (-110), 3) := by decide +kernel
theorem dX7_digest_269 : decode cX7_digest 269 = .ok (.lload_n 1, 1) := by decide +kernel
theorem dX7_digest_270 : decode cX7_digest 270 = .ok (.lreturn, 1) := by decide +kernel
end
section
section
variable {X : Fr} {cc : ByteArray} {own : String} {d : Nat} {S : St} {pc : Nat} {lv st : List Value}
theorem r_sw3 (tD t0 t1 t2 : Nat) {dflt o0 o1 o2 : Int} {len : Nat} {x : Int32} (h : Ok X cc own d) (dg : decode cc pc = .ok (.tableswitch dflt 0 2 #[o0, o1, o2], len)) (eD : (pc : Int) + dflt = (tD : Int)) (e0 : (pc : Int) + o0 = (t0 : Int)) (e1 : (pc : Int) + o1 = (t1 : Int)) (e2 : (pc : Int) + o2 = (t2 : Int)) (kD : (x < 0 ∨ 2 < x) → Wx X S tD lv st) (k0 : x = 0 → Wx X S t0 lv st) (k1 : x = 1 → Wx X S t1 lv st) (k2 : x = 2 → Wx X S t2 lv st) : Wx X S pc lv (.int x :: st) := by
  by_cases c0 : x < 0
  · exact r_swOut tD h dg (Or.inl (Int32.lt_iff_toInt_lt.mp c0)) eD (kD (Or.inl c0))
  by_cases c1 : (2 : Int32) < x
  · exact r_swOut tD h dg (Or.inr (Int32.lt_iff_toInt_lt.mp c1)) eD (kD (Or.inr c1))
  obtain ⟨j, hj, rfl⟩ := nI_of2 (M := 2) (n := 2) (by decide) c0 (Int32.not_lt.mp c1)
  have g1 : ¬ (nI j).toInt < 0 := by rw [nI_toInt (by omega)]; omega
  have g2 : ¬ (2 : Int) < (nI j).toInt := by rw [nI_toInt (by omega)]; omega
  have e : ((nI j).toInt - 0).toNat = j := by rw [nI_toInt (by omega)]; omega
  match j, hj with
  | 0, _ => exact r_swIn (off := o0) t0 h dg g1 g2 (by rw [e]; rfl) e0 (k0 rfl)
  | 1, _ => exact r_swIn (off := o1) t1 h dg g1 g2 (by rw [e]; rfl) e1 (k1 rfl)
  | 2, _ => exact r_swIn (off := o2) t2 h dg g1 g2 (by rw [e]; rfl) e2 (k2 rfl)
  | j + 3, hj => exact absurd hj (by omega)
theorem r_sw5 (tD t0 t1 t2 t3 t4 : Nat) {dflt o0 o1 o2 o3 o4 : Int} {len : Nat} {x : Int32} (h : Ok X cc own d) (dg : decode cc pc = .ok (.tableswitch dflt 0 4 #[o0, o1, o2, o3, o4], len)) (eD : (pc : Int) + dflt = (tD : Int)) (e0 : (pc : Int) + o0 = (t0 : Int)) (e1 : (pc : Int) + o1 = (t1 : Int)) (e2 : (pc : Int) + o2 = (t2 : Int)) (e3 : (pc : Int) + o3 = (t3 : Int)) (e4 : (pc : Int) + o4 = (t4 : Int)) (kD : (x < 0 ∨ 4 < x) → Wx X S tD lv st) (k0 : x = 0 → Wx X S t0 lv st) (k1 : x = 1 → Wx X S t1 lv st) (k2 : x = 2 → Wx X S t2 lv st) (k3 : x = 3 → Wx X S t3 lv st) (k4 : x = 4 → Wx X S t4 lv st) : Wx X S pc lv (.int x :: st) := by
  by_cases c0 : x < 0
  · exact r_swOut tD h dg (Or.inl (Int32.lt_iff_toInt_lt.mp c0)) eD (kD (Or.inl c0))
  by_cases c1 : (4 : Int32) < x
  · exact r_swOut tD h dg (Or.inr (Int32.lt_iff_toInt_lt.mp c1)) eD (kD (Or.inr c1))
  obtain ⟨j, hj, rfl⟩ := nI_of2 (M := 4) (n := 4) (by decide) c0 (Int32.not_lt.mp c1)
  have g1 : ¬ (nI j).toInt < 0 := by rw [nI_toInt (by omega)]; omega
  have g2 : ¬ (4 : Int) < (nI j).toInt := by rw [nI_toInt (by omega)]; omega
  have e : ((nI j).toInt - 0).toNat = j := by rw [nI_toInt (by omega)]; omega
  match j, hj with
  | 0, _ => exact r_swIn (off := o0) t0 h dg g1 g2 (by rw [e]; rfl) e0 (k0 rfl)
  | 1, _ => exact r_swIn (off := o1) t1 h dg g1 g2 (by rw [e]; rfl) e1 (k1 rfl)
  | 2, _ => exact r_swIn (off := o2) t2 h dg g1 g2 (by rw [e]; rfl) e2 (k2 rfl)
  | 3, _ => exact r_swIn (off := o3) t3 h dg g1 g2 (by rw [e]; rfl) e3 (k3 rfl)
  | 4, _ => exact r_swIn (off := o4) t4 h dg g1 g2 (by rw [e]; rfl) e4 (k4 rfl)
  | j + 5, hj => exact absurd hj (by omega)
theorem r_sw6 (tD t0 t1 t2 t3 t4 t5 : Nat) {dflt o0 o1 o2 o3 o4 o5 : Int} {len : Nat} {x : Int32} (h : Ok X cc own d) (dg : decode cc pc = .ok (.tableswitch dflt 0 5 #[o0, o1, o2, o3, o4, o5], len)) (eD : (pc : Int) + dflt = (tD : Int)) (e0 : (pc : Int) + o0 = (t0 : Int)) (e1 : (pc : Int) + o1 = (t1 : Int)) (e2 : (pc : Int) + o2 = (t2 : Int)) (e3 : (pc : Int) + o3 = (t3 : Int)) (e4 : (pc : Int) + o4 = (t4 : Int)) (e5 : (pc : Int) + o5 = (t5 : Int)) (kD : (x < 0 ∨ 5 < x) → Wx X S tD lv st) (k0 : x = 0 → Wx X S t0 lv st) (k1 : x = 1 → Wx X S t1 lv st) (k2 : x = 2 → Wx X S t2 lv st) (k3 : x = 3 → Wx X S t3 lv st) (k4 : x = 4 → Wx X S t4 lv st) (k5 : x = 5 → Wx X S t5 lv st) : Wx X S pc lv (.int x :: st) := by
  by_cases c0 : x < 0
  · exact r_swOut tD h dg (Or.inl (Int32.lt_iff_toInt_lt.mp c0)) eD (kD (Or.inl c0))
  by_cases c1 : (5 : Int32) < x
  · exact r_swOut tD h dg (Or.inr (Int32.lt_iff_toInt_lt.mp c1)) eD (kD (Or.inr c1))
  obtain ⟨j, hj, rfl⟩ := nI_of2 (M := 5) (n := 5) (by decide) c0 (Int32.not_lt.mp c1)
  have g1 : ¬ (nI j).toInt < 0 := by rw [nI_toInt (by omega)]; omega
  have g2 : ¬ (5 : Int) < (nI j).toInt := by rw [nI_toInt (by omega)]; omega
  have e : ((nI j).toInt - 0).toNat = j := by rw [nI_toInt (by omega)]; omega
  match j, hj with
  | 0, _ => exact r_swIn (off := o0) t0 h dg g1 g2 (by rw [e]; rfl) e0 (k0 rfl)
  | 1, _ => exact r_swIn (off := o1) t1 h dg g1 g2 (by rw [e]; rfl) e1 (k1 rfl)
  | 2, _ => exact r_swIn (off := o2) t2 h dg g1 g2 (by rw [e]; rfl) e2 (k2 rfl)
  | 3, _ => exact r_swIn (off := o3) t3 h dg g1 g2 (by rw [e]; rfl) e3 (k3 rfl)
  | 4, _ => exact r_swIn (off := o4) t4 h dg g1 g2 (by rw [e]; rfl) e4 (k4 rfl)
  | 5, _ => exact r_swIn (off := o5) t5 h dg g1 g2 (by rw [e]; rfl) e5 (k5 rfl)
  | j + 6, hj => exact absurd hj (by omega)
theorem r_sw19 (tD t0 t1 t2 t3 t4 t5 t6 t7 t8 t9 t10 t11 t12 t13 t14 t15 t16 t17 t18 : Nat) {dflt o0 o1 o2 o3 o4 o5 o6 o7 o8 o9 o10 o11 o12 o13 o14 o15 o16 o17 o18 : Int} {len : Nat} {x : Int32} (h : Ok X cc own d) (dg : decode cc pc = .ok (.tableswitch dflt 0 18 #[o0, o1, o2, o3, o4, o5, o6, o7, o8, o9, o10, o11, o12, o13, o14, o15, o16, o17, o18], len)) (eD : (pc : Int) + dflt = (tD : Int)) (e0 : (pc : Int) + o0 = (t0 : Int)) (e1 : (pc : Int) + o1 = (t1 : Int)) (e2 : (pc : Int) + o2 = (t2 : Int)) (e3 : (pc : Int) + o3 = (t3 : Int)) (e4 : (pc : Int) + o4 = (t4 : Int)) (e5 : (pc : Int) + o5 = (t5 : Int)) (e6 : (pc : Int) + o6 = (t6 : Int)) (e7 : (pc : Int) + o7 = (t7 : Int)) (e8 : (pc : Int) + o8 = (t8 : Int)) (e9 : (pc : Int) + o9 = (t9 : Int)) (e10 : (pc : Int) + o10 = (t10 : Int)) (e11 : (pc : Int) + o11 = (t11 : Int)) (e12 : (pc : Int) + o12 = (t12 : Int)) (e13 : (pc : Int) + o13 = (t13 : Int)) (e14 : (pc : Int) + o14 = (t14 : Int)) (e15 : (pc : Int) + o15 = (t15 : Int)) (e16 : (pc : Int) + o16 = (t16 : Int)) (e17 : (pc : Int) + o17 = (t17 : Int)) (e18 : (pc : Int) + o18 = (t18 : Int)) (kD : (x < 0 ∨ 18 < x) → Wx X S tD lv st) (k0 : x = 0 → Wx X S t0 lv st) (k1 : x = 1 → Wx X S t1 lv st) (k2 : x = 2 → Wx X S t2 lv st) (k3 : x = 3 → Wx X S t3 lv st) (k4 : x = 4 → Wx X S t4 lv st) (k5 : x = 5 → Wx X S t5 lv st) (k6 : x = 6 → Wx X S t6 lv st) (k7 : x = 7 → Wx X S t7 lv st) (k8 : x = 8 → Wx X S t8 lv st) (k9 : x = 9 → Wx X S t9 lv st) (k10 : x = 10 → Wx X S t10 lv st) (k11 : x = 11 → Wx X S t11 lv st) (k12 : x = 12 → Wx X S t12 lv st) (k13 : x = 13 → Wx X S t13 lv st) (k14 : x = 14 → Wx X S t14 lv st) (k15 : x = 15 → Wx X S t15 lv st) (k16 : x = 16 → Wx X S t16 lv st) (k17 : x = 17 → Wx X S t17 lv st) (k18 : x = 18 → Wx X S t18 lv st) : Wx X S pc lv (.int x :: st) := by
  by_cases c0 : x < 0
  · exact r_swOut tD h dg (Or.inl (Int32.lt_iff_toInt_lt.mp c0)) eD (kD (Or.inl c0))
  by_cases c1 : (18 : Int32) < x
  · exact r_swOut tD h dg (Or.inr (Int32.lt_iff_toInt_lt.mp c1)) eD (kD (Or.inr c1))
  obtain ⟨j, hj, rfl⟩ := nI_of2 (M := 18) (n := 18) (by decide) c0 (Int32.not_lt.mp c1)
  have g1 : ¬ (nI j).toInt < 0 := by rw [nI_toInt (by omega)]; omega
  have g2 : ¬ (18 : Int) < (nI j).toInt := by rw [nI_toInt (by omega)]; omega
  have e : ((nI j).toInt - 0).toNat = j := by rw [nI_toInt (by omega)]; omega
  match j, hj with
  | 0, _ => exact r_swIn (off := o0) t0 h dg g1 g2 (by rw [e]; rfl) e0 (k0 rfl)
  | 1, _ => exact r_swIn (off := o1) t1 h dg g1 g2 (by rw [e]; rfl) e1 (k1 rfl)
  | 2, _ => exact r_swIn (off := o2) t2 h dg g1 g2 (by rw [e]; rfl) e2 (k2 rfl)
  | 3, _ => exact r_swIn (off := o3) t3 h dg g1 g2 (by rw [e]; rfl) e3 (k3 rfl)
  | 4, _ => exact r_swIn (off := o4) t4 h dg g1 g2 (by rw [e]; rfl) e4 (k4 rfl)
  | 5, _ => exact r_swIn (off := o5) t5 h dg g1 g2 (by rw [e]; rfl) e5 (k5 rfl)
  | 6, _ => exact r_swIn (off := o6) t6 h dg g1 g2 (by rw [e]; rfl) e6 (k6 rfl)
  | 7, _ => exact r_swIn (off := o7) t7 h dg g1 g2 (by rw [e]; rfl) e7 (k7 rfl)
  | 8, _ => exact r_swIn (off := o8) t8 h dg g1 g2 (by rw [e]; rfl) e8 (k8 rfl)
  | 9, _ => exact r_swIn (off := o9) t9 h dg g1 g2 (by rw [e]; rfl) e9 (k9 rfl)
  | 10, _ => exact r_swIn (off := o10) t10 h dg g1 g2 (by rw [e]; rfl) e10 (k10 rfl)
  | 11, _ => exact r_swIn (off := o11) t11 h dg g1 g2 (by rw [e]; rfl) e11 (k11 rfl)
  | 12, _ => exact r_swIn (off := o12) t12 h dg g1 g2 (by rw [e]; rfl) e12 (k12 rfl)
  | 13, _ => exact r_swIn (off := o13) t13 h dg g1 g2 (by rw [e]; rfl) e13 (k13 rfl)
  | 14, _ => exact r_swIn (off := o14) t14 h dg g1 g2 (by rw [e]; rfl) e14 (k14 rfl)
  | 15, _ => exact r_swIn (off := o15) t15 h dg g1 g2 (by rw [e]; rfl) e15 (k15 rfl)
  | 16, _ => exact r_swIn (off := o16) t16 h dg g1 g2 (by rw [e]; rfl) e16 (k16 rfl)
  | 17, _ => exact r_swIn (off := o17) t17 h dg g1 g2 (by rw [e]; rfl) e17 (k17 rfl)
  | 18, _ => exact r_swIn (off := o18) t18 h dg g1 g2 (by rw [e]; rfl) e18 (k18 rfl)
  | j + 19, hj => exact absurd hj (by omega)
theorem r_lk2 (tD t0 t1 : Nat) {dflt o0 o1 : Int} {len : Nat} {x : Int32} (h : Ok X cc own d) (dg : decode cc pc = .ok (.lookupswitch dflt #[(0, o0), (1, o1)], len)) (eD : (pc : Int) + dflt = (tD : Int)) (e0 : (pc : Int) + o0 = (t0 : Int)) (e1 : (pc : Int) + o1 = (t1 : Int)) (kD : (¬ x = 0 ∧ ¬ x = 1) → Wx X S tD lv st) (k0 : x = 0 → Wx X S t0 lv st) (k1 : x = 1 → Wx X S t1 lv st) : Wx X S pc lv (.int x :: st) := by
  by_cases c0 : x = 0
  · exact r_look (off := o0) t0 h dg rfl (by subst c0; rfl) e0 (k0 c0)
  by_cases c1 : x = 1
  · refine r_look (off := o1) t1 h dg rfl ?_ e1 (k1 c1)
    rw [show (#[(0, o0), (1, o1)] : Array (Int × Int)).toList = [(0, o0), (1, o1)] from rfl, lv_osw c0 (by decide)]
    subst c1
    rfl
  · refine r_look (off := dflt) tD h dg rfl ?_ eD (kD ⟨c0, c1⟩)
    rw [show (#[(0, o0), (1, o1)] : Array (Int × Int)).toList = [(0, o0), (1, o1)] from rfl, lv_osw c0 (by decide), lv_osw c1 (by decide)]
    rfl
end
/-- a counter that runs down: nI m less 1 -/
def pI (m : Nat) : Int32 := nI m - 1
theorem pI_s (m : Nat) : pI (m + 1) = nI m := nI_pred m
theorem pI_d (m : Nat) : pI (m + 1) + (-1) = pI m := by rw [pI_s]; unfold pI; rw [Int32.sub_eq_add_neg]
theorem pI_0 : pI 0 < 0 := by decide
theorem pI_p {m : Nat} (h : m < 2 ^ 31) : ¬ pI (m + 1) < 0 := by rw [pI_s]; exact nI_pos h
theorem vin {i N : Nat} (h : i < N) (hN : N < 2 ^ 31 := by decide) : vp_in (nI i) N := vp_in_nI h hN
theorem ncl {n : Nat} (h : n < 2 ^ 31) : (nI n).toNatClampNeg = n := nI_clamp h
theorem bigT {a b : Nat} (h : a ≤ b) (hb : b < 2 ^ 31) : nI a ≤ nI b := nI_le h hb
theorem bigF {a b : Nat} (h : b < a) (hb : a < 2 ^ 31) : ¬ nI a ≤ nI b := nI_ge h hb
theorem gtT {a b : Nat} (h : a < b) (hb : b < 2 ^ 31) : nI a < nI b := nI_lt h hb
theorem gtF {a b : Nat} (h : b ≤ a) (hb : a < 2 ^ 31) : ¬ nI a < nI b := nI_nlt h hb
theorem ixN {p : Int32} {N : Nat} (hN : N < 2 ^ 31) (h1 : ¬ p < 0) (h2 : ¬ nI N ≤ p) : vp_in p N := by
  rcases pk_ix p hN with q | q | ⟨j, hj, rfl⟩
  · exact absurd q h1
  · exact absurd q h2
  · exact vp_in_nI hj hN
theorem nar1 : vp_nar .boolean 1 = 1 := by decide
theorem nar0 : vp_nar .boolean 0 = 0 := by decide
section
variable {X : Fr} {cc : ByteArray} {own : String} {d : Nat} {S : St} {pc : Nat} {lv st : List Value}
theorem alN_2 {i : Nat} (h : Ok X cc own d) (hi : i < 40) (dg : decode cc pc = .ok (.baload, 1)) (k : Wx X S (pc + 1) lv (.int (S.1 0 i) :: st)) : Wx X S pc lv (.int (nI i) :: .ref (aD (xw X) 2) :: st) := by
  refine al_2 h (vin hi) dg ?_
  rw [ncl (by omega)]
  exact k
theorem as0_2 {i : Int32} (h : Ok X cc own d) (hin : vp_in i 40) (dg : decode cc pc = .ok (.bastore, 1)) (k : Wx X (sI S 0 i.toNatClampNeg 0) (pc + 1) lv st) : Wx X S pc lv (.int 0 :: .int i :: .ref (aD (xw X) 2) :: st) := by
  refine as_2 h hin dg ?_
  rw [nar0]
  exact k
theorem as1_2 {i : Int32} (h : Ok X cc own d) (hin : vp_in i 40) (dg : decode cc pc = .ok (.bastore, 1)) (k : Wx X (sI S 0 i.toNatClampNeg 1) (pc + 1) lv st) : Wx X S pc lv (.int 1 :: .int i :: .ref (aD (xw X) 2) :: st) := by
  refine as_2 h hin dg ?_
  rw [nar1]
  exact k
theorem alN_3 {i : Nat} (h : Ok X cc own d) (hi : i < 40) (dg : decode cc pc = .ok (.iaload, 1)) (k : Wx X S (pc + 1) lv (.int (S.1 1 i) :: st)) : Wx X S pc lv (.int (nI i) :: .ref (aD (xw X) 3) :: st) := by
  refine al_3 h (vin hi) dg ?_
  rw [ncl (by omega)]
  exact k
theorem asN_3 {i : Nat} {x : Int32} (h : Ok X cc own d) (hi : i < 40) (dg : decode cc pc = .ok (.iastore, 1)) (k : Wx X (sI S 1 i x) (pc + 1) lv st) : Wx X S pc lv (.int x :: .int (nI i) :: .ref (aD (xw X) 3) :: st) := by
  refine as_3 h (vin hi) dg ?_
  rw [ncl (by omega)]
  exact k
theorem alN_4 {i : Nat} (h : Ok X cc own d) (hi : i < 40) (dg : decode cc pc = .ok (.iaload, 1)) (k : Wx X S (pc + 1) lv (.int (S.1 2 i) :: st)) : Wx X S pc lv (.int (nI i) :: .ref (aD (xw X) 4) :: st) := by
  refine al_4 h (vin hi) dg ?_
  rw [ncl (by omega)]
  exact k
theorem asN_4 {i : Nat} {x : Int32} (h : Ok X cc own d) (hi : i < 40) (dg : decode cc pc = .ok (.iastore, 1)) (k : Wx X (sI S 2 i x) (pc + 1) lv st) : Wx X S pc lv (.int x :: .int (nI i) :: .ref (aD (xw X) 4) :: st) := by
  refine as_4 h (vin hi) dg ?_
  rw [ncl (by omega)]
  exact k
theorem alN_5 {i : Nat} (h : Ok X cc own d) (hi : i < 40) (dg : decode cc pc = .ok (.iaload, 1)) (k : Wx X S (pc + 1) lv (.int (S.1 3 i) :: st)) : Wx X S pc lv (.int (nI i) :: .ref (aD (xw X) 5) :: st) := by
  refine al_5 h (vin hi) dg ?_
  rw [ncl (by omega)]
  exact k
theorem asN_5 {i : Nat} {x : Int32} (h : Ok X cc own d) (hi : i < 40) (dg : decode cc pc = .ok (.iastore, 1)) (k : Wx X (sI S 3 i x) (pc + 1) lv st) : Wx X S pc lv (.int x :: .int (nI i) :: .ref (aD (xw X) 5) :: st) := by
  refine as_5 h (vin hi) dg ?_
  rw [ncl (by omega)]
  exact k
theorem alN_6 {i : Nat} (h : Ok X cc own d) (hi : i < 40) (dg : decode cc pc = .ok (.iaload, 1)) (k : Wx X S (pc + 1) lv (.int (S.1 4 i) :: st)) : Wx X S pc lv (.int (nI i) :: .ref (aD (xw X) 6) :: st) := by
  refine al_6 h (vin hi) dg ?_
  rw [ncl (by omega)]
  exact k
theorem asN_6 {i : Nat} {x : Int32} (h : Ok X cc own d) (hi : i < 40) (dg : decode cc pc = .ok (.iastore, 1)) (k : Wx X (sI S 4 i x) (pc + 1) lv st) : Wx X S pc lv (.int x :: .int (nI i) :: .ref (aD (xw X) 6) :: st) := by
  refine as_6 h (vin hi) dg ?_
  rw [ncl (by omega)]
  exact k
theorem alN_7 {i : Nat} (h : Ok X cc own d) (hi : i < 40) (dg : decode cc pc = .ok (.iaload, 1)) (k : Wx X S (pc + 1) lv (.int (S.1 5 i) :: st)) : Wx X S pc lv (.int (nI i) :: .ref (aD (xw X) 7) :: st) := by
  refine al_7 h (vin hi) dg ?_
  rw [ncl (by omega)]
  exact k
theorem asN_7 {i : Nat} {x : Int32} (h : Ok X cc own d) (hi : i < 40) (dg : decode cc pc = .ok (.iastore, 1)) (k : Wx X (sI S 5 i x) (pc + 1) lv st) : Wx X S pc lv (.int x :: .int (nI i) :: .ref (aD (xw X) 7) :: st) := by
  refine as_7 h (vin hi) dg ?_
  rw [ncl (by omega)]
  exact k
theorem alN_9 {i : Nat} (h : Ok X cc own d) (hi : i < 1365) (dg : decode cc pc = .ok (.iaload, 1)) (k : Wx X S (pc + 1) lv (.int (S.1 7 i) :: st)) : Wx X S pc lv (.int (nI i) :: .ref (aD (xw X) 9) :: st) := by
  refine al_9 h (vin hi) dg ?_
  rw [ncl (by omega)]
  exact k
theorem asN_9 {i : Nat} {x : Int32} (h : Ok X cc own d) (hi : i < 1365) (dg : decode cc pc = .ok (.iastore, 1)) (k : Wx X (sI S 7 i x) (pc + 1) lv st) : Wx X S pc lv (.int x :: .int (nI i) :: .ref (aD (xw X) 9) :: st) := by
  refine as_9 h (vin hi) dg ?_
  rw [ncl (by omega)]
  exact k
theorem alN_10 {i : Nat} (h : Ok X cc own d) (hi : i < 25) (dg : decode cc pc = .ok (.laload, 1)) (k : Wx X S (pc + 1) lv (.long (S.2 0 i) :: st)) : Wx X S pc lv (.int (nI i) :: .ref (aD (xw X) 10) :: st) := by
  refine al_10 h (vin hi) dg ?_
  rw [ncl (by omega)]
  exact k
theorem asN_10 {i : Nat} {x : Int64} (h : Ok X cc own d) (hi : i < 25) (dg : decode cc pc = .ok (.lastore, 1)) (k : Wx X (sJ S 0 i x) (pc + 1) lv st) : Wx X S pc lv (.long x :: .int (nI i) :: .ref (aD (xw X) 10) :: st) := by
  refine as_10 h (vin hi) dg ?_
  rw [ncl (by omega)]
  exact k
theorem alN_12 {i : Nat} (h : Ok X cc own d) (hi : i < 25) (dg : decode cc pc = .ok (.laload, 1)) (k : Wx X S (pc + 1) lv (.long (S.2 1 i) :: st)) : Wx X S pc lv (.int (nI i) :: .ref (aD (xw X) 12) :: st) := by
  refine al_12 h (vin hi) dg ?_
  rw [ncl (by omega)]
  exact k
theorem asN_12 {i : Nat} {x : Int64} (h : Ok X cc own d) (hi : i < 25) (dg : decode cc pc = .ok (.lastore, 1)) (k : Wx X (sJ S 1 i x) (pc + 1) lv st) : Wx X S pc lv (.long x :: .int (nI i) :: .ref (aD (xw X) 12) :: st) := by
  refine as_12 h (vin hi) dg ?_
  rw [ncl (by omega)]
  exact k
theorem alN_15 {i : Nat} (h : Ok X cc own d) (hi : i < 25) (dg : decode cc pc = .ok (.laload, 1)) (k : Wx X S (pc + 1) lv (.long (S.2 2 i) :: st)) : Wx X S pc lv (.int (nI i) :: .ref (aD (xw X) 15) :: st) := by
  refine al_15 h (vin hi) dg ?_
  rw [ncl (by omega)]
  exact k
theorem asN_15 {i : Nat} {x : Int64} (h : Ok X cc own d) (hi : i < 25) (dg : decode cc pc = .ok (.lastore, 1)) (k : Wx X (sJ S 2 i x) (pc + 1) lv st) : Wx X S pc lv (.long x :: .int (nI i) :: .ref (aD (xw X) 15) :: st) := by
  refine as_15 h (vin hi) dg ?_
  rw [ncl (by omega)]
  exact k
theorem alN_17 {i : Nat} (h : Ok X cc own d) (hi : i < 40) (dg : decode cc pc = .ok (.iaload, 1)) (k : Wx X S (pc + 1) lv (.int (S.1 10 i) :: st)) : Wx X S pc lv (.int (nI i) :: .ref (aD (xw X) 17) :: st) := by
  refine al_17 h (vin hi) dg ?_
  rw [ncl (by omega)]
  exact k
theorem asN_17 {i : Nat} {x : Int32} (h : Ok X cc own d) (hi : i < 40) (dg : decode cc pc = .ok (.iastore, 1)) (k : Wx X (sI S 10 i x) (pc + 1) lv st) : Wx X S pc lv (.int x :: .int (nI i) :: .ref (aD (xw X) 17) :: st) := by
  refine as_17 h (vin hi) dg ?_
  rw [ncl (by omega)]
  exact k
theorem alN_18 {i : Nat} (h : Ok X cc own d) (hi : i < 40) (dg : decode cc pc = .ok (.iaload, 1)) (k : Wx X S (pc + 1) lv (.int (S.1 11 i) :: st)) : Wx X S pc lv (.int (nI i) :: .ref (aD (xw X) 18) :: st) := by
  refine al_18 h (vin hi) dg ?_
  rw [ncl (by omega)]
  exact k
theorem asN_18 {i : Nat} {x : Int32} (h : Ok X cc own d) (hi : i < 40) (dg : decode cc pc = .ok (.iastore, 1)) (k : Wx X (sI S 11 i x) (pc + 1) lv st) : Wx X S pc lv (.int x :: .int (nI i) :: .ref (aD (xw X) 18) :: st) := by
  refine as_18 h (vin hi) dg ?_
  rw [ncl (by omega)]
  exact k
theorem alN_19 {i : Nat} (h : Ok X cc own d) (hi : i < 40) (dg : decode cc pc = .ok (.iaload, 1)) (k : Wx X S (pc + 1) lv (.int (S.1 12 i) :: st)) : Wx X S pc lv (.int (nI i) :: .ref (aD (xw X) 19) :: st) := by
  refine al_19 h (vin hi) dg ?_
  rw [ncl (by omega)]
  exact k
theorem asN_19 {i : Nat} {x : Int32} (h : Ok X cc own d) (hi : i < 40) (dg : decode cc pc = .ok (.iastore, 1)) (k : Wx X (sI S 12 i x) (pc + 1) lv st) : Wx X S pc lv (.int x :: .int (nI i) :: .ref (aD (xw X) 19) :: st) := by
  refine as_19 h (vin hi) dg ?_
  rw [ncl (by omega)]
  exact k
theorem alN_21 {i : Nat} (h : Ok X cc own d) (hi : i < 40) (dg : decode cc pc = .ok (.iaload, 1)) (k : Wx X S (pc + 1) lv (.int (S.1 17 i) :: st)) : Wx X S pc lv (.int (nI i) :: .ref (aD (xw X) 21) :: st) := by
  refine al_21 h (vin hi) dg ?_
  rw [ncl (by omega)]
  exact k
theorem asN_21 {i : Nat} {x : Int32} (h : Ok X cc own d) (hi : i < 40) (dg : decode cc pc = .ok (.iastore, 1)) (k : Wx X (sI S 17 i x) (pc + 1) lv st) : Wx X S pc lv (.int x :: .int (nI i) :: .ref (aD (xw X) 21) :: st) := by
  refine as_21 h (vin hi) dg ?_
  rw [ncl (by omega)]
  exact k
theorem alN_22 {i : Nat} (h : Ok X cc own d) (hi : i < 40) (dg : decode cc pc = .ok (.iaload, 1)) (k : Wx X S (pc + 1) lv (.int (S.1 18 i) :: st)) : Wx X S pc lv (.int (nI i) :: .ref (aD (xw X) 22) :: st) := by
  refine al_22 h (vin hi) dg ?_
  rw [ncl (by omega)]
  exact k
theorem asN_22 {i : Nat} {x : Int32} (h : Ok X cc own d) (hi : i < 40) (dg : decode cc pc = .ok (.iastore, 1)) (k : Wx X (sI S 18 i x) (pc + 1) lv st) : Wx X S pc lv (.int x :: .int (nI i) :: .ref (aD (xw X) 22) :: st) := by
  refine as_22 h (vin hi) dg ?_
  rw [ncl (by omega)]
  exact k
theorem alN_24 {i : Nat} (h : Ok X cc own d) (hi : i < 40) (dg : decode cc pc = .ok (.baload, 1)) (k : Wx X S (pc + 1) lv (.int (S.1 20 i) :: st)) : Wx X S pc lv (.int (nI i) :: .ref (aD (xw X) 24) :: st) := by
  refine al_24 h (vin hi) dg ?_
  rw [ncl (by omega)]
  exact k
theorem as0_24 {i : Int32} (h : Ok X cc own d) (hin : vp_in i 40) (dg : decode cc pc = .ok (.bastore, 1)) (k : Wx X (sI S 20 i.toNatClampNeg 0) (pc + 1) lv st) : Wx X S pc lv (.int 0 :: .int i :: .ref (aD (xw X) 24) :: st) := by
  refine as_24 h hin dg ?_
  rw [nar0]
  exact k
theorem as1_24 {i : Int32} (h : Ok X cc own d) (hin : vp_in i 40) (dg : decode cc pc = .ok (.bastore, 1)) (k : Wx X (sI S 20 i.toNatClampNeg 1) (pc + 1) lv st) : Wx X S pc lv (.int 1 :: .int i :: .ref (aD (xw X) 24) :: st) := by
  refine as_24 h hin dg ?_
  rw [nar1]
  exact k
theorem alN_25 {i : Nat} (h : Ok X cc own d) (hi : i < 40) (dg : decode cc pc = .ok (.iaload, 1)) (k : Wx X S (pc + 1) lv (.int (S.1 21 i) :: st)) : Wx X S pc lv (.int (nI i) :: .ref (aD (xw X) 25) :: st) := by
  refine al_25 h (vin hi) dg ?_
  rw [ncl (by omega)]
  exact k
theorem asN_25 {i : Nat} {x : Int32} (h : Ok X cc own d) (hi : i < 40) (dg : decode cc pc = .ok (.iastore, 1)) (k : Wx X (sI S 21 i x) (pc + 1) lv st) : Wx X S pc lv (.int x :: .int (nI i) :: .ref (aD (xw X) 25) :: st) := by
  refine as_25 h (vin hi) dg ?_
  rw [ncl (by omega)]
  exact k
theorem alN_26 {i : Nat} (h : Ok X cc own d) (hi : i < 40) (dg : decode cc pc = .ok (.iaload, 1)) (k : Wx X S (pc + 1) lv (.int (S.1 22 i) :: st)) : Wx X S pc lv (.int (nI i) :: .ref (aD (xw X) 26) :: st) := by
  refine al_26 h (vin hi) dg ?_
  rw [ncl (by omega)]
  exact k
theorem asN_26 {i : Nat} {x : Int32} (h : Ok X cc own d) (hi : i < 40) (dg : decode cc pc = .ok (.iastore, 1)) (k : Wx X (sI S 22 i x) (pc + 1) lv st) : Wx X S pc lv (.int x :: .int (nI i) :: .ref (aD (xw X) 26) :: st) := by
  refine as_26 h (vin hi) dg ?_
  rw [ncl (by omega)]
  exact k
theorem alN_27 {i : Nat} (h : Ok X cc own d) (hi : i < 40) (dg : decode cc pc = .ok (.iaload, 1)) (k : Wx X S (pc + 1) lv (.int (S.1 23 i) :: st)) : Wx X S pc lv (.int (nI i) :: .ref (aD (xw X) 27) :: st) := by
  refine al_27 h (vin hi) dg ?_
  rw [ncl (by omega)]
  exact k
theorem asN_27 {i : Nat} {x : Int32} (h : Ok X cc own d) (hi : i < 40) (dg : decode cc pc = .ok (.iastore, 1)) (k : Wx X (sI S 23 i x) (pc + 1) lv st) : Wx X S pc lv (.int x :: .int (nI i) :: .ref (aD (xw X) 27) :: st) := by
  refine as_27 h (vin hi) dg ?_
  rw [ncl (by omega)]
  exact k
theorem alN_28 {i : Nat} (h : Ok X cc own d) (hi : i < 40) (dg : decode cc pc = .ok (.iaload, 1)) (k : Wx X S (pc + 1) lv (.int (S.1 24 i) :: st)) : Wx X S pc lv (.int (nI i) :: .ref (aD (xw X) 28) :: st) := by
  refine al_28 h (vin hi) dg ?_
  rw [ncl (by omega)]
  exact k
theorem asN_28 {i : Nat} {x : Int32} (h : Ok X cc own d) (hi : i < 40) (dg : decode cc pc = .ok (.iastore, 1)) (k : Wx X (sI S 24 i x) (pc + 1) lv st) : Wx X S pc lv (.int x :: .int (nI i) :: .ref (aD (xw X) 28) :: st) := by
  refine as_28 h (vin hi) dg ?_
  rw [ncl (by omega)]
  exact k
theorem alN_29 {i : Nat} (h : Ok X cc own d) (hi : i < 40) (dg : decode cc pc = .ok (.iaload, 1)) (k : Wx X S (pc + 1) lv (.int (S.1 25 i) :: st)) : Wx X S pc lv (.int (nI i) :: .ref (aD (xw X) 29) :: st) := by
  refine al_29 h (vin hi) dg ?_
  rw [ncl (by omega)]
  exact k
theorem asN_29 {i : Nat} {x : Int32} (h : Ok X cc own d) (hi : i < 40) (dg : decode cc pc = .ok (.iastore, 1)) (k : Wx X (sI S 25 i x) (pc + 1) lv st) : Wx X S pc lv (.int x :: .int (nI i) :: .ref (aD (xw X) 29) :: st) := by
  refine as_29 h (vin hi) dg ?_
  rw [ncl (by omega)]
  exact k
theorem alN_30 {i : Nat} (h : Ok X cc own d) (hi : i < 25) (dg : decode cc pc = .ok (.iaload, 1)) (k : Wx X S (pc + 1) lv (.int (S.1 26 i) :: st)) : Wx X S pc lv (.int (nI i) :: .ref (aD (xw X) 30) :: st) := by
  refine al_30 h (vin hi) dg ?_
  rw [ncl (by omega)]
  exact k
theorem asN_30 {i : Nat} {x : Int32} (h : Ok X cc own d) (hi : i < 25) (dg : decode cc pc = .ok (.iastore, 1)) (k : Wx X (sI S 26 i x) (pc + 1) lv st) : Wx X S pc lv (.int x :: .int (nI i) :: .ref (aD (xw X) 30) :: st) := by
  refine as_30 h (vin hi) dg ?_
  rw [ncl (by omega)]
  exact k
theorem alN_31 {i : Nat} (h : Ok X cc own d) (hi : i < 40) (dg : decode cc pc = .ok (.iaload, 1)) (k : Wx X S (pc + 1) lv (.int (S.1 29 i) :: st)) : Wx X S pc lv (.int (nI i) :: .ref (aD (xw X) 31) :: st) := by
  refine al_31 h (vin hi) dg ?_
  rw [ncl (by omega)]
  exact k
theorem asN_31 {i : Nat} {x : Int32} (h : Ok X cc own d) (hi : i < 40) (dg : decode cc pc = .ok (.iastore, 1)) (k : Wx X (sI S 29 i x) (pc + 1) lv st) : Wx X S pc lv (.int x :: .int (nI i) :: .ref (aD (xw X) 31) :: st) := by
  refine as_31 h (vin hi) dg ?_
  rw [ncl (by omega)]
  exact k
theorem alN_32 {i : Nat} (h : Ok X cc own d) (hi : i < 40) (dg : decode cc pc = .ok (.iaload, 1)) (k : Wx X S (pc + 1) lv (.int (S.1 30 i) :: st)) : Wx X S pc lv (.int (nI i) :: .ref (aD (xw X) 32) :: st) := by
  refine al_32 h (vin hi) dg ?_
  rw [ncl (by omega)]
  exact k
theorem asN_32 {i : Nat} {x : Int32} (h : Ok X cc own d) (hi : i < 40) (dg : decode cc pc = .ok (.iastore, 1)) (k : Wx X (sI S 30 i x) (pc + 1) lv st) : Wx X S pc lv (.int x :: .int (nI i) :: .ref (aD (xw X) 32) :: st) := by
  refine as_32 h (vin hi) dg ?_
  rw [ncl (by omega)]
  exact k
theorem alN_33 {i : Nat} (h : Ok X cc own d) (hi : i < 40) (dg : decode cc pc = .ok (.iaload, 1)) (k : Wx X S (pc + 1) lv (.int (S.1 31 i) :: st)) : Wx X S pc lv (.int (nI i) :: .ref (aD (xw X) 33) :: st) := by
  refine al_33 h (vin hi) dg ?_
  rw [ncl (by omega)]
  exact k
theorem asN_33 {i : Nat} {x : Int32} (h : Ok X cc own d) (hi : i < 40) (dg : decode cc pc = .ok (.iastore, 1)) (k : Wx X (sI S 31 i x) (pc + 1) lv st) : Wx X S pc lv (.int x :: .int (nI i) :: .ref (aD (xw X) 33) :: st) := by
  refine as_33 h (vin hi) dg ?_
  rw [ncl (by omega)]
  exact k
theorem alN_34 {i : Nat} (h : Ok X cc own d) (hi : i < 80) (dg : decode cc pc = .ok (.iaload, 1)) (k : Wx X S (pc + 1) lv (.int (S.1 32 i) :: st)) : Wx X S pc lv (.int (nI i) :: .ref (aD (xw X) 34) :: st) := by
  refine al_34 h (vin hi) dg ?_
  rw [ncl (by omega)]
  exact k
theorem asN_34 {i : Nat} {x : Int32} (h : Ok X cc own d) (hi : i < 80) (dg : decode cc pc = .ok (.iastore, 1)) (k : Wx X (sI S 32 i x) (pc + 1) lv st) : Wx X S pc lv (.int x :: .int (nI i) :: .ref (aD (xw X) 34) :: st) := by
  refine as_34 h (vin hi) dg ?_
  rw [ncl (by omega)]
  exact k
theorem alN_35 {i : Nat} (h : Ok X cc own d) (hi : i < 80) (dg : decode cc pc = .ok (.iaload, 1)) (k : Wx X S (pc + 1) lv (.int (S.1 33 i) :: st)) : Wx X S pc lv (.int (nI i) :: .ref (aD (xw X) 35) :: st) := by
  refine al_35 h (vin hi) dg ?_
  rw [ncl (by omega)]
  exact k
theorem asN_35 {i : Nat} {x : Int32} (h : Ok X cc own d) (hi : i < 80) (dg : decode cc pc = .ok (.iastore, 1)) (k : Wx X (sI S 33 i x) (pc + 1) lv st) : Wx X S pc lv (.int x :: .int (nI i) :: .ref (aD (xw X) 35) :: st) := by
  refine as_35 h (vin hi) dg ?_
  rw [ncl (by omega)]
  exact k
theorem alN_36 {i : Nat} (h : Ok X cc own d) (hi : i < 80) (dg : decode cc pc = .ok (.iaload, 1)) (k : Wx X S (pc + 1) lv (.int (S.1 34 i) :: st)) : Wx X S pc lv (.int (nI i) :: .ref (aD (xw X) 36) :: st) := by
  refine al_36 h (vin hi) dg ?_
  rw [ncl (by omega)]
  exact k
theorem asN_36 {i : Nat} {x : Int32} (h : Ok X cc own d) (hi : i < 80) (dg : decode cc pc = .ok (.iastore, 1)) (k : Wx X (sI S 34 i x) (pc + 1) lv st) : Wx X S pc lv (.int x :: .int (nI i) :: .ref (aD (xw X) 36) :: st) := by
  refine as_36 h (vin hi) dg ?_
  rw [ncl (by omega)]
  exact k
theorem alN_37 {i : Nat} (h : Ok X cc own d) (hi : i < 40) (dg : decode cc pc = .ok (.iaload, 1)) (k : Wx X S (pc + 1) lv (.int (S.1 36 i) :: st)) : Wx X S pc lv (.int (nI i) :: .ref (aD (xw X) 37) :: st) := by
  refine al_37 h (vin hi) dg ?_
  rw [ncl (by omega)]
  exact k
theorem asN_37 {i : Nat} {x : Int32} (h : Ok X cc own d) (hi : i < 40) (dg : decode cc pc = .ok (.iastore, 1)) (k : Wx X (sI S 36 i x) (pc + 1) lv st) : Wx X S pc lv (.int x :: .int (nI i) :: .ref (aD (xw X) 37) :: st) := by
  refine as_37 h (vin hi) dg ?_
  rw [ncl (by omega)]
  exact k
theorem alN_38 {i : Nat} (h : Ok X cc own d) (hi : i < 40) (dg : decode cc pc = .ok (.iaload, 1)) (k : Wx X S (pc + 1) lv (.int (S.1 37 i) :: st)) : Wx X S pc lv (.int (nI i) :: .ref (aD (xw X) 38) :: st) := by
  refine al_38 h (vin hi) dg ?_
  rw [ncl (by omega)]
  exact k
theorem asN_38 {i : Nat} {x : Int32} (h : Ok X cc own d) (hi : i < 40) (dg : decode cc pc = .ok (.iastore, 1)) (k : Wx X (sI S 37 i x) (pc + 1) lv st) : Wx X S pc lv (.int x :: .int (nI i) :: .ref (aD (xw X) 38) :: st) := by
  refine as_38 h (vin hi) dg ?_
  rw [ncl (by omega)]
  exact k
end
end
section
def absI (x : Int32) : Int32 := if 0 ≤ x then x else 0 - x
def absL (x : Int64) : Int64 := if 0 < x then x else -x
def maxI (a b : Int32) : Int32 := if a < b then b else a
section
variable {X : Fr} {cc : ByteArray} {own : String} {d : Nat} {S : St} {pc : Nat} {lv rest : List Value} {idx : Nat}
theorem r_absI {x : Int32} (h : Ok X cc own d) (hlink : Cond.methodLink own idx yJ9_abs_0f7a4 ∈ tb) (hd : 1 ≤ d) (hroom : (rest.map fun v => v.category).sum ≤ 8) (dg : decode cc pc = .ok (.invokestatic idx, 3)) (k : Wx X S (pc + 3) lv (.int (absI x) :: rest)) : Wx X S pc lv (.int x :: rest) := by
  intro H locs ls hP hS hl
  have hts := h.2.2.2.2.1
  have hfr := h.2.2.2.2.2.2.2.1
  exact va_mabs h.1 h.2.1 (h.2.2.1.trans hl.1.1.symm) h.2.2.2.1 (hts _ hlink) (hts _ kJ9_abs_0f7a4.2) (hts _ kJ9_abs_0f7a4.1.2.1) (hts _ kJ9_abs_0f7a4.1.1) (by omega) (by omega) h.2.2.2.2.2.2.2.2.1 h.2.2.2.2.2.2.2.2.2 dg (k H locs ls hP hS hl)
theorem r_absL {x : Int64} (h : Ok X cc own d) (hlink : Cond.methodLink own idx yJ9_abs_067f4 ∈ tb) (hd : 1 ≤ d) (hroom : (rest.map fun v => v.category).sum ≤ 8) (dg : decode cc pc = .ok (.invokestatic idx, 3)) (k : Wx X S (pc + 3) lv (.long (absL x) :: rest)) : Wx X S pc lv (.long x :: rest) := by
  intro H locs ls hP hS hl
  have hts := h.2.2.2.2.1
  have hfr := h.2.2.2.2.2.2.2.1
  exact va_mabs_long h.1 h.2.1 (h.2.2.1.trans hl.1.1.symm) h.2.2.2.1 (hts _ hlink) (hts _ kJ9_abs_067f4.2) (hts _ kJ9_abs_067f4.1.2.1) (hts _ kJ9_abs_067f4.1.1) (by omega) (by omega) h.2.2.2.2.2.2.2.2.1 h.2.2.2.2.2.2.2.2.2 dg (k H locs ls hP hS hl)
theorem r_maxI {x y : Int32} (h : Ok X cc own d) (hlink : Cond.methodLink own idx yJ9_max_7cf53 ∈ tb) (hd : 1 ≤ d) (hroom : (rest.map fun v => v.category).sum ≤ 8) (dg : decode cc pc = .ok (.invokestatic idx, 3)) (k : Wx X S (pc + 3) lv (.int (maxI x y) :: rest)) : Wx X S pc lv (.int y :: .int x :: rest) := by
  intro H locs ls hP hS hl
  have hts := h.2.2.2.2.1
  have hfr := h.2.2.2.2.2.2.2.1
  exact va_mmax h.1 h.2.1 (h.2.2.1.trans hl.1.1.symm) h.2.2.2.1 (hts _ hlink) (hts _ kJ9_max_7cf53.2) (hts _ kJ9_max_7cf53.1.2.1) (hts _ kJ9_max_7cf53.1.1) (by omega) (by omega) h.2.2.2.2.2.2.2.2.1 h.2.2.2.2.2.2.2.2.2 dg (k H locs ls hP hS hl)
theorem atN_1 {i : Nat} (h : Ok X cc own d) (hi : i < 6) (dg : decode cc pc = .ok (.iaload, 1)) (k : Wx X S (pc + 1) lv (.int (tabF i) :: rest)) : Wx X S pc lv (.int (nI i) :: .ref (fT1 (xw X)) :: rest) := by
  refine at_1 h (vin hi) dg ?_
  rw [ncl (by omega)]
  exact k
theorem atN_2 {i : Nat} (h : Ok X cc own d) (hi : i < 25) (dg : decode cc pc = .ok (.iaload, 1)) (k : Wx X S (pc + 1) lv (.int (tabC i) :: rest)) : Wx X S pc lv (.int (nI i) :: .ref (fT2 (xw X)) :: rest) := by
  refine at_2 h (vin hi) dg ?_
  rw [ncl (by omega)]
  exact k
end
end
section
def slotI (a b : Int32) : Int32 := a * 5 + b
def sideI (l : Int32) : Int32 := 64 >>> (l &&& 31)
def frmI (x l i : Int32) : Int32 := 2 * x - (2 * i * sideI l + sideI l - 1)
def wrpI (v : Int64) : Int32 := ((v - (-32)) &&& 63).toInt32 + (-32)
def wrlI (x : Int32) : Int32 := x &&& 63
def numI (l x : Int32) : Int32 := x >>> ((6 - l) &&& 31)
def bixI (l i j : Int32) : Int32 := tabF l.toNatClampNeg + j <<< (l &&& 31) + i
def pixI (l x y : Int32) : Int32 := bixI l (numI l x) (numI l y)
def hasI (S : St) (p : Int32) : Int32 := if p < 0 then 0 else if 40 ≤ p then 0 else if S.1 0 p.toNatClampNeg = 0 then 0 else 1
def lfI (S : St) : Nat → Nat → Int32
  | 0, _ => -1
  | n + 1, i => if S.1 0 i = 0 then nI i else lfI S n (i + 1)
theorem lfI_s {S : St} {n i : Nat} : lfI S (n + 1) i = if S.1 0 i = 0 then nI i else lfI S n (i + 1) := rfl
def putS (S : St) (p x y : Int32) : St := sI (sI S 1 p.toNatClampNeg x) 2 p.toNatClampNeg y
def spcS (S : St) (p x y : Int32) : St := sI (sI S 4 p.toNatClampNeg x) 5 p.toNatClampNeg y
def addS (S : St) (p x y v : Int32) : St := sI (spcS (sI (putS (sI S 0 p.toNatClampNeg 1) p x y) 3 p.toNatClampNeg v) p 0 0) 6 0 ((spcS (sI (putS (sI S 0 p.toNatClampNeg 1) p x y) 3 p.toNatClampNeg v) p 0 0).1 6 0 + 1)
def remS (S : St) (p : Int32) : St := sI (sI S 0 p.toNatClampNeg 0) 6 0 ((sI S 0 p.toNatClampNeg 0).1 6 0 - 1)
def readI (S : St) (p q : Int32) : Int32 := if q = 0 then S.1 1 p.toNatClampNeg else if q = 1 then S.1 2 p.toNatClampNeg else if q = 2 then S.1 3 p.toNatClampNeg else if q = 3 then S.1 4 p.toNatClampNeg else if q = 4 then S.1 5 p.toNatClampNeg else -2000
def blkI (S : St) : Nat → Int32
  | 0 => 0
  | i + 1 => if S.1 0 i = 0 then blkI S i else blkI S i + absI (S.1 3 i)
def rkI (S : St) (p x y : Int32) : Int32 := ((S.1 1 p.toNatClampNeg - x) * (S.1 1 p.toNatClampNeg - x) + (S.1 2 p.toNatClampNeg - y) * (S.1 2 p.toNatClampNeg - y)) * 40 + p
def nrI (S : St) (p x y : Int32) : Nat → Int32
  | 0 => 0
  | i + 1 => if S.1 0 i = 0 then nrI S p x y i else if rkI S p x y ≤ rkI S (nI i) x y then nrI S p x y i else nrI S p x y i + 1
theorem has_in {S : St} {p : Int32} (h : ¬ hasI S p = 0) : vp_in p 40 := by
  unfold hasI at h
  by_cases h1 : p < 0
  · rw [if_pos h1] at h; exact absurd rfl h
  rw [if_neg h1] at h
  by_cases h2 : (40 : Int32) ≤ p
  · rw [if_pos h2] at h; exact absurd rfl h
  · exact ixN (by decide) h1 h2
theorem has_at {S : St} {p : Int32} (h : ¬ hasI S p = 0) : ∃ i : Nat, i < 40 ∧ p = nI i ∧ ¬ S.1 0 i = 0 := by
  obtain ⟨j, hj, rfl⟩ := vp_in_of (has_in h) (by decide)
  refine ⟨j, hj, rfl, ?_⟩
  unfold hasI at h
  rw [if_neg (nI_pos (by omega)), if_neg (show ¬ (40 : Int32) ≤ nI j from bigF (a := 40) hj (by decide)), ncl (by omega)] at h
  intro z
  rw [if_pos z] at h
  exact h rfl
set_option maxRecDepth 100000 in
set_option maxHeartbeats 4000000 in
theorem mX6_slot (l : Launch) (w : Fx) (S : St) (a b : Int32) : Ct l yX6_slot cX6_slot 2 (some .int) 0 w [.int a, .int b] S (fun v S' => v = some (.int (slotI a b)) ∧ S' = S) := by
  refine Ct.of (by decide) (Nat.le_of_ble_eq_true rfl) (fun X h hr hl hw => ?_)
  subst hl hw
  have h : Ok X cX6_slot RX6 0 := h
  show Wx X S 0 [.int a, .int b] []
  refine r_iload_n 0 h dX6_slot_0 rfl rfl ?_
  refine r_iconst 5 h dX6_slot_1 (by decide) ?_
  refine r_imul h dX6_slot_2 ?_
  refine r_iload_n 1 h dX6_slot_3 rfl rfl ?_
  refine r_iadd h dX6_slot_4 ?_
  show Wx _ _ 5 _ _
  exact r_iret h hr dX6_slot_5 ⟨rfl, rfl⟩
set_option maxRecDepth 100000 in
set_option maxHeartbeats 4000000 in
theorem mX6_sideOf (l : Launch) (w : Fx) (S : St) (a : Int32) : Ct l yX6_sideOf cX6_sideOf 1 (some .int) 0 w [.int a] S (fun v S' => v = some (.int (sideI a)) ∧ S' = S) := by
  refine Ct.of (by decide) (Nat.le_of_ble_eq_true rfl) (fun X h hr hl hw => ?_)
  subst hl hw
  have h : Ok X cX6_sideOf RX6 0 := h
  show Wx X S 0 [.int a] []
  refine r_bipush 64 h dX6_sideOf_0 (by decide) ?_
  refine r_iload_n 0 h dX6_sideOf_2 rfl rfl ?_
  refine r_ishr h dX6_sideOf_3 ?_
  exact r_iret h hr dX6_sideOf_4 ⟨rfl, rfl⟩
set_option maxRecDepth 100000 in
set_option maxHeartbeats 4000000 in
theorem mX6_fromMiddle (l : Launch) (w : Fx) (S : St) (x a i : Int32) : Ct l yX6_fromMiddle cX6_fromMiddle 4 (some .int) 1 w [.int x, .int a, .int i] S (fun v S' => v = some (.int (frmI x a i)) ∧ S' = S) := by
  refine Ct.of (by decide) (Nat.le_of_ble_eq_true rfl) (fun X h hr hl hw => ?_)
  subst hl hw
  have h : Ok X cX6_fromMiddle RX6 1 := h
  show Wx X S 0 [.int x, .int a, .int i, .null] []
  refine r_iload_n 1 h dX6_fromMiddle_0 rfl rfl ?_
  refine cS1 h (mX6_sideOf _ _ _ a) kX6_sideOf lm_X6_257 (by decide) (Nat.le_of_ble_eq_true rfl) dX6_fromMiddle_1 ?_
  refine r_istore_n 3 h dX6_fromMiddle_4 rfl (Nat.le_of_ble_eq_true rfl) ?_
  show Wx _ _ _ [_, _, _, _] _
  refine r_iconst 2 h dX6_fromMiddle_5 (by decide) ?_
  refine r_iload_n 0 h dX6_fromMiddle_6 rfl rfl ?_
  show Wx _ _ 7 _ _
  refine r_imul h dX6_fromMiddle_7 ?_
  refine r_iconst 2 h dX6_fromMiddle_8 (by decide) ?_
  refine r_iload_n 2 h dX6_fromMiddle_9 rfl rfl ?_
  refine r_imul h dX6_fromMiddle_10 ?_
  refine r_iload_n 3 h dX6_fromMiddle_11 rfl rfl ?_
  refine r_imul h dX6_fromMiddle_12 ?_
  show Wx _ _ 13 _ _
  refine r_iload_n 3 h dX6_fromMiddle_13 rfl rfl ?_
  refine r_iadd h dX6_fromMiddle_14 ?_
  refine r_iconst 1 h dX6_fromMiddle_15 (by decide) ?_
  refine r_isub h dX6_fromMiddle_16 ?_
  refine r_isub h dX6_fromMiddle_17 ?_
  exact r_iret h hr dX6_fromMiddle_18 ⟨rfl, rfl⟩
set_option maxRecDepth 100000 in
set_option maxHeartbeats 4000000 in
theorem mX6_wrapPace (l : Launch) (w : Fx) (S : St) (x : Int64) : Ct l yX6_wrapPace cX6_wrapPace 2 (some .int) 0 w [.long x] S (fun v S' => v = some (.int (wrpI x)) ∧ S' = S) := by
  refine Ct.of (by decide) (Nat.le_of_ble_eq_true rfl) (fun X h hr hl hw => ?_)
  subst hl hw
  have h : Ok X cX6_wrapPace RX6 0 := h
  show Wx X S 0 [.long x, .null] []
  refine r_lload_n 0 h dX6_wrapPace_0 rfl rfl ?_
  refine r_ldc2 h lc_X6_269 dX6_wrapPace_1 ?_
  refine r_lsub h dX6_wrapPace_4 ?_
  refine r_ldc2 h lc_X6_271 dX6_wrapPace_5 ?_
  refine r_land h dX6_wrapPace_8 ?_
  show Wx _ _ 9 _ _
  refine r_l2i h dX6_wrapPace_9 ?_
  refine r_bipush (-32) h dX6_wrapPace_10 (by decide) ?_
  refine r_iadd h dX6_wrapPace_12 ?_
  exact r_iret h hr dX6_wrapPace_13 ⟨rfl, rfl⟩
set_option maxRecDepth 100000 in
set_option maxHeartbeats 4000000 in
theorem mX6_wrapPlace (l : Launch) (w : Fx) (S : St) (x : Int32) : Ct l yX6_wrapPlace cX6_wrapPlace 1 (some .int) 0 w [.int x] S (fun v S' => v = some (.int (wrlI x)) ∧ S' = S) := by
  refine Ct.of (by decide) (Nat.le_of_ble_eq_true rfl) (fun X h hr hl hw => ?_)
  subst hl hw
  have h : Ok X cX6_wrapPlace RX6 0 := h
  show Wx X S 0 [.int x] []
  refine r_iload_n 0 h dX6_wrapPlace_0 rfl rfl ?_
  refine r_bipush 63 h dX6_wrapPlace_1 (by decide) ?_
  refine r_iand h dX6_wrapPlace_3 ?_
  exact r_iret h hr dX6_wrapPlace_4 ⟨rfl, rfl⟩
set_option maxRecDepth 100000 in
set_option maxHeartbeats 4000000 in
theorem mX0_numberAt (l : Launch) (w : Fx) (S : St) (a x : Int32) : Ct l yX0_numberAt cX0_numberAt 2 (some .int) 0 w [.int a, .int x] S (fun v S' => v = some (.int (numI a x)) ∧ S' = S) := by
  refine Ct.of (by decide) (Nat.le_of_ble_eq_true rfl) (fun X h hr hl hw => ?_)
  subst hl hw
  have h : Ok X cX0_numberAt RX0 0 := h
  show Wx X S 0 [.int a, .int x] []
  refine r_iload_n 1 h dX0_numberAt_0 rfl rfl ?_
  refine r_bipush 6 h dX0_numberAt_1 (by decide) ?_
  refine r_iload_n 0 h dX0_numberAt_3 rfl rfl ?_
  refine r_isub h dX0_numberAt_4 ?_
  refine r_ishr h dX0_numberAt_5 ?_
  show Wx _ _ 6 _ _
  exact r_iret h hr dX0_numberAt_6 ⟨rfl, rfl⟩
set_option maxRecDepth 100000 in
set_option maxHeartbeats 4000000 in
theorem mX0_boxIndex (l : Launch) (w : Fx) (S : St) (a i j : Int32) (ha : vp_in a 6) : Ct l yX0_boxIndex cX0_boxIndex 3 (some .int) 0 w [.int a, .int i, .int j] S (fun v S' => v = some (.int (bixI a i j)) ∧ S' = S) := by
  refine Ct.of (by decide) (Nat.le_of_ble_eq_true rfl) (fun X h hr hl hw => ?_)
  subst hl hw
  have h : Ok X cX0_boxIndex RX0 0 := h
  show Wx X S 0 [.int a, .int i, .int j] []
  refine gs_1 h lf_X0_40 dX0_boxIndex_0 ?_
  refine r_iload_n 0 h dX0_boxIndex_3 rfl rfl ?_
  refine at_1 h ha dX0_boxIndex_4 ?_
  refine r_iload_n 2 h dX0_boxIndex_5 rfl rfl ?_
  refine r_iload_n 0 h dX0_boxIndex_6 rfl rfl ?_
  show Wx _ _ 7 _ _
  refine r_ishl h dX0_boxIndex_7 ?_
  refine r_iadd h dX0_boxIndex_8 ?_
  refine r_iload_n 1 h dX0_boxIndex_9 rfl rfl ?_
  refine r_iadd h dX0_boxIndex_10 ?_
  exact r_iret h hr dX0_boxIndex_11 ⟨rfl, rfl⟩
set_option maxRecDepth 100000 in
set_option maxHeartbeats 4000000 in
theorem mX0_placeIndex (l : Launch) (w : Fx) (S : St) (a x y : Int32) (ha : vp_in a 6) : Ct l yX0_placeIndex cX0_placeIndex 3 (some .int) 1 w [.int a, .int x, .int y] S (fun v S' => v = some (.int (pixI a x y)) ∧ S' = S) := by
  refine Ct.of (by decide) (Nat.le_of_ble_eq_true rfl) (fun X h hr hl hw => ?_)
  subst hl hw
  have h : Ok X cX0_placeIndex RX0 1 := h
  show Wx X S 0 [.int a, .int x, .int y] []
  refine r_iload_n 0 h dX0_placeIndex_0 rfl rfl ?_
  refine r_iload_n 0 h dX0_placeIndex_1 rfl rfl ?_
  refine r_iload_n 1 h dX0_placeIndex_2 rfl rfl ?_
  refine cS2 h (mX0_numberAt _ _ _ a x) kX0_numberAt lm_X0_52 (by decide) (Nat.le_of_ble_eq_true rfl) dX0_placeIndex_3 ?_
  refine r_iload_n 0 h dX0_placeIndex_6 rfl rfl ?_
  show Wx _ _ 7 _ _
  refine r_iload_n 2 h dX0_placeIndex_7 rfl rfl ?_
  refine cS2 h (mX0_numberAt _ _ _ a y) kX0_numberAt lm_X0_52 (by decide) (Nat.le_of_ble_eq_true rfl) dX0_placeIndex_8 ?_
  refine cS3 h (mX0_boxIndex _ _ _ a _ _ ha) kX0_boxIndex lm_X0_34 (by decide) (Nat.le_of_ble_eq_true rfl) dX0_placeIndex_11 ?_
  exact r_iret h hr dX0_placeIndex_14 ⟨rfl, rfl⟩
set_option maxRecDepth 100000 in
set_option maxHeartbeats 4000000 in
theorem mX2_has (l : Launch) (w : Fx) (S : St) (p : Int32) : Ct l yX2_has cX2_has 2 (some .boolean) 0 w [.ref (aD w 1), .int p] S (fun v S' => v = some (.int (hasI S p)) ∧ S' = S) := by
  refine Ct.of (by decide) (Nat.le_of_ble_eq_true rfl) (fun X h hr hl hw => ?_)
  subst hl hw
  have h : Ok X cX2_has RX2 0 := h
  show Wx X S 0 [.ref (aD (xw X) 1), .int p] []
  refine r_iload_n 1 h dX2_has_0 rfl rfl ?_
  refine r_if_lt 23 h dX2_has_1 (by decide) (fun c1 => ?_) (fun c1 => ?_)
  · refine r_iconst 0 h dX2_has_23 (by decide) ?_
    exact r_zret h hr dX2_has_24 rfl ⟨by simp only [hasI, c1, ite_true, ite_false, if_true, if_false, not_true, not_false_iff], rfl⟩
  · refine r_iload_n 1 h dX2_has_4 rfl rfl ?_
    refine r_bipush 40 h dX2_has_5 (by decide) ?_
    refine r_icmp_ge 23 h dX2_has_7 (by decide) (fun c7 => ?_) (fun c7 => ?_)
    · refine r_iconst 0 h dX2_has_23 (by decide) ?_
      exact r_zret h hr dX2_has_24 rfl ⟨by simp only [hasI, c1, c7, ite_true, ite_false, if_true, if_false, not_true, not_false_iff], rfl⟩
    · refine r_aload_n 0 h dX2_has_10 rfl rfl ?_
      refine g1_0 h lf_X2_9 dX2_has_11 ?_
      refine r_iload_n 1 h dX2_has_14 rfl rfl ?_
      refine al_2 h (ixN (N := 40) (by decide) c1 c7) dX2_has_15 ?_
      refine r_if_eq 23 h dX2_has_16 (by decide) (fun c16 => ?_) (fun c16 => ?_)
      · refine r_iconst 0 h dX2_has_23 (by decide) ?_
        exact r_zret h hr dX2_has_24 rfl ⟨by simp only [hasI, c1, c7, c16, ite_true, ite_false, if_true, if_false, not_true, not_false_iff], rfl⟩
      · refine r_iconst 1 h dX2_has_19 (by decide) ?_
        refine r_goto 24 h dX2_has_20 (by decide) ?_
        exact r_zret h hr dX2_has_24 rfl ⟨by simp only [hasI, c1, c7, c16, ite_true, ite_false, if_true, if_false, not_true, not_false_iff], rfl⟩
set_option maxRecDepth 100000 in
set_option maxHeartbeats 4000000 in
theorem mX2_leastFree (l : Launch) (w : Fx) (S : St) : Ct l yX2_leastFree cX2_leastFree 2 (some .int) 0 w [.ref (aD w 1)] S (fun v S' => v = some (.int (lfI S 40 0)) ∧ S' = S) := by
  refine Ct.of (by decide) (Nat.le_of_ble_eq_true rfl) (fun X h hr hl hw => ?_)
  subst hl hw
  have h : Ok X cX2_leastFree RX2 0 := h
  show Wx X S 0 [.ref (aD (xw X) 1), .null] []
  have loop : ∀ n i : Nat, i + n = 40 → lfI S n i = lfI S 40 0 → Wx X S 2 [.ref (aD (xw X) 1), .int (nI i)] [] := by
    intro n
    induction n with
    | zero =>
      intro i hi he
      refine r_iload_n 1 h dX2_leastFree_2 rfl rfl ?_
      refine r_bipush 40 h dX2_leastFree_3 (by decide) ?_
      refine r_icmp_ge_t 25 h dX2_leastFree_5 (by decide) (bigT (a := 40) (by omega) (by omega)) ?_
      refine r_iconst (-1) h dX2_leastFree_25 (by decide) ?_
      exact r_iret h hr dX2_leastFree_26 ⟨by rw [← he]; rfl, rfl⟩
    | succ n ih =>
      intro i hi he
      rw [lfI_s (n := n) (i := i)] at he
      refine r_iload_n 1 h dX2_leastFree_2 rfl rfl ?_
      refine r_bipush 40 h dX2_leastFree_3 (by decide) ?_
      refine r_icmp_ge_f 25 h dX2_leastFree_5 (by decide) (bigF (a := 40) (by omega) (by omega)) ?_
      refine r_aload_n 0 h dX2_leastFree_8 rfl rfl ?_
      refine g1_0 h lf_X2_9 dX2_leastFree_9 ?_
      show Wx _ _ 12 _ _
      refine r_iload_n 1 h dX2_leastFree_12 rfl rfl ?_
      refine alN_2 h (by omega) dX2_leastFree_13 ?_
      refine r_if_ne 19 h dX2_leastFree_14 (by decide) (fun c14 => ?_) (fun c14 => ?_)
      · refine r_iincN h dX2_leastFree_19 rfl ?_
        show Wx _ _ _ [_, _] _
        refine r_goto 2 h dX2_leastFree_22 (by decide) ?_
        exact ih (i + 1) (by omega) (by rw [← he, if_neg c14])
      · refine r_iload_n 1 h dX2_leastFree_17 rfl rfl ?_
        exact r_iret h hr dX2_leastFree_18 ⟨by rw [← he, if_pos c14], rfl⟩
  refine r_iconst 0 h dX2_leastFree_0 (by decide) ?_
  refine r_istore_n 1 h dX2_leastFree_1 rfl (Nat.le_of_ble_eq_true rfl) ?_
  show Wx _ _ _ [_, _] _
  exact loop 40 0 rfl rfl
set_option maxRecDepth 100000 in
set_option maxHeartbeats 4000000 in
theorem mX2_put (l : Launch) (w : Fx) (S : St) (p x y : Int32) (hp : vp_in p 40) : Ct l yX2_put cX2_put 4 none 0 w [.ref (aD w 1), .int p, .int x, .int y] S (fun v S' => v = none ∧ S' = putS S p x y) := by
  refine Ct.of (by decide) (Nat.le_of_ble_eq_true rfl) (fun X h hr hl hw => ?_)
  subst hl hw
  have h : Ok X cX2_put RX2 0 := h
  show Wx X S 0 [.ref (aD (xw X) 1), .int p, .int x, .int y] []
  refine r_aload_n 0 h dX2_put_0 rfl rfl ?_
  refine g1_1 h lf_X2_15 dX2_put_1 ?_
  refine r_iload_n 1 h dX2_put_4 rfl rfl ?_
  refine r_iload_n 2 h dX2_put_5 rfl rfl ?_
  refine as_3 h hp dX2_put_6 ?_
  show Wx _ _ 7 _ _
  refine r_aload_n 0 h dX2_put_7 rfl rfl ?_
  refine g1_2 h lf_X2_19 dX2_put_8 ?_
  refine r_iload_n 1 h dX2_put_11 rfl rfl ?_
  refine r_iload_n 3 h dX2_put_12 rfl rfl ?_
  refine as_4 h hp dX2_put_13 ?_
  exact r_vret h hr dX2_put_14 ⟨rfl, rfl⟩
set_option maxRecDepth 100000 in
set_option maxHeartbeats 4000000 in
theorem mX2_setPace (l : Launch) (w : Fx) (S : St) (p x y : Int32) (hp : vp_in p 40) : Ct l yX2_setPace cX2_setPace 4 none 0 w [.ref (aD w 1), .int p, .int x, .int y] S (fun v S' => v = none ∧ S' = spcS S p x y) := by
  refine Ct.of (by decide) (Nat.le_of_ble_eq_true rfl) (fun X h hr hl hw => ?_)
  subst hl hw
  have h : Ok X cX2_setPace RX2 0 := h
  show Wx X S 0 [.ref (aD (xw X) 1), .int p, .int x, .int y] []
  refine r_aload_n 0 h dX2_setPace_0 rfl rfl ?_
  refine g1_4 h lf_X2_25 dX2_setPace_1 ?_
  refine r_iload_n 1 h dX2_setPace_4 rfl rfl ?_
  refine r_iload_n 2 h dX2_setPace_5 rfl rfl ?_
  refine as_6 h hp dX2_setPace_6 ?_
  show Wx _ _ 7 _ _
  refine r_aload_n 0 h dX2_setPace_7 rfl rfl ?_
  refine g1_5 h lf_X2_28 dX2_setPace_8 ?_
  refine r_iload_n 1 h dX2_setPace_11 rfl rfl ?_
  refine r_iload_n 3 h dX2_setPace_12 rfl rfl ?_
  refine as_7 h hp dX2_setPace_13 ?_
  exact r_vret h hr dX2_setPace_14 ⟨rfl, rfl⟩
set_option maxRecDepth 100000 in
set_option maxHeartbeats 4000000 in
theorem mX2_add (l : Launch) (w : Fx) (S : St) (p x y z : Int32) (hp : vp_in p 40) : Ct l yX2_add cX2_add 5 none 1 w [.ref (aD w 1), .int p, .int x, .int y, .int z] S (fun v S' => v = none ∧ S' = addS S p x y z) := by
  refine Ct.of (by decide) (Nat.le_of_ble_eq_true rfl) (fun X h hr hl hw => ?_)
  subst hl hw
  have h : Ok X cX2_add RX2 1 := h
  show Wx X S 0 [.ref (aD (xw X) 1), .int p, .int x, .int y, .int z] []
  refine r_aload_n 0 h dX2_add_0 rfl rfl ?_
  refine g1_0 h lf_X2_9 dX2_add_1 ?_
  refine r_iload_n 1 h dX2_add_4 rfl rfl ?_
  refine r_iconst 1 h dX2_add_5 (by decide) ?_
  refine as1_2 h hp dX2_add_6 ?_
  show Wx _ _ 7 _ _
  refine r_aload_n 0 h dX2_add_7 rfl rfl ?_
  refine r_iload_n 1 h dX2_add_8 rfl rfl ?_
  refine r_iload_n 2 h dX2_add_9 rfl rfl ?_
  refine r_iload_n 3 h dX2_add_10 rfl rfl ?_
  refine cV3v h (mX2_put _ _ _ p x y hp) kX2_put lm_X2_35 (by decide) 1 (pl_1 _ _) rfl (Nat.le_of_ble_eq_true rfl) dX2_add_11 ?_
  refine r_aload_n 0 h dX2_add_14 rfl rfl ?_
  show Wx _ _ 15 _ _
  refine g1_3 h lf_X2_22 dX2_add_15 ?_
  refine r_iload_n 1 h dX2_add_18 rfl rfl ?_
  refine r_iload h dX2_add_19 rfl ?_
  refine as_5 h hp dX2_add_21 ?_
  refine r_aload_n 0 h dX2_add_22 rfl rfl ?_
  refine r_iload_n 1 h dX2_add_23 rfl rfl ?_
  show Wx _ _ 24 _ _
  refine r_iconst 0 h dX2_add_24 (by decide) ?_
  refine r_iconst 0 h dX2_add_25 (by decide) ?_
  refine cV3v h (mX2_setPace _ _ _ p 0 0 hp) kX2_setPace lm_X2_39 (by decide) 1 (pl_1 _ _) rfl (Nat.le_of_ble_eq_true rfl) dX2_add_26 ?_
  refine r_aload_n 0 h dX2_add_29 rfl rfl ?_
  refine r_dup h dX2_add_30 rfl ?_
  refine g1_6 h lf_X2_31 dX2_add_31 ?_
  show Wx _ _ 34 _ _
  refine r_iconst 1 h dX2_add_34 (by decide) ?_
  refine r_iadd h dX2_add_35 ?_
  refine p1_6 h lf_X2_31 dX2_add_36 ?_
  exact r_vret h hr dX2_add_39 ⟨rfl, rfl⟩
set_option maxRecDepth 100000 in
set_option maxHeartbeats 4000000 in
theorem mX2_remove (l : Launch) (w : Fx) (S : St) (p : Int32) (hp : vp_in p 40) : Ct l yX2_remove cX2_remove 2 none 0 w [.ref (aD w 1), .int p] S (fun v S' => v = none ∧ S' = remS S p) := by
  refine Ct.of (by decide) (Nat.le_of_ble_eq_true rfl) (fun X h hr hl hw => ?_)
  subst hl hw
  have h : Ok X cX2_remove RX2 0 := h
  show Wx X S 0 [.ref (aD (xw X) 1), .int p] []
  refine r_aload_n 0 h dX2_remove_0 rfl rfl ?_
  refine g1_0 h lf_X2_9 dX2_remove_1 ?_
  refine r_iload_n 1 h dX2_remove_4 rfl rfl ?_
  refine r_iconst 0 h dX2_remove_5 (by decide) ?_
  refine as0_2 h hp dX2_remove_6 ?_
  show Wx _ _ 7 _ _
  refine r_aload_n 0 h dX2_remove_7 rfl rfl ?_
  refine r_dup h dX2_remove_8 rfl ?_
  refine g1_6 h lf_X2_31 dX2_remove_9 ?_
  refine r_iconst 1 h dX2_remove_12 (by decide) ?_
  refine r_isub h dX2_remove_13 ?_
  refine p1_6 h lf_X2_31 dX2_remove_14 ?_
  show Wx _ _ 17 _ _
  exact r_vret h hr dX2_remove_17 ⟨rfl, rfl⟩
set_option maxRecDepth 100000 in
set_option maxHeartbeats 4000000 in
theorem mX2_read (l : Launch) (w : Fx) (S : St) (p q : Int32) (hp : vp_in p 40) : Ct l yX2_read cX2_read 3 (some .int) 0 w [.ref (aD w 1), .int p, .int q] S (fun v S' => v = some (.int (readI S p q)) ∧ S' = S) := by
  refine Ct.of (by decide) (Nat.le_of_ble_eq_true rfl) (fun X h hr hl hw => ?_)
  subst hl hw
  have h : Ok X cX2_read RX2 0 := h
  show Wx X S 0 [.ref (aD (xw X) 1), .int p, .int q] []
  refine r_iload_n 2 h dX2_read_0 rfl rfl ?_
  refine r_sw5 71 36 43 50 57 64 h dX2_read_1 (by decide) (by decide) (by decide) (by decide) (by decide) (by decide)  (fun c1 => ?_) (fun c1 => ?_) (fun c1 => ?_) (fun c1 => ?_) (fun c1 => ?_) (fun c1 => ?_) 
  · refine r_sipush (-2000) h dX2_read_71 (by decide) ?_
    exact r_iret h hr dX2_read_74 ⟨by unfold readI; rw [if_neg, if_neg, if_neg, if_neg, if_neg] <;> (intro z; subst z; revert c1; decide), rfl⟩
  · refine r_aload_n 0 h dX2_read_36 rfl rfl ?_
    refine g1_1 h lf_X2_15 dX2_read_37 ?_
    refine r_iload_n 1 h dX2_read_40 rfl rfl ?_
    refine al_3 h hp dX2_read_41 ?_
    exact r_iret h hr dX2_read_42 ⟨by subst c1; rfl, rfl⟩
  · refine r_aload_n 0 h dX2_read_43 rfl rfl ?_
    refine g1_2 h lf_X2_19 dX2_read_44 ?_
    refine r_iload_n 1 h dX2_read_47 rfl rfl ?_
    refine al_4 h hp dX2_read_48 ?_
    exact r_iret h hr dX2_read_49 ⟨by subst c1; rfl, rfl⟩
  · refine r_aload_n 0 h dX2_read_50 rfl rfl ?_
    refine g1_3 h lf_X2_22 dX2_read_51 ?_
    refine r_iload_n 1 h dX2_read_54 rfl rfl ?_
    refine al_5 h hp dX2_read_55 ?_
    exact r_iret h hr dX2_read_56 ⟨by subst c1; rfl, rfl⟩
  · refine r_aload_n 0 h dX2_read_57 rfl rfl ?_
    refine g1_4 h lf_X2_25 dX2_read_58 ?_
    refine r_iload_n 1 h dX2_read_61 rfl rfl ?_
    refine al_6 h hp dX2_read_62 ?_
    exact r_iret h hr dX2_read_63 ⟨by subst c1; rfl, rfl⟩
  · refine r_aload_n 0 h dX2_read_64 rfl rfl ?_
    refine g1_5 h lf_X2_28 dX2_read_65 ?_
    refine r_iload_n 1 h dX2_read_68 rfl rfl ?_
    refine al_7 h hp dX2_read_69 ?_
    exact r_iret h hr dX2_read_70 ⟨by subst c1; rfl, rfl⟩
set_option maxRecDepth 100000 in
set_option maxHeartbeats 4000000 in
theorem mX2_wholeBulk (l : Launch) (w : Fx) (S : St) : Ct l yX2_wholeBulk cX2_wholeBulk 3 (some .int) 1 w [.ref (aD w 1)] S (fun v S' => v = some (.int (blkI S 40)) ∧ S' = S) := by
  refine Ct.of (by decide) (Nat.le_of_ble_eq_true rfl) (fun X h hr hl hw => ?_)
  subst hl hw
  have h : Ok X cX2_wholeBulk RX2 1 := h
  show Wx X S 0 [.ref (aD (xw X) 1), .null, .null] []
  have loop : ∀ n i : Nat, i + n = 40 → Wx X S 4 [.ref (aD (xw X) 1), .int (blkI S i), .int (nI i)] [] := by
    intro n
    induction n with
    | zero =>
      intro i hi
      have hi : i = 40 := by omega
      subst hi
      refine r_iload_n 2 h dX2_wholeBulk_4 rfl rfl ?_
      refine r_bipush 40 h dX2_wholeBulk_5 (by decide) ?_
      refine r_icmp_ge_t 37 h dX2_wholeBulk_7 (by decide) (bigT (a := 40) (by omega) (by omega)) ?_
      refine r_iload_n 1 h dX2_wholeBulk_37 rfl rfl ?_
      exact r_iret h hr dX2_wholeBulk_38 ⟨rfl, rfl⟩
    | succ n ih =>
      intro i hi
      have hq := ih (i + 1) (by omega)
      unfold blkI at hq
      refine r_iload_n 2 h dX2_wholeBulk_4 rfl rfl ?_
      refine r_bipush 40 h dX2_wholeBulk_5 (by decide) ?_
      refine r_icmp_ge_f 37 h dX2_wholeBulk_7 (by decide) (bigF (a := 40) (by omega) (by omega)) ?_
      refine r_aload_n 0 h dX2_wholeBulk_10 rfl rfl ?_
      refine g1_0 h lf_X2_9 dX2_wholeBulk_11 ?_
      show Wx _ _ 14 _ _
      refine r_iload_n 2 h dX2_wholeBulk_14 rfl rfl ?_
      refine alN_2 h (by omega) dX2_wholeBulk_15 ?_
      refine r_if_eq 31 h dX2_wholeBulk_16 (by decide) (fun c16 => ?_) (fun c16 => ?_)
      · refine r_iincN h dX2_wholeBulk_31 rfl ?_
        show Wx _ _ _ [_, _, _] _
        refine r_goto 4 h dX2_wholeBulk_34 (by decide) ?_
        first | (rw [if_pos c16] at hq; exact hq) | (rw [if_neg c16] at hq; exact hq)
      · refine r_iload_n 1 h dX2_wholeBulk_19 rfl rfl ?_
        refine r_aload_n 0 h dX2_wholeBulk_20 rfl rfl ?_
        refine g1_3 h lf_X2_22 dX2_wholeBulk_21 ?_
        refine r_iload_n 2 h dX2_wholeBulk_24 rfl rfl ?_
        refine alN_5 h (by omega) dX2_wholeBulk_25 ?_
        show Wx _ _ 26 _ _
        refine r_absI h lm_X2_42 (by decide) (Nat.le_of_ble_eq_true rfl) dX2_wholeBulk_26 ?_
        refine r_iadd h dX2_wholeBulk_29 ?_
        refine r_istore_n 1 h dX2_wholeBulk_30 rfl (Nat.le_of_ble_eq_true rfl) ?_
        show Wx _ _ _ [_, _, _] _
        refine r_iincN h dX2_wholeBulk_31 rfl ?_
        show Wx _ _ _ [_, _, _] _
        refine r_goto 4 h dX2_wholeBulk_34 (by decide) ?_
        first | (rw [if_pos c16] at hq; exact hq) | (rw [if_neg c16] at hq; exact hq)
  refine r_iconst 0 h dX2_wholeBulk_0 (by decide) ?_
  refine r_istore_n 1 h dX2_wholeBulk_1 rfl (Nat.le_of_ble_eq_true rfl) ?_
  show Wx _ _ _ [_, _, _] _
  refine r_iconst 0 h dX2_wholeBulk_2 (by decide) ?_
  refine r_istore_n 2 h dX2_wholeBulk_3 rfl (Nat.le_of_ble_eq_true rfl) ?_
  show Wx _ _ _ [_, _, _] _
  exact loop 40 0 rfl
set_option maxRecDepth 100000 in
set_option maxHeartbeats 4000000 in
theorem mX2_rankKey (l : Launch) (w : Fx) (S : St) (p x y : Int32) (hp : vp_in p 40) : Ct l yX2_rankKey cX2_rankKey 6 (some .int) 0 w [.ref (aD w 1), .int p, .int x, .int y] S (fun v S' => v = some (.int (rkI S p x y)) ∧ S' = S) := by
  refine Ct.of (by decide) (Nat.le_of_ble_eq_true rfl) (fun X h hr hl hw => ?_)
  subst hl hw
  have h : Ok X cX2_rankKey RX2 0 := h
  show Wx X S 0 [.ref (aD (xw X) 1), .int p, .int x, .int y, .null, .null] []
  refine r_aload_n 0 h dX2_rankKey_0 rfl rfl ?_
  refine g1_1 h lf_X2_15 dX2_rankKey_1 ?_
  refine r_iload_n 1 h dX2_rankKey_4 rfl rfl ?_
  refine al_3 h hp dX2_rankKey_5 ?_
  refine r_iload_n 2 h dX2_rankKey_6 rfl rfl ?_
  show Wx _ _ 7 _ _
  refine r_isub h dX2_rankKey_7 ?_
  refine r_istore h dX2_rankKey_8 (Nat.le_of_ble_eq_true rfl) ?_
  show Wx _ _ _ [_, _, _, _, _, _] _
  refine r_aload_n 0 h dX2_rankKey_10 rfl rfl ?_
  refine g1_2 h lf_X2_19 dX2_rankKey_11 ?_
  refine r_iload_n 1 h dX2_rankKey_14 rfl rfl ?_
  refine al_4 h hp dX2_rankKey_15 ?_
  show Wx _ _ 16 _ _
  refine r_iload_n 3 h dX2_rankKey_16 rfl rfl ?_
  refine r_isub h dX2_rankKey_17 ?_
  refine r_istore h dX2_rankKey_18 (Nat.le_of_ble_eq_true rfl) ?_
  show Wx _ _ _ [_, _, _, _, _, _] _
  refine r_iload h dX2_rankKey_20 rfl ?_
  refine r_iload h dX2_rankKey_22 rfl ?_
  refine r_imul h dX2_rankKey_24 ?_
  show Wx _ _ 25 _ _
  refine r_iload h dX2_rankKey_25 rfl ?_
  refine r_iload h dX2_rankKey_27 rfl ?_
  refine r_imul h dX2_rankKey_29 ?_
  refine r_iadd h dX2_rankKey_30 ?_
  refine r_bipush 40 h dX2_rankKey_31 (by decide) ?_
  refine r_imul h dX2_rankKey_33 ?_
  show Wx _ _ 34 _ _
  refine r_iload_n 1 h dX2_rankKey_34 rfl rfl ?_
  refine r_iadd h dX2_rankKey_35 ?_
  exact r_iret h hr dX2_rankKey_36 ⟨rfl, rfl⟩
set_option maxRecDepth 100000 in
set_option maxHeartbeats 4000000 in
theorem mX2_nearerThan (l : Launch) (w : Fx) (S : St) (p x y : Int32) (hp : vp_in p 40) : Ct l yX2_nearerThan cX2_nearerThan 7 (some .int) 1 w [.ref (aD w 1), .int p, .int x, .int y] S (fun v S' => v = some (.int (nrI S p x y 40)) ∧ S' = S) := by
  refine Ct.of (by decide) (Nat.le_of_ble_eq_true rfl) (fun X h hr hl hw => ?_)
  subst hl hw
  have h : Ok X cX2_nearerThan RX2 1 := h
  show Wx X S 0 [.ref (aD (xw X) 1), .int p, .int x, .int y, .null, .null, .null] []
  have loop : ∀ n i : Nat, i + n = 40 → Wx X S 15 [.ref (aD (xw X) 1), .int p, .int x, .int y, .int (rkI S p x y), .int (nrI S p x y i), .int (nI i)] [] := by
    intro n
    induction n with
    | zero =>
      intro i hi
      have hi : i = 40 := by omega
      subst hi
      refine r_iload h dX2_nearerThan_15 rfl ?_
      refine r_bipush 40 h dX2_nearerThan_17 (by decide) ?_
      refine r_icmp_ge_t 54 h dX2_nearerThan_19 (by decide) (bigT (a := 40) (by omega) (by omega)) ?_
      refine r_iload h dX2_nearerThan_54 rfl ?_
      exact r_iret h hr dX2_nearerThan_56 ⟨rfl, rfl⟩
    | succ n ih =>
      intro i hi
      have hq := ih (i + 1) (by omega)
      unfold nrI at hq
      refine r_iload h dX2_nearerThan_15 rfl ?_
      refine r_bipush 40 h dX2_nearerThan_17 (by decide) ?_
      refine r_icmp_ge_f 54 h dX2_nearerThan_19 (by decide) (bigF (a := 40) (by omega) (by omega)) ?_
      refine r_aload_n 0 h dX2_nearerThan_22 rfl rfl ?_
      refine g1_0 h lf_X2_9 dX2_nearerThan_23 ?_
      show Wx _ _ 26 _ _
      refine r_iload h dX2_nearerThan_26 rfl ?_
      refine alN_2 h (by omega) dX2_nearerThan_28 ?_
      refine r_if_eq 48 h dX2_nearerThan_29 (by decide) (fun c29 => ?_) (fun c29 => ?_)
      · refine r_iincN h dX2_nearerThan_48 rfl ?_
        show Wx _ _ _ [_, _, _, _, _, _, _] _
        refine r_goto 15 h dX2_nearerThan_51 (by decide) ?_
        first | (rw [if_pos c29] at hq; exact hq) | (rw [if_neg c29, if_pos c42] at hq; exact hq) | (rw [if_neg c29, if_neg c42] at hq; exact hq)
      · refine r_aload_n 0 h dX2_nearerThan_32 rfl rfl ?_
        refine r_iload h dX2_nearerThan_33 rfl ?_
        refine r_iload_n 2 h dX2_nearerThan_35 rfl rfl ?_
        refine r_iload_n 3 h dX2_nearerThan_36 rfl rfl ?_
        refine cV3 h (mX2_rankKey _ _ _ (nI i) x y (vin (by omega))) kX2_rankKey lm_X2_48 (by decide) 1 (pl_1 _ _) rfl (Nat.le_of_ble_eq_true rfl) dX2_nearerThan_37 ?_
        show Wx _ _ 40 _ _
        refine r_iload h dX2_nearerThan_40 rfl ?_
        refine r_icmp_ge 48 h dX2_nearerThan_42 (by decide) (fun c42 => ?_) (fun c42 => ?_)
        · refine r_iincN h dX2_nearerThan_48 rfl ?_
          show Wx _ _ _ [_, _, _, _, _, _, _] _
          refine r_goto 15 h dX2_nearerThan_51 (by decide) ?_
          first | (rw [if_pos c29] at hq; exact hq) | (rw [if_neg c29, if_pos c42] at hq; exact hq) | (rw [if_neg c29, if_neg c42] at hq; exact hq)
        · refine r_iinc 1 h dX2_nearerThan_45 (by decide) rfl ?_
          show Wx _ _ _ [_, _, _, _, _, _, _] _
          refine r_iincN h dX2_nearerThan_48 rfl ?_
          show Wx _ _ _ [_, _, _, _, _, _, _] _
          refine r_goto 15 h dX2_nearerThan_51 (by decide) ?_
          first | (rw [if_pos c29] at hq; exact hq) | (rw [if_neg c29, if_pos c42] at hq; exact hq) | (rw [if_neg c29, if_neg c42] at hq; exact hq)
  refine r_aload_n 0 h dX2_nearerThan_0 rfl rfl ?_
  refine r_iload_n 1 h dX2_nearerThan_1 rfl rfl ?_
  refine r_iload_n 2 h dX2_nearerThan_2 rfl rfl ?_
  refine r_iload_n 3 h dX2_nearerThan_3 rfl rfl ?_
  refine cV3 h (mX2_rankKey _ _ _ p x y hp) kX2_rankKey lm_X2_48 (by decide) 1 (pl_1 _ _) rfl (Nat.le_of_ble_eq_true rfl) dX2_nearerThan_4 ?_
  show Wx _ _ 7 _ _
  refine r_istore h dX2_nearerThan_7 (Nat.le_of_ble_eq_true rfl) ?_
  show Wx _ _ _ [_, _, _, _, _, _, _] _
  refine r_iconst 0 h dX2_nearerThan_9 (by decide) ?_
  refine r_istore h dX2_nearerThan_10 (Nat.le_of_ble_eq_true rfl) ?_
  show Wx _ _ _ [_, _, _, _, _, _, _] _
  refine r_iconst 0 h dX2_nearerThan_12 (by decide) ?_
  refine r_istore h dX2_nearerThan_13 (Nat.le_of_ble_eq_true rfl) ?_
  show Wx _ _ _ [_, _, _, _, _, _, _] _
  exact loop 40 0 rfl
end
section
def plcI (x y : Int32) : Int32 := if x < 0 then 0 else if 64 ≤ x then 0 else if y < 0 then 0 else if 64 ≤ y then 0 else 1
def wgtI (v : Int32) : Int32 := if v < -1000 then 0 else if 1000 < v then 0 else 1
def pacI (v : Int32) : Int32 := if v < -32 then 0 else if 31 < v then 0 else 1
def dstI (v : Int32) : Int32 := if v < 1 then 0 else if 4 < v then 0 else 1
def pwrI (a b : Int32) : Int32 := if a < 0 then 0 else if 4 < a then 0 else if b < 0 then 0 else if 4 - a < b then 0 else 1
set_option maxRecDepth 100000 in
set_option maxHeartbeats 4000000 in
theorem mX6_isPlace (l : Launch) (w : Fx) (S : St) (x y : Int32) : Ct l yX6_isPlace cX6_isPlace 2 (some .boolean) 0 w [.int x, .int y] S (fun v S' => v = some (.int (plcI x y)) ∧ S' = S) := by
  refine Ct.of (by decide) (Nat.le_of_ble_eq_true rfl) (fun X h hr hl hw => ?_)
  subst hl hw
  have h : Ok X cX6_isPlace RX6 0 := h
  show Wx X S 0 [.int x, .int y] []
  refine r_iload_n 0 h dX6_isPlace_0 rfl rfl ?_
  refine r_if_lt 24 h dX6_isPlace_1 (by decide) (fun c1 => ?_) (fun c1 => ?_)
  · refine r_iconst 0 h dX6_isPlace_24 (by decide) ?_
    exact r_zret h hr dX6_isPlace_25 rfl ⟨by simp only [plcI, c1, ite_true, ite_false, if_true, if_false, not_true, not_false_iff], rfl⟩
  · refine r_iload_n 0 h dX6_isPlace_4 rfl rfl ?_
    refine r_bipush 64 h dX6_isPlace_5 (by decide) ?_
    refine r_icmp_ge 24 h dX6_isPlace_7 (by decide) (fun c7 => ?_) (fun c7 => ?_)
    · refine r_iconst 0 h dX6_isPlace_24 (by decide) ?_
      exact r_zret h hr dX6_isPlace_25 rfl ⟨by simp only [plcI, c1, c7, ite_true, ite_false, if_true, if_false, not_true, not_false_iff], rfl⟩
    · refine r_iload_n 1 h dX6_isPlace_10 rfl rfl ?_
      refine r_if_lt 24 h dX6_isPlace_11 (by decide) (fun c11 => ?_) (fun c11 => ?_)
      · refine r_iconst 0 h dX6_isPlace_24 (by decide) ?_
        exact r_zret h hr dX6_isPlace_25 rfl ⟨by simp only [plcI, c1, c7, c11, ite_true, ite_false, if_true, if_false, not_true, not_false_iff], rfl⟩
      · refine r_iload_n 1 h dX6_isPlace_14 rfl rfl ?_
        refine r_bipush 64 h dX6_isPlace_15 (by decide) ?_
        refine r_icmp_ge 24 h dX6_isPlace_17 (by decide) (fun c17 => ?_) (fun c17 => ?_)
        · refine r_iconst 0 h dX6_isPlace_24 (by decide) ?_
          exact r_zret h hr dX6_isPlace_25 rfl ⟨by simp only [plcI, c1, c7, c11, c17, ite_true, ite_false, if_true, if_false, not_true, not_false_iff], rfl⟩
        · refine r_iconst 1 h dX6_isPlace_20 (by decide) ?_
          refine r_goto 25 h dX6_isPlace_21 (by decide) ?_
          exact r_zret h hr dX6_isPlace_25 rfl ⟨by simp only [plcI, c1, c7, c11, c17, ite_true, ite_false, if_true, if_false, not_true, not_false_iff], rfl⟩
set_option maxRecDepth 100000 in
set_option maxHeartbeats 4000000 in
theorem mX6_isWeight (l : Launch) (w : Fx) (S : St) (q : Int32) : Ct l yX6_isWeight cX6_isWeight 1 (some .boolean) 0 w [.int q] S (fun v S' => v = some (.int (wgtI q)) ∧ S' = S) := by
  refine Ct.of (by decide) (Nat.le_of_ble_eq_true rfl) (fun X h hr hl hw => ?_)
  subst hl hw
  have h : Ok X cX6_isWeight RX6 0 := h
  show Wx X S 0 [.int q] []
  refine r_iload_n 0 h dX6_isWeight_0 rfl rfl ?_
  refine r_sipush (-1000) h dX6_isWeight_1 (by decide) ?_
  refine r_icmp_lt 18 h dX6_isWeight_4 (by decide) (fun c4 => ?_) (fun c4 => ?_)
  · refine r_iconst 0 h dX6_isWeight_18 (by decide) ?_
    exact r_zret h hr dX6_isWeight_19 rfl ⟨by simp only [wgtI, c4, ite_true, ite_false, if_true, if_false, not_true, not_false_iff], rfl⟩
  · refine r_iload_n 0 h dX6_isWeight_7 rfl rfl ?_
    refine r_sipush 1000 h dX6_isWeight_8 (by decide) ?_
    refine r_icmp_gt 18 h dX6_isWeight_11 (by decide) (fun c11 => ?_) (fun c11 => ?_)
    · refine r_iconst 0 h dX6_isWeight_18 (by decide) ?_
      exact r_zret h hr dX6_isWeight_19 rfl ⟨by simp only [wgtI, c4, c11, ite_true, ite_false, if_true, if_false, not_true, not_false_iff], rfl⟩
    · refine r_iconst 1 h dX6_isWeight_14 (by decide) ?_
      refine r_goto 19 h dX6_isWeight_15 (by decide) ?_
      exact r_zret h hr dX6_isWeight_19 rfl ⟨by simp only [wgtI, c4, c11, ite_true, ite_false, if_true, if_false, not_true, not_false_iff], rfl⟩
set_option maxRecDepth 100000 in
set_option maxHeartbeats 4000000 in
theorem mX6_isPaceNumber (l : Launch) (w : Fx) (S : St) (q : Int32) : Ct l yX6_isPaceNumber cX6_isPaceNumber 1 (some .boolean) 0 w [.int q] S (fun v S' => v = some (.int (pacI q)) ∧ S' = S) := by
  refine Ct.of (by decide) (Nat.le_of_ble_eq_true rfl) (fun X h hr hl hw => ?_)
  subst hl hw
  have h : Ok X cX6_isPaceNumber RX6 0 := h
  show Wx X S 0 [.int q] []
  refine r_iload_n 0 h dX6_isPaceNumber_0 rfl rfl ?_
  refine r_bipush (-32) h dX6_isPaceNumber_1 (by decide) ?_
  refine r_icmp_lt 16 h dX6_isPaceNumber_3 (by decide) (fun c3 => ?_) (fun c3 => ?_)
  · refine r_iconst 0 h dX6_isPaceNumber_16 (by decide) ?_
    exact r_zret h hr dX6_isPaceNumber_17 rfl ⟨by simp only [pacI, c3, ite_true, ite_false, if_true, if_false, not_true, not_false_iff], rfl⟩
  · refine r_iload_n 0 h dX6_isPaceNumber_6 rfl rfl ?_
    refine r_bipush 31 h dX6_isPaceNumber_7 (by decide) ?_
    refine r_icmp_gt 16 h dX6_isPaceNumber_9 (by decide) (fun c9 => ?_) (fun c9 => ?_)
    · refine r_iconst 0 h dX6_isPaceNumber_16 (by decide) ?_
      exact r_zret h hr dX6_isPaceNumber_17 rfl ⟨by simp only [pacI, c3, c9, ite_true, ite_false, if_true, if_false, not_true, not_false_iff], rfl⟩
    · refine r_iconst 1 h dX6_isPaceNumber_12 (by decide) ?_
      refine r_goto 17 h dX6_isPaceNumber_13 (by decide) ?_
      exact r_zret h hr dX6_isPaceNumber_17 rfl ⟨by simp only [pacI, c3, c9, ite_true, ite_false, if_true, if_false, not_true, not_false_iff], rfl⟩
set_option maxRecDepth 100000 in
set_option maxHeartbeats 4000000 in
theorem mX6_isDistance (l : Launch) (w : Fx) (S : St) (q : Int32) : Ct l yX6_isDistance cX6_isDistance 1 (some .boolean) 0 w [.int q] S (fun v S' => v = some (.int (dstI q)) ∧ S' = S) := by
  refine Ct.of (by decide) (Nat.le_of_ble_eq_true rfl) (fun X h hr hl hw => ?_)
  subst hl hw
  have h : Ok X cX6_isDistance RX6 0 := h
  show Wx X S 0 [.int q] []
  refine r_iload_n 0 h dX6_isDistance_0 rfl rfl ?_
  refine r_iconst 1 h dX6_isDistance_1 (by decide) ?_
  refine r_icmp_lt 14 h dX6_isDistance_2 (by decide) (fun c2 => ?_) (fun c2 => ?_)
  · refine r_iconst 0 h dX6_isDistance_14 (by decide) ?_
    exact r_zret h hr dX6_isDistance_15 rfl ⟨by simp only [dstI, c2, ite_true, ite_false, if_true, if_false, not_true, not_false_iff], rfl⟩
  · refine r_iload_n 0 h dX6_isDistance_5 rfl rfl ?_
    refine r_iconst 4 h dX6_isDistance_6 (by decide) ?_
    refine r_icmp_gt 14 h dX6_isDistance_7 (by decide) (fun c7 => ?_) (fun c7 => ?_)
    · refine r_iconst 0 h dX6_isDistance_14 (by decide) ?_
      exact r_zret h hr dX6_isDistance_15 rfl ⟨by simp only [dstI, c2, c7, ite_true, ite_false, if_true, if_false, not_true, not_false_iff], rfl⟩
    · refine r_iconst 1 h dX6_isDistance_10 (by decide) ?_
      refine r_goto 15 h dX6_isDistance_11 (by decide) ?_
      exact r_zret h hr dX6_isDistance_15 rfl ⟨by simp only [dstI, c2, c7, ite_true, ite_false, if_true, if_false, not_true, not_false_iff], rfl⟩
set_option maxRecDepth 100000 in
set_option maxHeartbeats 4000000 in
theorem mX6_isPowers (l : Launch) (w : Fx) (S : St) (a b : Int32) : Ct l yX6_isPowers cX6_isPowers 2 (some .boolean) 0 w [.int a, .int b] S (fun v S' => v = some (.int (pwrI a b)) ∧ S' = S) := by
  refine Ct.of (by decide) (Nat.le_of_ble_eq_true rfl) (fun X h hr hl hw => ?_)
  subst hl hw
  have h : Ok X cX6_isPowers RX6 0 := h
  show Wx X S 0 [.int a, .int b] []
  refine r_iload_n 0 h dX6_isPowers_0 rfl rfl ?_
  refine r_if_lt 24 h dX6_isPowers_1 (by decide) (fun c1 => ?_) (fun c1 => ?_)
  · refine r_iconst 0 h dX6_isPowers_24 (by decide) ?_
    exact r_zret h hr dX6_isPowers_25 rfl ⟨by simp only [pwrI, c1, ite_true, ite_false, if_true, if_false, not_true, not_false_iff], rfl⟩
  · refine r_iload_n 0 h dX6_isPowers_4 rfl rfl ?_
    refine r_iconst 4 h dX6_isPowers_5 (by decide) ?_
    refine r_icmp_gt 24 h dX6_isPowers_6 (by decide) (fun c6 => ?_) (fun c6 => ?_)
    · refine r_iconst 0 h dX6_isPowers_24 (by decide) ?_
      exact r_zret h hr dX6_isPowers_25 rfl ⟨by simp only [pwrI, c1, c6, ite_true, ite_false, if_true, if_false, not_true, not_false_iff], rfl⟩
    · refine r_iload_n 1 h dX6_isPowers_9 rfl rfl ?_
      refine r_if_lt 24 h dX6_isPowers_10 (by decide) (fun c10 => ?_) (fun c10 => ?_)
      · refine r_iconst 0 h dX6_isPowers_24 (by decide) ?_
        exact r_zret h hr dX6_isPowers_25 rfl ⟨by simp only [pwrI, c1, c6, c10, ite_true, ite_false, if_true, if_false, not_true, not_false_iff], rfl⟩
      · refine r_iload_n 1 h dX6_isPowers_13 rfl rfl ?_
        refine r_iconst 4 h dX6_isPowers_14 (by decide) ?_
        refine r_iload_n 0 h dX6_isPowers_15 rfl rfl ?_
        refine r_isub h dX6_isPowers_16 ?_
        refine r_icmp_gt 24 h dX6_isPowers_17 (by decide) (fun c17 => ?_) (fun c17 => ?_)
        · refine r_iconst 0 h dX6_isPowers_24 (by decide) ?_
          exact r_zret h hr dX6_isPowers_25 rfl ⟨by simp only [pwrI, c1, c6, c10, c17, ite_true, ite_false, if_true, if_false, not_true, not_false_iff], rfl⟩
        · refine r_iconst 1 h dX6_isPowers_20 (by decide) ?_
          refine r_goto 25 h dX6_isPowers_21 (by decide) ?_
          exact r_zret h hr dX6_isPowers_25 rfl ⟨by simp only [pwrI, c1, c6, c10, c17, ite_true, ite_false, if_true, if_false, not_true, not_false_iff], rfl⟩
theorem plc_at {x y : Int32} (h : ¬ plcI x y = 0) : ∃ a b : Nat, a < 64 ∧ b < 64 ∧ x = nI a ∧ y = nI b := by
  unfold plcI at h
  by_cases h1 : x < 0
  · rw [if_pos h1] at h; exact absurd rfl h
  rw [if_neg h1] at h
  by_cases h2 : (64 : Int32) ≤ x
  · rw [if_pos h2] at h; exact absurd rfl h
  rw [if_neg h2] at h
  by_cases h3 : y < 0
  · rw [if_pos h3] at h; exact absurd rfl h
  rw [if_neg h3] at h
  by_cases h4 : (64 : Int32) ≤ y
  · rw [if_pos h4] at h; exact absurd rfl h
  obtain ⟨a, ha, rfl⟩ := vp_in_of (ixN (N := 64) (by decide) h1 h2) (by decide)
  obtain ⟨b, hb, rfl⟩ := vp_in_of (ixN (N := 64) (by decide) h3 h4) (by decide)
  exact ⟨a, b, ha, hb, rfl, rfl⟩
theorem dst_at {t : Int32} (h : ¬ dstI t = 0) : ∃ a : Nat, 1 ≤ a ∧ a ≤ 4 ∧ t = nI a := by
  unfold dstI at h
  by_cases h1 : t < 1
  · rw [if_pos h1] at h; exact absurd rfl h
  rw [if_neg h1] at h
  by_cases h2 : (4 : Int32) < t
  · rw [if_pos h2] at h; exact absurd rfl h
  have h0 : ¬ t < 0 := fun z => h1 (Int32.lt_trans z (by decide))
  obtain ⟨a, ha, rfl⟩ := nI_of2 (M := 4) (n := 4) (by decide) h0 (Int32.not_lt.mp h2)
  refine ⟨a, ?_, ha, rfl⟩
  rcases Nat.eq_zero_or_pos a with z | z
  · subst z; exact absurd (by decide) h1
  · exact z
theorem pwr_at {a b : Int32} (h : ¬ pwrI a b = 0) : ∃ i j : Nat, i + j ≤ 4 ∧ a = nI i ∧ b = nI j := by
  unfold pwrI at h
  by_cases h1 : a < 0
  · rw [if_pos h1] at h; exact absurd rfl h
  rw [if_neg h1] at h
  by_cases h2 : (4 : Int32) < a
  · rw [if_pos h2] at h; exact absurd rfl h
  rw [if_neg h2] at h
  by_cases h3 : b < 0
  · rw [if_pos h3] at h; exact absurd rfl h
  rw [if_neg h3] at h
  by_cases h4 : (4 : Int32) - a < b
  · rw [if_pos h4] at h; exact absurd rfl h
  obtain ⟨i, hi, rfl⟩ := nI_of2 (M := 4) (n := 4) (by decide) h1 (Int32.not_lt.mp h2)
  have e : (4 : Int32) - nI i = nI (4 - i) := pk_sub (a := 4) hi
  rw [e] at h4
  obtain ⟨j, hj, rfl⟩ := nI_of2 (M := nI (4 - i)) (n := 4 - i) (nI_toInt (by omega)) h3 (Int32.not_lt.mp h4)
  exact ⟨i, j, by omega, rfl, rfl⟩
theorem slot_N (a b : Nat) : slotI (nI a) (nI b) = nI (a * 5 + b) := by
  unfold slotI
  rw [show (5 : Int32) = nI 5 from rfl, pk_mul, nI_add]
theorem mX6_slotN (l : Launch) (w : Fx) (S : St) (a b : Nat) : Ct l yX6_slot cX6_slot 2 (some .int) 0 w [.int (nI a), .int (nI b)] S (fun v S' => v = some (.int (nI (a * 5 + b))) ∧ S' = S) := by
  have := mX6_slot l w S (nI a) (nI b)
  rwa [slot_N] at this
/-! Horner's way: the sum over k < n of f (m + k) times y to the k-th -/
def hor (f : Nat → Int64) (y : Int64) : Nat → Nat → Int64
  | 0, _ => 0
  | n + 1, m => hor f y n (m + 1) * y + f m
def valP (f : Nat → Int64) (x y : Int64) : Int64 := hor (fun a => hor (fun b => f (a * 5 + b)) y (5 - a) 0) x 5 0
def clrS (S : St) (k : Nat) : Nat → St
  | 0 => S
  | i + 1 => sJ (clrS S k i) k i 0
/-- v times d, n times over -/
def pw (v d : Int64) : Nat → Int64
  | 0 => v
  | n + 1 => pw v d n * d
def waysL (a u b v : Nat) : Int64 := (tabC (a * 5 + u) * tabC (b * 5 + v)).toInt64
def shl4 (x : Int64) (a b : Nat) : Int64 := x <<< (((4 : Int32) - nI a - nI b).toInt64 &&& 63)
def tpart (T : St) (a b : Nat) (c : Int64) (u v : Nat) : Int64 := if (nI u + nI v) &&& 1 = 0 then c * waysL a u b v * T.2 0 (u * 5 + v) else -(c * waysL a u b v * T.2 0 (u * 5 + v))
def adP (T : St) (a b : Nat) (v : Int64) : St := sJ T 2 (a * 5 + b) (T.2 2 (a * 5 + b) + v)
def atV (T : St) (a b : Nat) (c : Int64) (u : Nat) : Nat → St
  | 0 => T
  | v + 1 => adP (atV T a b c u v) (a - u) (b - v) (tpart (atV T a b c u v) a b c u v)
def atU (T : St) (a b : Nat) (c : Int64) (o : Nat) : Nat → St
  | 0 => T
  | u + 1 => atV (atU T a b c o u) a b c u (min (b + 1) (o + 1 - u))
def etB (T : St) (o a : Nat) : Nat → St
  | 0 => T
  | b + 1 => if shl4 ((etB T o a b).2 1 (a * 5 + b)) a b = 0 then etB T o a b else atU (etB T o a b) a b (shl4 ((etB T o a b).2 1 (a * 5 + b)) a b) o (a + 1)
def etA (T : St) (o : Nat) : Nat → St
  | 0 => T
  | a + 1 => etB (etA T o a) o a (5 - a)
def etS (S : St) (o : Nat) : St := etA (clrS S 2 25) o 5
def aeV (T : St) (a b : Nat) (c : Int64) (r : Int32) (u v0 : Nat) : Nat → St
  | 0 => T
  | k + 1 => adP (aeV T a b c r u v0 k) (a - u) (b - (v0 + k)) (c * waysL a u b (v0 + k) * pw 1 r.toInt64 (u + (v0 + k)))
def aeU (T : St) (a b : Nat) (c : Int64) (r : Int32) (o : Nat) : Nat → St
  | 0 => T
  | u + 1 => aeV (aeU T a b c r o u) a b c r u (o + 1 - u) (b + 1 - (o + 1 - u))
def eeB (T : St) (k : Int64) (r : Int32) (o a : Nat) : Nat → St
  | 0 => T
  | b + 1 => if shl4 (absL ((eeB T k r o a b).2 1 (a * 5 + b))) a b = 0 then eeB T k r o a b else aeU (eeB T k r o a b) a b (shl4 (absL ((eeB T k r o a b).2 1 (a * 5 + b))) a b * k) r o (a + 1)
def eeA (T : St) (k : Int64) (r : Int32) (o : Nat) : Nat → St
  | 0 => T
  | a + 1 => eeB (eeA T k r o a) k r o a (5 - a)
def eeS (S : St) (k : Int64) (r : Int32) (o : Nat) : St := eeA (clrS S 2 25) k r o 5
set_option maxRecDepth 100000 in
set_option maxHeartbeats 4000000 in
theorem mX3_get (l : Launch) (w : Fx) (S : St) (a b : Nat) (hab : a * 5 + b < 25) : Ct l yX3_get cX3_get 3 (some .long) 1 w [.ref (aD w 11), .int (nI a), .int (nI b)] S (fun v S' => v = some (.long (S.2 1 (a * 5 + b))) ∧ S' = S) := by
  refine Ct.of (by decide) (Nat.le_of_ble_eq_true rfl) (fun X h hr hl hw => ?_)
  subst hl hw
  have h : Ok X cX3_get RX3 1 := h
  show Wx X S 0 [.ref (aD (xw X) 11), .int (nI a), .int (nI b)] []
  refine r_aload_n 0 h dX3_get_0 rfl rfl ?_
  refine g11_0 h lf_X3_9 dX3_get_1 ?_
  refine r_iload_n 1 h dX3_get_4 rfl rfl ?_
  refine r_iload_n 2 h dX3_get_5 rfl rfl ?_
  refine cN2 h (mX6_slotN _ _ _ a b) kX6_slot ln_X3_15 (by decide) (Nat.le_of_ble_eq_true rfl) dX3_get_6 ?_
  show Wx _ _ 9 _ _
  refine alN_12 h (by omega) dX3_get_9 ?_
  exact r_lret h hr dX3_get_10 ⟨rfl, rfl⟩
set_option maxRecDepth 100000 in
set_option maxHeartbeats 4000000 in
theorem mX3_set (l : Launch) (w : Fx) (S : St) (a b : Nat) (q : Int64) (hab : a * 5 + b < 25) : Ct l yX3_set cX3_set 5 none 1 w [.ref (aD w 11), .int (nI a), .int (nI b), .long q] S (fun v S' => v = none ∧ S' = sJ S 1 (a * 5 + b) q) := by
  refine Ct.of (by decide) (Nat.le_of_ble_eq_true rfl) (fun X h hr hl hw => ?_)
  subst hl hw
  have h : Ok X cX3_set RX3 1 := h
  show Wx X S 0 [.ref (aD (xw X) 11), .int (nI a), .int (nI b), .long q, .null] []
  refine r_aload_n 0 h dX3_set_0 rfl rfl ?_
  refine g11_0 h lf_X3_9 dX3_set_1 ?_
  refine r_iload_n 1 h dX3_set_4 rfl rfl ?_
  refine r_iload_n 2 h dX3_set_5 rfl rfl ?_
  refine cN2 h (mX6_slotN _ _ _ a b) kX6_slot ln_X3_15 (by decide) (Nat.le_of_ble_eq_true rfl) dX3_set_6 ?_
  show Wx _ _ 9 _ _
  refine r_lload_n 3 h dX3_set_9 rfl rfl ?_
  refine asN_12 h (by omega) dX3_set_10 ?_
  exact r_vret h hr dX3_set_11 ⟨rfl, rfl⟩
set_option maxRecDepth 100000 in
set_option maxHeartbeats 4000000 in
theorem mX3_add (l : Launch) (w : Fx) (S : St) (a b : Nat) (q : Int64) (hab : a * 5 + b < 25) : Ct l yX3_add cX3_add 5 none 1 w [.ref (aD w 14), .int (nI a), .int (nI b), .long q] S (fun v S' => v = none ∧ S' = adP S a b q) := by
  refine Ct.of (by decide) (Nat.le_of_ble_eq_true rfl) (fun X h hr hl hw => ?_)
  subst hl hw
  have h : Ok X cX3_add RX3 1 := h
  show Wx X S 0 [.ref (aD (xw X) 14), .int (nI a), .int (nI b), .long q, .null] []
  refine r_aload_n 0 h dX3_add_0 rfl rfl ?_
  refine g14_0 h lf_X3_9 dX3_add_1 ?_
  refine r_iload_n 1 h dX3_add_4 rfl rfl ?_
  refine r_iload_n 2 h dX3_add_5 rfl rfl ?_
  refine cN2 h (mX6_slotN _ _ _ a b) kX6_slot ln_X3_15 (by decide) (Nat.le_of_ble_eq_true rfl) dX3_add_6 ?_
  show Wx _ _ 9 _ _
  refine r_dup2 h dX3_add_9 rfl rfl ?_
  refine alN_15 h (by omega) dX3_add_10 ?_
  refine r_lload_n 3 h dX3_add_11 rfl rfl ?_
  refine r_ladd h dX3_add_12 ?_
  refine asN_15 h (by omega) dX3_add_13 ?_
  exact r_vret h hr dX3_add_14 ⟨rfl, rfl⟩
set_option maxRecDepth 100000 in
set_option maxHeartbeats 4000000 in
theorem mX3_clear (l : Launch) (w : Fx) (S : St) : Ct l yX3_clear cX3_clear 2 none 0 w [.ref (aD w 14)] S (fun v S' => v = none ∧ S' = clrS S 2 25) := by
  refine Ct.of (by decide) (Nat.le_of_ble_eq_true rfl) (fun X h hr hl hw => ?_)
  subst hl hw
  have h : Ok X cX3_clear RX3 0 := h
  show Wx X S 0 [.ref (aD (xw X) 14), .null] []
  have loop : ∀ n i : Nat, i + n = 25 → Wx X (clrS S 2 i) 2 [.ref (aD (xw X) 14), .int (nI i)] [] := by
    intro n
    induction n with
    | zero =>
      intro i hi
      have hi : i = 25 := by omega
      subst hi
      refine r_iload_n 1 h dX3_clear_2 rfl rfl ?_
      refine r_bipush 25 h dX3_clear_3 (by decide) ?_
      refine r_icmp_ge_t 21 h dX3_clear_5 (by decide) (bigT (a := 25) (by omega) (by omega)) ?_
      exact r_vret h hr dX3_clear_21 ⟨rfl, rfl⟩
    | succ n ih =>
      intro i hi
      have hq := ih (i + 1) (by omega)
      unfold clrS at hq
      refine r_iload_n 1 h dX3_clear_2 rfl rfl ?_
      refine r_bipush 25 h dX3_clear_3 (by decide) ?_
      refine r_icmp_ge_f 21 h dX3_clear_5 (by decide) (bigF (a := 25) (by omega) (by omega)) ?_
      refine r_aload_n 0 h dX3_clear_8 rfl rfl ?_
      refine g14_0 h lf_X3_9 dX3_clear_9 ?_
      show Wx _ _ 12 _ _
      refine r_iload_n 1 h dX3_clear_12 rfl rfl ?_
      refine r_lconst 0 h dX3_clear_13 (by decide) ?_
      refine asN_15 h (by omega) dX3_clear_14 ?_
      refine r_iincN h dX3_clear_15 rfl ?_
      show Wx _ _ _ [_, _] _
      refine r_goto 2 h dX3_clear_18 (by decide) ?_
      exact hq
  refine r_iconst 0 h dX3_clear_0 (by decide) ?_
  refine r_istore_n 1 h dX3_clear_1 rfl (Nat.le_of_ble_eq_true rfl) ?_
  show Wx _ _ _ [_, _] _
  exact loop 25 0 rfl
set_option maxRecDepth 100000 in
set_option maxHeartbeats 4000000 in
theorem mX3_valueAt11 (l : Launch) (w : Fx) (S : St) (x y : Int64) : Ct l yX3_valueAt cX3_valueAt 11 (some .long) 1 w [.ref (aD w 11), .long x, .long y] S (fun v S' => v = some (.long (valP (S.2 1) x y)) ∧ S' = S) := by
  refine Ct.of (by decide) (Nat.le_of_ble_eq_true rfl) (fun X h hr hl hw => ?_)
  subst hl hw
  have h : Ok X cX3_valueAt RX3 1 := h
  show Wx X S 0 [.ref (aD (xw X) 11), .long x, .null, .long y, .null, .null, .null, .null, .null, .null, .null] []
  have loop : ∀ a cnt : Nat, a + cnt = 5 → Wx X S 6 [.ref (aD (xw X) 11), .long x, .null, .long y, .null, .long (hor (fun a => hor (fun b => S.2 1 (a * 5 + b)) y (5 - a) 0) x cnt a), .null, .int (pI a), .null, .null, .null] [] := by
    intro a
    induction a with
    | zero =>
      intro cnt hc
      have hc : cnt = 5 := by omega
      subst hc
      refine r_iload h dX3_valueAt_6 rfl ?_
      refine r_if_lt_t 65 h dX3_valueAt_8 (by decide) pI_0 ?_
      refine r_lload h dX3_valueAt_65 rfl ?_
      exact r_lret h hr dX3_valueAt_67 ⟨rfl, rfl⟩
    | succ a iha =>
      intro cnt hc
      have hq := iha (cnt + 1) (by omega)
      rw [pI_s]
      have inner : ∀ m n : Nat, m + n = 5 - a → Wx X S 20 [.ref (aD (xw X) 11), .long x, .null, .long y, .null, .long (hor (fun a => hor (fun b => S.2 1 (a * 5 + b)) y (5 - a) 0) x cnt (a + 1)), .null, .int (nI a), .long (hor (fun b => S.2 1 (a * 5 + b)) y n m), .null, .int (pI m)] [] := by
        intro m
        induction m with
        | zero =>
          intro n hn
          have hn : n = 5 - a := by omega
          subst hn
          refine r_iload h dX3_valueAt_20 rfl ?_
          refine r_if_lt_t 50 h dX3_valueAt_22 (by decide) pI_0 ?_
          refine r_lload h dX3_valueAt_50 rfl ?_
          refine r_lload_n 1 h dX3_valueAt_52 rfl rfl ?_
          refine r_lmul h dX3_valueAt_53 ?_
          show Wx _ _ 54 _ _
          refine r_lload h dX3_valueAt_54 rfl ?_
          refine r_ladd h dX3_valueAt_56 ?_
          refine r_lstore h dX3_valueAt_57 (Nat.le_of_ble_eq_true rfl) ?_
          show Wx _ _ _ [_, _, _, _, _, _, _, _, _, _, _] _
          refine r_iinc (-1) h dX3_valueAt_59 (by decide) rfl ?_
          show Wx _ _ _ [_, _, _, _, _, _, _, .int (nI a + (-1)), _, _, _] _
          rw [← pI_s a, pI_d]
          refine Wx.weak (lv' := [.ref (aD (xw X) 11), .long x, .null, .long y, .null, .long (hor (fun a => hor (fun b => S.2 1 (a * 5 + b)) y (5 - a) 0) x (cnt + 1) a), .null, .int (pI a), .null, .null, .null]) (And.intro rfl (And.intro rfl (And.intro rfl (And.intro rfl (And.intro rfl trivial))))) ?_
          refine r_goto 6 h dX3_valueAt_62 (by decide) ?_
          exact hq
        | succ m ihm =>
          intro n hn
          have hp := ihm (n + 1) (by omega)
          rw [pI_s]
          refine r_iload h dX3_valueAt_20 rfl ?_
          refine r_if_lt_f 50 h dX3_valueAt_22 (by decide) (nI_pos (by omega)) ?_
          refine r_lload h dX3_valueAt_25 rfl ?_
          refine r_lload_n 3 h dX3_valueAt_27 rfl rfl ?_
          refine r_lmul h dX3_valueAt_28 ?_
          show Wx _ _ 29 _ _
          refine r_aload_n 0 h dX3_valueAt_29 rfl rfl ?_
          refine g11_0 h lf_X3_9 dX3_valueAt_30 ?_
          refine r_iload h dX3_valueAt_33 rfl ?_
          refine r_iload h dX3_valueAt_35 rfl ?_
          refine cN2 h (mX6_slotN _ _ _ a m) kX6_slot ln_X3_15 (by decide) (Nat.le_of_ble_eq_true rfl) dX3_valueAt_37 ?_
          refine alN_12 h (by omega) dX3_valueAt_40 ?_
          show Wx _ _ 41 _ _
          refine r_ladd h dX3_valueAt_41 ?_
          refine r_lstore h dX3_valueAt_42 (Nat.le_of_ble_eq_true rfl) ?_
          show Wx _ _ _ [_, _, _, _, _, _, _, _, _, _, _] _
          refine r_iinc (-1) h dX3_valueAt_44 (by decide) rfl ?_
          show Wx _ _ _ [_, _, _, _, _, _, _, _, _, _, _] _
          refine r_goto 20 h dX3_valueAt_47 (by decide) ?_
          rw [← pI_s m, pI_d]
          exact hp
      refine r_iload h dX3_valueAt_6 rfl ?_
      refine r_if_lt_f 65 h dX3_valueAt_8 (by decide) (nI_pos (by omega)) ?_
      refine r_lconst 0 h dX3_valueAt_11 (by decide) ?_
      refine r_lstore h dX3_valueAt_12 (Nat.le_of_ble_eq_true rfl) ?_
      show Wx _ _ _ [_, _, _, _, _, _, _, _, _, _, _] _
      refine r_iconst 4 h dX3_valueAt_14 (by decide) ?_
      show Wx _ _ 15 _ _
      refine r_iload h dX3_valueAt_15 rfl ?_
      refine r_isub h dX3_valueAt_17 ?_
      have e9 : (4 : Int32) - nI a = pI (5 - a) := by
        rw [show 5 - a = (4 - a) + 1 by omega, pI_s]
        exact pk_sub (a := 4) (by omega)
      rw [e9]
      refine r_istore h dX3_valueAt_18 (Nat.le_of_ble_eq_true rfl) ?_
      show Wx _ _ _ [_, _, _, _, _, _, _, _, _, _, _] _
      exact inner (5 - a) 0 (by omega)
  refine r_lconst 0 h dX3_valueAt_0 (by decide) ?_
  refine r_lstore h dX3_valueAt_1 (Nat.le_of_ble_eq_true rfl) ?_
  show Wx _ _ _ [_, _, _, _, _, _, _, _, _, _, _] _
  refine r_iconst 4 h dX3_valueAt_3 (by decide) ?_
  refine r_istore h dX3_valueAt_4 (Nat.le_of_ble_eq_true rfl) ?_
  show Wx _ _ _ [_, _, _, _, _, _, _, _, _, _, _] _
  exact loop 5 0 rfl
set_option maxRecDepth 100000 in
set_option maxHeartbeats 4000000 in
theorem mX3_valueAt14 (l : Launch) (w : Fx) (S : St) (x y : Int64) : Ct l yX3_valueAt cX3_valueAt 11 (some .long) 1 w [.ref (aD w 14), .long x, .long y] S (fun v S' => v = some (.long (valP (S.2 2) x y)) ∧ S' = S) := by
  refine Ct.of (by decide) (Nat.le_of_ble_eq_true rfl) (fun X h hr hl hw => ?_)
  subst hl hw
  have h : Ok X cX3_valueAt RX3 1 := h
  show Wx X S 0 [.ref (aD (xw X) 14), .long x, .null, .long y, .null, .null, .null, .null, .null, .null, .null] []
  have loop : ∀ a cnt : Nat, a + cnt = 5 → Wx X S 6 [.ref (aD (xw X) 14), .long x, .null, .long y, .null, .long (hor (fun a => hor (fun b => S.2 2 (a * 5 + b)) y (5 - a) 0) x cnt a), .null, .int (pI a), .null, .null, .null] [] := by
    intro a
    induction a with
    | zero =>
      intro cnt hc
      have hc : cnt = 5 := by omega
      subst hc
      refine r_iload h dX3_valueAt_6 rfl ?_
      refine r_if_lt_t 65 h dX3_valueAt_8 (by decide) pI_0 ?_
      refine r_lload h dX3_valueAt_65 rfl ?_
      exact r_lret h hr dX3_valueAt_67 ⟨rfl, rfl⟩
    | succ a iha =>
      intro cnt hc
      have hq := iha (cnt + 1) (by omega)
      rw [pI_s]
      have inner : ∀ m n : Nat, m + n = 5 - a → Wx X S 20 [.ref (aD (xw X) 14), .long x, .null, .long y, .null, .long (hor (fun a => hor (fun b => S.2 2 (a * 5 + b)) y (5 - a) 0) x cnt (a + 1)), .null, .int (nI a), .long (hor (fun b => S.2 2 (a * 5 + b)) y n m), .null, .int (pI m)] [] := by
        intro m
        induction m with
        | zero =>
          intro n hn
          have hn : n = 5 - a := by omega
          subst hn
          refine r_iload h dX3_valueAt_20 rfl ?_
          refine r_if_lt_t 50 h dX3_valueAt_22 (by decide) pI_0 ?_
          refine r_lload h dX3_valueAt_50 rfl ?_
          refine r_lload_n 1 h dX3_valueAt_52 rfl rfl ?_
          refine r_lmul h dX3_valueAt_53 ?_
          show Wx _ _ 54 _ _
          refine r_lload h dX3_valueAt_54 rfl ?_
          refine r_ladd h dX3_valueAt_56 ?_
          refine r_lstore h dX3_valueAt_57 (Nat.le_of_ble_eq_true rfl) ?_
          show Wx _ _ _ [_, _, _, _, _, _, _, _, _, _, _] _
          refine r_iinc (-1) h dX3_valueAt_59 (by decide) rfl ?_
          show Wx _ _ _ [_, _, _, _, _, _, _, .int (nI a + (-1)), _, _, _] _
          rw [← pI_s a, pI_d]
          refine Wx.weak (lv' := [.ref (aD (xw X) 14), .long x, .null, .long y, .null, .long (hor (fun a => hor (fun b => S.2 2 (a * 5 + b)) y (5 - a) 0) x (cnt + 1) a), .null, .int (pI a), .null, .null, .null]) (And.intro rfl (And.intro rfl (And.intro rfl (And.intro rfl (And.intro rfl trivial))))) ?_
          refine r_goto 6 h dX3_valueAt_62 (by decide) ?_
          exact hq
        | succ m ihm =>
          intro n hn
          have hp := ihm (n + 1) (by omega)
          rw [pI_s]
          refine r_iload h dX3_valueAt_20 rfl ?_
          refine r_if_lt_f 50 h dX3_valueAt_22 (by decide) (nI_pos (by omega)) ?_
          refine r_lload h dX3_valueAt_25 rfl ?_
          refine r_lload_n 3 h dX3_valueAt_27 rfl rfl ?_
          refine r_lmul h dX3_valueAt_28 ?_
          show Wx _ _ 29 _ _
          refine r_aload_n 0 h dX3_valueAt_29 rfl rfl ?_
          refine g14_0 h lf_X3_9 dX3_valueAt_30 ?_
          refine r_iload h dX3_valueAt_33 rfl ?_
          refine r_iload h dX3_valueAt_35 rfl ?_
          refine cN2 h (mX6_slotN _ _ _ a m) kX6_slot ln_X3_15 (by decide) (Nat.le_of_ble_eq_true rfl) dX3_valueAt_37 ?_
          refine alN_15 h (by omega) dX3_valueAt_40 ?_
          show Wx _ _ 41 _ _
          refine r_ladd h dX3_valueAt_41 ?_
          refine r_lstore h dX3_valueAt_42 (Nat.le_of_ble_eq_true rfl) ?_
          show Wx _ _ _ [_, _, _, _, _, _, _, _, _, _, _] _
          refine r_iinc (-1) h dX3_valueAt_44 (by decide) rfl ?_
          show Wx _ _ _ [_, _, _, _, _, _, _, _, _, _, _] _
          refine r_goto 20 h dX3_valueAt_47 (by decide) ?_
          rw [← pI_s m, pI_d]
          exact hp
      refine r_iload h dX3_valueAt_6 rfl ?_
      refine r_if_lt_f 65 h dX3_valueAt_8 (by decide) (nI_pos (by omega)) ?_
      refine r_lconst 0 h dX3_valueAt_11 (by decide) ?_
      refine r_lstore h dX3_valueAt_12 (Nat.le_of_ble_eq_true rfl) ?_
      show Wx _ _ _ [_, _, _, _, _, _, _, _, _, _, _] _
      refine r_iconst 4 h dX3_valueAt_14 (by decide) ?_
      show Wx _ _ 15 _ _
      refine r_iload h dX3_valueAt_15 rfl ?_
      refine r_isub h dX3_valueAt_17 ?_
      have e9 : (4 : Int32) - nI a = pI (5 - a) := by
        rw [show 5 - a = (4 - a) + 1 by omega, pI_s]
        exact pk_sub (a := 4) (by omega)
      rw [e9]
      refine r_istore h dX3_valueAt_18 (Nat.le_of_ble_eq_true rfl) ?_
      show Wx _ _ _ [_, _, _, _, _, _, _, _, _, _, _] _
      exact inner (5 - a) 0 (by omega)
  refine r_lconst 0 h dX3_valueAt_0 (by decide) ?_
  refine r_lstore h dX3_valueAt_1 (Nat.le_of_ble_eq_true rfl) ?_
  show Wx _ _ _ [_, _, _, _, _, _, _, _, _, _, _] _
  refine r_iconst 4 h dX3_valueAt_3 (by decide) ?_
  refine r_istore h dX3_valueAt_4 (Nat.le_of_ble_eq_true rfl) ?_
  show Wx _ _ _ [_, _, _, _, _, _, _, _, _, _, _] _
  exact loop 5 0 rfl
end
section
theorem pk_subN {a b : Nat} (h : b ≤ a) : nI a - nI b = nI (a - b) := pk_sub h
theorem atV_s {T : St} {a b u v : Nat} {c : Int64} : atV T a b c u (v + 1) = adP (atV T a b c u v) (a - u) (b - v) (tpart (atV T a b c u v) a b c u v) := rfl
theorem atU_s {T : St} {a b o u : Nat} {c : Int64} : atU T a b c o (u + 1) = atV (atU T a b c o u) a b c u (min (b + 1) (o + 1 - u)) := rfl
theorem etB_s {T : St} {o a b : Nat} : etB T o a (b + 1) = if shl4 ((etB T o a b).2 1 (a * 5 + b)) a b = 0 then etB T o a b else atU (etB T o a b) a b (shl4 ((etB T o a b).2 1 (a * 5 + b)) a b) o (a + 1) := rfl
theorem etA_s {T : St} {o a : Nat} : etA T o (a + 1) = etB (etA T o a) o a (5 - a) := rfl
theorem aeV_s {T : St} {a b u v0 k : Nat} {c : Int64} {r : Int32} : aeV T a b c r u v0 (k + 1) = adP (aeV T a b c r u v0 k) (a - u) (b - (v0 + k)) (c * waysL a u b (v0 + k) * pw 1 r.toInt64 (u + (v0 + k))) := rfl
theorem aeU_s {T : St} {a b o u : Nat} {c : Int64} {r : Int32} : aeU T a b c r o (u + 1) = aeV (aeU T a b c r o u) a b c r u (o + 1 - u) (b + 1 - (o + 1 - u)) := rfl
theorem eeB_s {T : St} {k : Int64} {r : Int32} {o a b : Nat} : eeB T k r o a (b + 1) = if shl4 (absL ((eeB T k r o a b).2 1 (a * 5 + b))) a b = 0 then eeB T k r o a b else aeU (eeB T k r o a b) a b (shl4 (absL ((eeB T k r o a b).2 1 (a * 5 + b))) a b * k) r o (a + 1) := rfl
theorem eeA_s {T : St} {k : Int64} {r : Int32} {o a : Nat} : eeA T k r o (a + 1) = eeB (eeA T k r o a) k r o a (5 - a) := rfl
theorem max_N {o u : Nat} (ho : o ≤ 4) (hu : u ≤ 5) : maxI 0 (nI o + 1 - nI u) = nI (o + 1 - u) := by
  have key : ∀ o : Fin 5, ∀ u : Fin 6, maxI 0 (nI o.val + 1 - nI u.val) = nI (o.val + 1 - u.val) := by decide +kernel
  exact key ⟨o, by omega⟩ ⟨u, by omega⟩
set_option maxRecDepth 100000 in
set_option maxHeartbeats 4000000 in
theorem mX4_waysToChoose (l : Launch) (w : Fx) (S : St) (a u b q : Nat) (h1 : a * 5 + u < 25) (h2 : b * 5 + q < 25) : Ct l yX4_waysToChoose cX4_waysToChoose 4 (some .long) 1 w [.int (nI a), .int (nI u), .int (nI b), .int (nI q)] S (fun v S' => v = some (.long (waysL a u b q)) ∧ S' = S) := by
  refine Ct.of (by decide) (Nat.le_of_ble_eq_true rfl) (fun X h hr hl hw => ?_)
  subst hl hw
  have h : Ok X cX4_waysToChoose RX4 1 := h
  show Wx X S 0 [.int (nI a), .int (nI u), .int (nI b), .int (nI q)] []
  refine gs_2 h lf_X4_61 dX4_waysToChoose_0 ?_
  refine r_iload_n 0 h dX4_waysToChoose_3 rfl rfl ?_
  refine r_iload_n 1 h dX4_waysToChoose_4 rfl rfl ?_
  refine cN2 h (mX6_slotN _ _ _ a u) kX6_slot ln_X4_46 (by decide) (Nat.le_of_ble_eq_true rfl) dX4_waysToChoose_5 ?_
  refine atN_2 h (by omega) dX4_waysToChoose_8 ?_
  show Wx _ _ 9 _ _
  refine gs_2 h lf_X4_61 dX4_waysToChoose_9 ?_
  refine r_iload_n 2 h dX4_waysToChoose_12 rfl rfl ?_
  refine r_iload_n 3 h dX4_waysToChoose_13 rfl rfl ?_
  refine cN2 h (mX6_slotN _ _ _ b q) kX6_slot ln_X4_46 (by decide) (Nat.le_of_ble_eq_true rfl) dX4_waysToChoose_14 ?_
  refine atN_2 h (by omega) dX4_waysToChoose_17 ?_
  refine r_imul h dX4_waysToChoose_18 ?_
  show Wx _ _ 19 _ _
  refine r_i2l h dX4_waysToChoose_19 ?_
  exact r_lret h hr dX4_waysToChoose_20 ⟨rfl, rfl⟩
set_option maxRecDepth 100000 in
set_option maxHeartbeats 4000000 in
theorem mX4_power (l : Launch) (w : Fx) (S : St) (x : Int64) (k : Nat) (hk : k < 2 ^ 31) : Ct l yX4_power cX4_power 6 (some .long) 0 w [.long x, .int (nI k)] S (fun v S' => v = some (.long (pw 1 x k)) ∧ S' = S) := by
  refine Ct.of (by decide) (Nat.le_of_ble_eq_true rfl) (fun X h hr hl hw => ?_)
  subst hl hw
  have h : Ok X cX4_power RX4 0 := h
  show Wx X S 0 [.long x, .null, .int (nI k), .null, .null, .null] []
  have loop : ∀ n i : Nat, i + n = k → Wx X (S) 5 [.long x, .null, .int (nI k), .long (pw 1 x i), .null, .int (nI i)] [] := by
    intro n
    induction n with
    | zero =>
      intro i hi
      have hi : i = k := by omega
      subst hi
      refine r_iload h dX4_power_5 rfl ?_
      refine r_iload_n 2 h dX4_power_7 rfl rfl ?_
      refine r_icmp_ge_t 21 h dX4_power_8 (by decide) (bigT (by omega) (by omega)) ?_
      refine r_lload_n 3 h dX4_power_21 rfl rfl ?_
      exact r_lret h hr dX4_power_22 ⟨rfl, rfl⟩
    | succ n ih =>
      intro i hi
      have hq := ih (i + 1) (by omega)
      refine r_iload h dX4_power_5 rfl ?_
      refine r_iload_n 2 h dX4_power_7 rfl rfl ?_
      refine r_icmp_ge_f 21 h dX4_power_8 (by decide) (bigF (by omega) (by omega)) ?_
      refine r_lload_n 3 h dX4_power_11 rfl rfl ?_
      refine r_lload_n 0 h dX4_power_12 rfl rfl ?_
      show Wx _ _ 13 _ _
      refine r_lmul h dX4_power_13 ?_
      refine r_lstore_n 3 h dX4_power_14 rfl (Nat.le_of_ble_eq_true rfl) ?_
      show Wx _ _ _ [_, _, _, _, _, _] _
      refine r_iincN h dX4_power_15 rfl ?_
      show Wx _ _ _ [_, _, _, _, _, _] _
      refine r_goto 5 h dX4_power_18 (by decide) ?_
      exact hq
  refine r_lconst 1 h dX4_power_0 (by decide) ?_
  refine r_lstore_n 3 h dX4_power_1 rfl (Nat.le_of_ble_eq_true rfl) ?_
  show Wx _ _ _ [_, _, _, _, _, _] _
  refine r_iconst 0 h dX4_power_2 (by decide) ?_
  refine r_istore h dX4_power_3 (Nat.le_of_ble_eq_true rfl) ?_
  show Wx _ _ _ [_, _, _, _, _, _] _
  exact loop k 0 (by omega)
set_option maxRecDepth 100000 in
set_option maxHeartbeats 4000000 in
theorem mX4_addTermParts (l : Launch) (w : Fx) (S : St) (a b : Nat) (c : Int64) (o : Nat) (hab : a + b ≤ 4) (ho : o ≤ 4) : Ct l yX4_addTermParts cX4_addTermParts 11 none 2 w [.ref (aD w 13), .int (nI a), .int (nI b), .long c, .ref (aD w 10), .int (nI o)] S (fun v S' => v = none ∧ S' = atU S a b c o (a + 1)) := by
  refine Ct.of (by decide) (Nat.le_of_ble_eq_true rfl) (fun X h hr hl hw => ?_)
  subst hl hw
  have h : Ok X cX4_addTermParts RX4 2 := h
  show Wx X S 0 [.ref (aD (xw X) 13), .int (nI a), .int (nI b), .long c, .null, .ref (aD (xw X) 10), .int (nI o), .null, .null, .null, .null] []
  have loop : ∀ n u : Nat, u + n = a + 1 → Wx X (atU S a b c o u) 3 [.ref (aD (xw X) 13), .int (nI a), .int (nI b), .long c, .null, .ref (aD (xw X) 10), .int (nI o), .int (nI u), .null, .null, .null] [] := by
    intro n
    induction n with
    | zero =>
      intro u hu
      have hu : u = a + 1 := by omega
      subst hu
      refine r_iload h dX4_addTermParts_3 rfl ?_
      refine r_iload_n 1 h dX4_addTermParts_5 rfl rfl ?_
      refine r_icmp_gt_t 97 h dX4_addTermParts_6 (by decide) (gtT (by omega) (by omega)) ?_
      exact r_vret h hr dX4_addTermParts_97 ⟨rfl, rfl⟩
    | succ n ih =>
      intro u hu
      have hq := ih (u + 1) (by omega)
      rw [atU_s] at hq
      generalize hT : atU S a b c o u = T at hq ⊢
      generalize hN : min (b + 1) (o + 1 - u) = N at hq
      have inner : ∀ n v : Nat, v + n = N → Wx X (atV T a b c u v) 12 [.ref (aD (xw X) 13), .int (nI a), .int (nI b), .long c, .null, .ref (aD (xw X) 10), .int (nI o), .int (nI u), .int (nI v), .null, .null] [] := by
        intro n
        induction n with
        | zero =>
          intro v hv
          have hv : v = N := by omega
          subst hv
          by_cases hb : b < v
          · refine r_iload h dX4_addTermParts_12 rfl ?_
            refine r_iload_n 2 h dX4_addTermParts_14 rfl rfl ?_
            refine r_icmp_gt_t 91 h dX4_addTermParts_15 (by decide) (gtT (by omega) (by omega)) ?_
            refine r_iincN h dX4_addTermParts_91 rfl ?_
            show Wx _ _ _ [_, _, _, _, _, _, _, _, _, _, _] _
            refine r_goto 3 h dX4_addTermParts_94 (by decide) ?_
            exact Wx.weak (lv' := [.ref (aD (xw X) 13), .int (nI a), .int (nI b), .long c, .null, .ref (aD (xw X) 10), .int (nI o), .int (nI (u + 1)), .null, .null, .null]) (And.intro rfl (And.intro rfl (And.intro rfl (And.intro rfl (And.intro rfl (And.intro rfl (And.intro rfl trivial))))))) (hq)
          · refine r_iload h dX4_addTermParts_12 rfl ?_
            refine r_iload_n 2 h dX4_addTermParts_14 rfl rfl ?_
            refine r_icmp_gt_f 91 h dX4_addTermParts_15 (by decide) (gtF (by omega) (by omega)) ?_
            refine r_iload h dX4_addTermParts_18 rfl ?_
            refine r_iload h dX4_addTermParts_20 rfl ?_
            show Wx _ _ 22 _ _
            refine r_iadd h dX4_addTermParts_22 ?_
            refine r_iload h dX4_addTermParts_23 rfl ?_
            refine r_icmp_gt_t 91 h dX4_addTermParts_25 (by decide) (by rw [nI_add]; exact gtT (by omega) (by omega)) ?_
            refine r_iincN h dX4_addTermParts_91 rfl ?_
            show Wx _ _ _ [_, _, _, _, _, _, _, _, _, _, _] _
            refine r_goto 3 h dX4_addTermParts_94 (by decide) ?_
            exact Wx.weak (lv' := [.ref (aD (xw X) 13), .int (nI a), .int (nI b), .long c, .null, .ref (aD (xw X) 10), .int (nI o), .int (nI (u + 1)), .null, .null, .null]) (And.intro rfl (And.intro rfl (And.intro rfl (And.intro rfl (And.intro rfl (And.intro rfl (And.intro rfl trivial))))))) (hq)
        | succ n ihv =>
          intro v hv
          have hp := ihv (v + 1) (by omega)
          rw [atV_s, tpart] at hp
          refine r_iload h dX4_addTermParts_12 rfl ?_
          refine r_iload_n 2 h dX4_addTermParts_14 rfl rfl ?_
          refine r_icmp_gt_f 91 h dX4_addTermParts_15 (by decide) (gtF (by omega) (by omega)) ?_
          refine r_iload h dX4_addTermParts_18 rfl ?_
          refine r_iload h dX4_addTermParts_20 rfl ?_
          show Wx _ _ 22 _ _
          refine r_iadd h dX4_addTermParts_22 ?_
          refine r_iload h dX4_addTermParts_23 rfl ?_
          refine r_icmp_gt_f 91 h dX4_addTermParts_25 (by decide) (by rw [nI_add]; exact gtF (by omega) (by omega)) ?_
          refine r_lload_n 3 h dX4_addTermParts_28 rfl rfl ?_
          refine r_iload_n 1 h dX4_addTermParts_29 rfl rfl ?_
          refine r_iload h dX4_addTermParts_30 rfl ?_
          show Wx _ _ 32 _ _
          refine r_iload_n 2 h dX4_addTermParts_32 rfl rfl ?_
          refine r_iload h dX4_addTermParts_33 rfl ?_
          refine cS4 h (mX4_waysToChoose _ _ _ a u b v (by omega) (by omega)) kX4_waysToChoose lm_X4_42 (by decide) (Nat.le_of_ble_eq_true rfl) dX4_addTermParts_35 ?_
          refine r_lmul h dX4_addTermParts_38 ?_
          refine r_aload h dX4_addTermParts_39 rfl ?_
          refine r_iload h dX4_addTermParts_41 rfl ?_
          show Wx _ _ 43 _ _
          refine r_iload h dX4_addTermParts_43 rfl ?_
          refine cN2 h (mX6_slotN _ _ _ u v) kX6_slot ln_X4_46 (by decide) (Nat.le_of_ble_eq_true rfl) dX4_addTermParts_45 ?_
          refine alN_10 h (by omega) dX4_addTermParts_48 ?_
          refine r_lmul h dX4_addTermParts_49 ?_
          refine r_lstore h dX4_addTermParts_50 (Nat.le_of_ble_eq_true rfl) ?_
          show Wx _ _ _ [_, _, _, _, _, _, _, _, _, _, _] _
          refine r_aload_n 0 h dX4_addTermParts_52 rfl rfl ?_
          show Wx _ _ 53 _ _
          refine g13_1 h lf_X4_12 dX4_addTermParts_53 ?_
          refine r_iload_n 1 h dX4_addTermParts_56 rfl rfl ?_
          refine r_iload h dX4_addTermParts_57 rfl ?_
          refine r_isub h dX4_addTermParts_59 ?_
          rw [pk_subN (show u ≤ a by omega)]
          refine r_iload_n 2 h dX4_addTermParts_60 rfl rfl ?_
          refine r_iload h dX4_addTermParts_61 rfl ?_
          show Wx _ _ 63 _ _
          refine r_isub h dX4_addTermParts_63 ?_
          rw [pk_subN (show v ≤ b by omega)]
          refine r_iload h dX4_addTermParts_64 rfl ?_
          refine r_iload h dX4_addTermParts_66 rfl ?_
          refine r_iadd h dX4_addTermParts_68 ?_
          refine r_iconst 1 h dX4_addTermParts_69 (by decide) ?_
          refine r_iand h dX4_addTermParts_70 ?_
          show Wx _ _ 71 _ _
          refine r_if_ne 79 h dX4_addTermParts_71 (by decide) (fun c71 => ?_) (fun c71 => ?_)
          · refine r_lload h dX4_addTermParts_79 rfl ?_
            refine r_lneg h dX4_addTermParts_81 ?_
            refine cV3v h (mX3_add _ _ _ (a - u) (b - v) _ (by omega)) kX3_add lm_X4_50 (by decide) 14 (pl_14 _ _) rfl (Nat.le_of_ble_eq_true rfl) dX4_addTermParts_82 ?_
            refine r_iincN h dX4_addTermParts_85 rfl ?_
            show Wx _ _ _ [_, _, _, _, _, _, _, _, _, _, _] _
            refine r_goto 12 h dX4_addTermParts_88 (by decide) ?_
            first
              | (rw [if_neg c71] at hp; exact Wx.weak (lv' := [.ref (aD (xw X) 13), .int (nI a), .int (nI b), .long c, .null, .ref (aD (xw X) 10), .int (nI o), .int (nI u), .int (nI (v + 1)), .null, .null]) (And.intro rfl (And.intro rfl (And.intro rfl (And.intro rfl (And.intro rfl (And.intro rfl (And.intro rfl (And.intro rfl trivial)))))))) (hp))
              | (rw [if_pos c71] at hp; exact Wx.weak (lv' := [.ref (aD (xw X) 13), .int (nI a), .int (nI b), .long c, .null, .ref (aD (xw X) 10), .int (nI o), .int (nI u), .int (nI (v + 1)), .null, .null]) (And.intro rfl (And.intro rfl (And.intro rfl (And.intro rfl (And.intro rfl (And.intro rfl (And.intro rfl (And.intro rfl trivial)))))))) (hp))
          · refine r_lload h dX4_addTermParts_74 rfl ?_
            refine r_goto 82 h dX4_addTermParts_76 (by decide) ?_
            refine cV3v h (mX3_add _ _ _ (a - u) (b - v) _ (by omega)) kX3_add lm_X4_50 (by decide) 14 (pl_14 _ _) rfl (Nat.le_of_ble_eq_true rfl) dX4_addTermParts_82 ?_
            refine r_iincN h dX4_addTermParts_85 rfl ?_
            show Wx _ _ _ [_, _, _, _, _, _, _, _, _, _, _] _
            refine r_goto 12 h dX4_addTermParts_88 (by decide) ?_
            first
              | (rw [if_neg c71] at hp; exact Wx.weak (lv' := [.ref (aD (xw X) 13), .int (nI a), .int (nI b), .long c, .null, .ref (aD (xw X) 10), .int (nI o), .int (nI u), .int (nI (v + 1)), .null, .null]) (And.intro rfl (And.intro rfl (And.intro rfl (And.intro rfl (And.intro rfl (And.intro rfl (And.intro rfl (And.intro rfl trivial)))))))) (hp))
              | (rw [if_pos c71] at hp; exact Wx.weak (lv' := [.ref (aD (xw X) 13), .int (nI a), .int (nI b), .long c, .null, .ref (aD (xw X) 10), .int (nI o), .int (nI u), .int (nI (v + 1)), .null, .null]) (And.intro rfl (And.intro rfl (And.intro rfl (And.intro rfl (And.intro rfl (And.intro rfl (And.intro rfl (And.intro rfl trivial)))))))) (hp))
      refine r_iload h dX4_addTermParts_3 rfl ?_
      refine r_iload_n 1 h dX4_addTermParts_5 rfl rfl ?_
      refine r_icmp_gt_f 97 h dX4_addTermParts_6 (by decide) (gtF (by omega) (by omega)) ?_
      refine r_iconst 0 h dX4_addTermParts_9 (by decide) ?_
      refine r_istore h dX4_addTermParts_10 (Nat.le_of_ble_eq_true rfl) ?_
      show Wx _ _ _ [_, _, _, _, _, _, _, _, _, _, _] _
      exact inner N 0 (by omega)
  refine r_iconst 0 h dX4_addTermParts_0 (by decide) ?_
  refine r_istore h dX4_addTermParts_1 (Nat.le_of_ble_eq_true rfl) ?_
  show Wx _ _ _ [_, _, _, _, _, _, _, _, _, _, _] _
  exact loop (a + 1) 0 (by omega)
set_option maxRecDepth 100000 in
set_option maxHeartbeats 4000000 in
theorem mX4_expandTerm (l : Launch) (w : Fx) (S : St) (o : Nat) (ho : o ≤ 4) : Ct l yX4_expandTerm cX4_expandTerm 7 none 3 w [.ref (aD w 13), .ref (aD w 10), .int (nI o)] S (fun v S' => v = none ∧ S' = etS S o) := by
  refine Ct.of (by decide) (Nat.le_of_ble_eq_true rfl) (fun X h hr hl hw => ?_)
  subst hl hw
  have h : Ok X cX4_expandTerm RX4 3 := h
  show Wx X S 0 [.ref (aD (xw X) 13), .ref (aD (xw X) 10), .int (nI o), .null, .null, .null, .null] []
  have loop : ∀ n a : Nat, a + n = 5 → Wx X (etA (clrS S 2 25) o a) 9 [.ref (aD (xw X) 13), .ref (aD (xw X) 10), .int (nI o), .int (nI a), .null, .null, .null] [] := by
    intro n
    induction n with
    | zero =>
      intro a ha
      have ha : a = 5 := by omega
      subst ha
      refine r_iload_n 3 h dX4_expandTerm_9 rfl rfl ?_
      refine r_iconst 4 h dX4_expandTerm_10 (by decide) ?_
      refine r_icmp_gt_t 74 h dX4_expandTerm_11 (by decide) (gtT (a := 4) (by omega) (by omega)) ?_
      exact r_vret h hr dX4_expandTerm_74 ⟨rfl, rfl⟩
    | succ n ih =>
      intro a ha
      have hq := ih (a + 1) (by omega)
      rw [etA_s] at hq
      generalize hT : etA (clrS S 2 25) o a = T at hq ⊢
      have inner : ∀ n b : Nat, b + n = 5 - a → Wx X (etB T o a b) 17 [.ref (aD (xw X) 13), .ref (aD (xw X) 10), .int (nI o), .int (nI a), .int (nI b), .null, .null] [] := by
        intro n
        induction n with
        | zero =>
          intro b hb
          have hb : b = 5 - a := by omega
          subst hb
          refine r_iload_n 3 h dX4_expandTerm_17 rfl rfl ?_
          refine r_iload h dX4_expandTerm_18 rfl ?_
          refine r_iadd h dX4_expandTerm_20 ?_
          refine r_iconst 4 h dX4_expandTerm_21 (by decide) ?_
          refine r_icmp_gt_t 68 h dX4_expandTerm_22 (by decide) (by rw [nI_add]; exact gtT (a := 4) (by omega) (by omega)) ?_
          show Wx _ _ 68 _ _
          refine r_iincN h dX4_expandTerm_68 rfl ?_
          show Wx _ _ _ [_, _, _, _, _, _, _] _
          refine r_goto 9 h dX4_expandTerm_71 (by decide) ?_
          exact Wx.weak (lv' := [.ref (aD (xw X) 13), .ref (aD (xw X) 10), .int (nI o), .int (nI (a + 1)), .null, .null, .null]) (And.intro rfl (And.intro rfl (And.intro rfl (And.intro rfl trivial)))) (hq)
        | succ n ihb =>
          intro b hb
          have hp := ihb (b + 1) (by omega)
          rw [etB_s] at hp
          refine r_iload_n 3 h dX4_expandTerm_17 rfl rfl ?_
          refine r_iload h dX4_expandTerm_18 rfl ?_
          refine r_iadd h dX4_expandTerm_20 ?_
          refine r_iconst 4 h dX4_expandTerm_21 (by decide) ?_
          refine r_icmp_gt_f 68 h dX4_expandTerm_22 (by decide) (by rw [nI_add]; exact gtF (a := 4) (by omega) (by omega)) ?_
          show Wx _ _ 25 _ _
          refine r_aload_n 0 h dX4_expandTerm_25 rfl rfl ?_
          refine g13_0 h lf_X4_18 dX4_expandTerm_26 ?_
          refine r_iload_n 3 h dX4_expandTerm_29 rfl rfl ?_
          refine r_iload h dX4_expandTerm_30 rfl ?_
          refine cV2 h (mX3_get _ _ _ a b (by omega)) kX3_get lm_X4_24 (by decide) 11 (pl_11 _ _) rfl (Nat.le_of_ble_eq_true rfl) dX4_expandTerm_32 ?_
          refine r_iconst 4 h dX4_expandTerm_35 (by decide) ?_
          show Wx _ _ 36 _ _
          refine r_iload_n 3 h dX4_expandTerm_36 rfl rfl ?_
          refine r_isub h dX4_expandTerm_37 ?_
          refine r_iload h dX4_expandTerm_38 rfl ?_
          refine r_isub h dX4_expandTerm_40 ?_
          refine r_lshl h dX4_expandTerm_41 ?_
          show Wx _ _ _ _ (.long (shl4 _ a b) :: _)
          refine r_lstore h dX4_expandTerm_42 (Nat.le_of_ble_eq_true rfl) ?_
          show Wx _ _ _ [_, _, _, _, _, _, _] _
          show Wx _ _ 44 _ _
          refine r_lload h dX4_expandTerm_44 rfl ?_
          refine r_lconst 0 h dX4_expandTerm_46 (by decide) ?_
          refine r_lc_eq 62 h dX4_expandTerm_47 dX4_expandTerm_48 (by decide) (fun c47 => ?_) (fun c47 => ?_)
          · refine r_iincN h dX4_expandTerm_62 rfl ?_
            show Wx _ _ _ [_, _, _, _, _, _, _] _
            refine r_goto 17 h dX4_expandTerm_65 (by decide) ?_
            first
              | (rw [if_pos c47] at hp; exact Wx.weak (lv' := [.ref (aD (xw X) 13), .ref (aD (xw X) 10), .int (nI o), .int (nI a), .int (nI (b + 1)), .null, .null]) (And.intro rfl (And.intro rfl (And.intro rfl (And.intro rfl (And.intro rfl trivial))))) (hp))
              | (rw [if_neg c47] at hp; exact Wx.weak (lv' := [.ref (aD (xw X) 13), .ref (aD (xw X) 10), .int (nI o), .int (nI a), .int (nI (b + 1)), .null, .null]) (And.intro rfl (And.intro rfl (And.intro rfl (And.intro rfl (And.intro rfl trivial))))) (hp))
          · refine r_aload_n 0 h dX4_expandTerm_51 rfl rfl ?_
            refine r_iload_n 3 h dX4_expandTerm_52 rfl rfl ?_
            refine r_iload h dX4_expandTerm_53 rfl ?_
            refine r_lload h dX4_expandTerm_55 rfl ?_
            refine r_aload_n 1 h dX4_expandTerm_57 rfl rfl ?_
            show Wx _ _ 58 _ _
            refine r_iload_n 2 h dX4_expandTerm_58 rfl rfl ?_
            refine cV5v h (mX4_addTermParts _ _ _ a b _ o (by omega) ho) kX4_addTermParts lm_X4_28 (by decide) 13 (pl_13 _ _) rfl (Nat.le_of_ble_eq_true rfl) dX4_expandTerm_59 ?_
            refine r_iincN h dX4_expandTerm_62 rfl ?_
            show Wx _ _ _ [_, _, _, _, _, _, _] _
            refine r_goto 17 h dX4_expandTerm_65 (by decide) ?_
            first
              | (rw [if_pos c47] at hp; exact Wx.weak (lv' := [.ref (aD (xw X) 13), .ref (aD (xw X) 10), .int (nI o), .int (nI a), .int (nI (b + 1)), .null, .null]) (And.intro rfl (And.intro rfl (And.intro rfl (And.intro rfl (And.intro rfl trivial))))) (hp))
              | (rw [if_neg c47] at hp; exact Wx.weak (lv' := [.ref (aD (xw X) 13), .ref (aD (xw X) 10), .int (nI o), .int (nI a), .int (nI (b + 1)), .null, .null]) (And.intro rfl (And.intro rfl (And.intro rfl (And.intro rfl (And.intro rfl trivial))))) (hp))
      refine r_iload_n 3 h dX4_expandTerm_9 rfl rfl ?_
      refine r_iconst 4 h dX4_expandTerm_10 (by decide) ?_
      refine r_icmp_gt_f 74 h dX4_expandTerm_11 (by decide) (gtF (a := 4) (by omega) (by omega)) ?_
      refine r_iconst 0 h dX4_expandTerm_14 (by decide) ?_
      refine r_istore h dX4_expandTerm_15 (Nat.le_of_ble_eq_true rfl) ?_
      show Wx _ _ _ [_, _, _, _, _, _, _] _
      exact inner (5 - a) 0 (by omega)
  refine r_aload_n 0 h dX4_expandTerm_0 rfl rfl ?_
  refine g13_1 h lf_X4_12 dX4_expandTerm_1 ?_
  refine cV0v h (mX3_clear _ _ _) kX3_clear lm_X4_21 (by decide) 14 (pl_14 _ _) rfl (Nat.le_of_ble_eq_true rfl) dX4_expandTerm_4 ?_
  refine r_iconst 0 h dX4_expandTerm_7 (by decide) ?_
  refine r_istore_n 3 h dX4_expandTerm_8 rfl (Nat.le_of_ble_eq_true rfl) ?_
  show Wx _ _ _ [_, _, _, _, _, _, _] _
  exact loop 5 0 (by omega)
set_option maxRecDepth 100000 in
set_option maxHeartbeats 4000000 in
theorem mX4_addEndParts (l : Launch) (w : Fx) (S : St) (a b : Nat) (c : Int64) (r : Int32) (o : Nat) (hab : a + b ≤ 4) (ho : o ≤ 4) : Ct l yX4_addEndParts cX4_addEndParts 9 none 2 w [.ref (aD w 13), .int (nI a), .int (nI b), .long c, .int r, .int (nI o)] S (fun v S' => v = none ∧ S' = aeU S a b c r o (a + 1)) := by
  refine Ct.of (by decide) (Nat.le_of_ble_eq_true rfl) (fun X h hr hl hw => ?_)
  subst hl hw
  have h : Ok X cX4_addEndParts RX4 2 := h
  show Wx X S 0 [.ref (aD (xw X) 13), .int (nI a), .int (nI b), .long c, .null, .int r, .int (nI o), .null, .null] []
  have loop : ∀ n u : Nat, u + n = a + 1 → Wx X (aeU S a b c r o u) 3 [.ref (aD (xw X) 13), .int (nI a), .int (nI b), .long c, .null, .int r, .int (nI o), .int (nI u), .null] [] := by
    intro n
    induction n with
    | zero =>
      intro u hu
      have hu : u = a + 1 := by omega
      subst hu
      refine r_iload h dX4_addEndParts_3 rfl ?_
      refine r_iload_n 1 h dX4_addEndParts_5 rfl rfl ?_
      refine r_icmp_gt_t 78 h dX4_addEndParts_6 (by decide) (gtT (by omega) (by omega)) ?_
      exact r_vret h hr dX4_addEndParts_78 ⟨rfl, rfl⟩
    | succ n ih =>
      intro u hu
      have hq := ih (u + 1) (by omega)
      rw [aeU_s] at hq
      generalize hT : aeU S a b c r o u = T at hq ⊢
      generalize hv0 : o + 1 - u = v0 at hq
      have inner : ∀ n k : Nat, k + n = b + 1 - v0 → Wx X (aeV T a b c r u v0 k) 22 [.ref (aD (xw X) 13), .int (nI a), .int (nI b), .long c, .null, .int r, .int (nI o), .int (nI u), .int (nI (v0 + k))] [] := by
        intro n
        induction n with
        | zero =>
          intro k hk
          have hk : k = b + 1 - v0 := by omega
          subst hk
          refine r_iload h dX4_addEndParts_22 rfl ?_
          refine r_iload_n 2 h dX4_addEndParts_24 rfl rfl ?_
          refine r_icmp_gt_t 72 h dX4_addEndParts_25 (by decide) (gtT (by omega) (by omega)) ?_
          refine r_iincN h dX4_addEndParts_72 rfl ?_
          show Wx _ _ _ [_, _, _, _, _, _, _, _, _] _
          refine r_goto 3 h dX4_addEndParts_75 (by decide) ?_
          exact Wx.weak (lv' := [.ref (aD (xw X) 13), .int (nI a), .int (nI b), .long c, .null, .int r, .int (nI o), .int (nI (u + 1)), .null]) (And.intro rfl (And.intro rfl (And.intro rfl (And.intro rfl (And.intro rfl (And.intro rfl (And.intro rfl trivial))))))) (hq)
        | succ n ihk =>
          intro k hk
          have hp := ihk (k + 1) (by omega)
          rw [aeV_s] at hp
          refine r_iload h dX4_addEndParts_22 rfl ?_
          refine r_iload_n 2 h dX4_addEndParts_24 rfl rfl ?_
          refine r_icmp_gt_f 72 h dX4_addEndParts_25 (by decide) (gtF (by omega) (by omega)) ?_
          refine r_aload_n 0 h dX4_addEndParts_28 rfl rfl ?_
          refine g13_1 h lf_X4_12 dX4_addEndParts_29 ?_
          show Wx _ _ 32 _ _
          refine r_iload_n 1 h dX4_addEndParts_32 rfl rfl ?_
          refine r_iload h dX4_addEndParts_33 rfl ?_
          refine r_isub h dX4_addEndParts_35 ?_
          rw [pk_subN (show u ≤ a by omega)]
          refine r_iload_n 2 h dX4_addEndParts_36 rfl rfl ?_
          refine r_iload h dX4_addEndParts_37 rfl ?_
          refine r_isub h dX4_addEndParts_39 ?_
          show Wx _ _ 40 _ _
          rw [pk_subN (show v0 + k ≤ b by omega)]
          refine r_lload_n 3 h dX4_addEndParts_40 rfl rfl ?_
          refine r_iload_n 1 h dX4_addEndParts_41 rfl rfl ?_
          refine r_iload h dX4_addEndParts_42 rfl ?_
          refine r_iload_n 2 h dX4_addEndParts_44 rfl rfl ?_
          refine r_iload h dX4_addEndParts_45 rfl ?_
          refine cS4 h (mX4_waysToChoose _ _ _ a u b (v0 + k) (by omega) (by omega)) kX4_waysToChoose lm_X4_42 (by decide) (Nat.le_of_ble_eq_true rfl) dX4_addEndParts_47 ?_
          show Wx _ _ 50 _ _
          refine r_lmul h dX4_addEndParts_50 ?_
          refine r_iload h dX4_addEndParts_51 rfl ?_
          refine r_i2l h dX4_addEndParts_53 ?_
          refine r_iload h dX4_addEndParts_54 rfl ?_
          refine r_iload h dX4_addEndParts_56 rfl ?_
          refine r_iadd h dX4_addEndParts_58 ?_
          show Wx _ _ 59 _ _
          rw [nI_add]
          refine cS2 h (mX4_power _ _ _ r.toInt64 (u + (v0 + k)) (by omega)) kX4_power lm_X4_57 (by decide) (Nat.le_of_ble_eq_true rfl) dX4_addEndParts_59 ?_
          refine r_lmul h dX4_addEndParts_62 ?_
          refine cV3v h (mX3_add _ _ _ (a - u) (b - (v0 + k)) _ (by omega)) kX3_add lm_X4_50 (by decide) 14 (pl_14 _ _) rfl (Nat.le_of_ble_eq_true rfl) dX4_addEndParts_63 ?_
          refine r_iincN h dX4_addEndParts_66 rfl ?_
          show Wx _ _ _ [_, _, _, _, _, _, _, _, _] _
          refine r_goto 22 h dX4_addEndParts_69 (by decide) ?_
          exact hp
      refine r_iload h dX4_addEndParts_3 rfl ?_
      refine r_iload_n 1 h dX4_addEndParts_5 rfl rfl ?_
      refine r_icmp_gt_f 78 h dX4_addEndParts_6 (by decide) (gtF (by omega) (by omega)) ?_
      refine r_iconst 0 h dX4_addEndParts_9 (by decide) ?_
      refine r_iload h dX4_addEndParts_10 rfl ?_
      show Wx _ _ 12 _ _
      refine r_iconst 1 h dX4_addEndParts_12 (by decide) ?_
      refine r_iadd h dX4_addEndParts_13 ?_
      refine r_iload h dX4_addEndParts_14 rfl ?_
      refine r_isub h dX4_addEndParts_16 ?_
      refine r_maxI h lm_X4_54 (by decide) (Nat.le_of_ble_eq_true rfl) dX4_addEndParts_17 ?_
      rw [max_N ho (by omega), hv0]
      refine r_istore h dX4_addEndParts_20 (Nat.le_of_ble_eq_true rfl) ?_
      show Wx _ _ _ [_, _, _, _, _, _, _, _, _] _
      exact inner (b + 1 - v0) 0 (by omega)
  refine r_iconst 0 h dX4_addEndParts_0 (by decide) ?_
  refine r_istore h dX4_addEndParts_1 (Nat.le_of_ble_eq_true rfl) ?_
  show Wx _ _ _ [_, _, _, _, _, _, _, _, _] _
  exact loop (a + 1) 0 (by omega)
set_option maxRecDepth 100000 in
set_option maxHeartbeats 4000000 in
theorem mX4_expandEnd (l : Launch) (w : Fx) (S : St) (k : Int64) (r : Int32) (o : Nat) (ho : o ≤ 4) : Ct l yX4_expandEnd cX4_expandEnd 9 none 3 w [.ref (aD w 13), .long k, .int r, .int (nI o)] S (fun v S' => v = none ∧ S' = eeS S k r o) := by
  refine Ct.of (by decide) (Nat.le_of_ble_eq_true rfl) (fun X h hr hl hw => ?_)
  subst hl hw
  have h : Ok X cX4_expandEnd RX4 3 := h
  show Wx X S 0 [.ref (aD (xw X) 13), .long k, .null, .int r, .int (nI o), .null, .null, .null, .null] []
  have loop : ∀ n a : Nat, a + n = 5 → Wx X (eeA (clrS S 2 25) k r o a) 10 [.ref (aD (xw X) 13), .long k, .null, .int r, .int (nI o), .int (nI a), .null, .null, .null] [] := by
    intro n
    induction n with
    | zero =>
      intro a ha
      have ha : a = 5 := by omega
      subst ha
      refine r_iload h dX4_expandEnd_10 rfl ?_
      refine r_iconst 4 h dX4_expandEnd_12 (by decide) ?_
      refine r_icmp_gt_t 86 h dX4_expandEnd_13 (by decide) (gtT (a := 4) (by omega) (by omega)) ?_
      exact r_vret h hr dX4_expandEnd_86 ⟨rfl, rfl⟩
    | succ n ih =>
      intro a ha
      have hq := ih (a + 1) (by omega)
      rw [eeA_s] at hq
      generalize hT : eeA (clrS S 2 25) k r o a = T at hq ⊢
      have inner : ∀ n b : Nat, b + n = 5 - a → Wx X (eeB T k r o a b) 19 [.ref (aD (xw X) 13), .long k, .null, .int r, .int (nI o), .int (nI a), .int (nI b), .null, .null] [] := by
        intro n
        induction n with
        | zero =>
          intro b hb
          have hb : b = 5 - a := by omega
          subst hb
          refine r_iload h dX4_expandEnd_19 rfl ?_
          refine r_iload h dX4_expandEnd_21 rfl ?_
          refine r_iadd h dX4_expandEnd_23 ?_
          refine r_iconst 4 h dX4_expandEnd_24 (by decide) ?_
          refine r_icmp_gt_t 80 h dX4_expandEnd_25 (by decide) (by rw [nI_add]; exact gtT (a := 4) (by omega) (by omega)) ?_
          show Wx _ _ 80 _ _
          refine r_iincN h dX4_expandEnd_80 rfl ?_
          show Wx _ _ _ [_, _, _, _, _, _, _, _, _] _
          refine r_goto 10 h dX4_expandEnd_83 (by decide) ?_
          exact Wx.weak (lv' := [.ref (aD (xw X) 13), .long k, .null, .int r, .int (nI o), .int (nI (a + 1)), .null, .null, .null]) (And.intro rfl (And.intro rfl (And.intro rfl (And.intro rfl (And.intro rfl trivial))))) (hq)
        | succ n ihb =>
          intro b hb
          have hp := ihb (b + 1) (by omega)
          rw [eeB_s] at hp
          refine r_iload h dX4_expandEnd_19 rfl ?_
          refine r_iload h dX4_expandEnd_21 rfl ?_
          refine r_iadd h dX4_expandEnd_23 ?_
          refine r_iconst 4 h dX4_expandEnd_24 (by decide) ?_
          refine r_icmp_gt_f 80 h dX4_expandEnd_25 (by decide) (by rw [nI_add]; exact gtF (a := 4) (by omega) (by omega)) ?_
          show Wx _ _ 28 _ _
          refine r_aload_n 0 h dX4_expandEnd_28 rfl rfl ?_
          refine g13_0 h lf_X4_18 dX4_expandEnd_29 ?_
          refine r_iload h dX4_expandEnd_32 rfl ?_
          refine r_iload h dX4_expandEnd_34 rfl ?_
          refine cV2 h (mX3_get _ _ _ a b (by omega)) kX3_get lm_X4_24 (by decide) 11 (pl_11 _ _) rfl (Nat.le_of_ble_eq_true rfl) dX4_expandEnd_36 ?_
          refine r_absL h lm_X4_32 (by decide) (Nat.le_of_ble_eq_true rfl) dX4_expandEnd_39 ?_
          show Wx _ _ 42 _ _
          refine r_iconst 4 h dX4_expandEnd_42 (by decide) ?_
          refine r_iload h dX4_expandEnd_43 rfl ?_
          refine r_isub h dX4_expandEnd_45 ?_
          refine r_iload h dX4_expandEnd_46 rfl ?_
          refine r_isub h dX4_expandEnd_48 ?_
          refine r_lshl h dX4_expandEnd_49 ?_
          show Wx _ _ 50 _ _
          show Wx _ _ _ _ (.long (shl4 _ a b) :: _)
          refine r_lstore h dX4_expandEnd_50 (Nat.le_of_ble_eq_true rfl) ?_
          show Wx _ _ _ [_, _, _, _, _, _, _, _, _] _
          refine r_lload h dX4_expandEnd_52 rfl ?_
          refine r_lconst 0 h dX4_expandEnd_54 (by decide) ?_
          refine r_lc_eq 74 h dX4_expandEnd_55 dX4_expandEnd_56 (by decide) (fun c55 => ?_) (fun c55 => ?_)
          · refine r_iincN h dX4_expandEnd_74 rfl ?_
            show Wx _ _ _ [_, _, _, _, _, _, _, _, _] _
            refine r_goto 19 h dX4_expandEnd_77 (by decide) ?_
            first
              | (rw [if_pos c55] at hp; exact Wx.weak (lv' := [.ref (aD (xw X) 13), .long k, .null, .int r, .int (nI o), .int (nI a), .int (nI (b + 1)), .null, .null]) (And.intro rfl (And.intro rfl (And.intro rfl (And.intro rfl (And.intro rfl (And.intro rfl trivial)))))) (hp))
              | (rw [if_neg c55] at hp; exact Wx.weak (lv' := [.ref (aD (xw X) 13), .long k, .null, .int r, .int (nI o), .int (nI a), .int (nI (b + 1)), .null, .null]) (And.intro rfl (And.intro rfl (And.intro rfl (And.intro rfl (And.intro rfl (And.intro rfl trivial)))))) (hp))
          · refine r_aload_n 0 h dX4_expandEnd_59 rfl rfl ?_
            refine r_iload h dX4_expandEnd_60 rfl ?_
            refine r_iload h dX4_expandEnd_62 rfl ?_
            refine r_lload h dX4_expandEnd_64 rfl ?_
            refine r_lload_n 1 h dX4_expandEnd_66 rfl rfl ?_
            show Wx _ _ 67 _ _
            refine r_lmul h dX4_expandEnd_67 ?_
            refine r_iload_n 3 h dX4_expandEnd_68 rfl rfl ?_
            refine r_iload h dX4_expandEnd_69 rfl ?_
            refine cV5v h (mX4_addEndParts _ _ _ a b _ r o (by omega) ho) kX4_addEndParts lm_X4_38 (by decide) 13 (pl_13 _ _) rfl (Nat.le_of_ble_eq_true rfl) dX4_expandEnd_71 ?_
            refine r_iincN h dX4_expandEnd_74 rfl ?_
            show Wx _ _ _ [_, _, _, _, _, _, _, _, _] _
            refine r_goto 19 h dX4_expandEnd_77 (by decide) ?_
            first
              | (rw [if_pos c55] at hp; exact Wx.weak (lv' := [.ref (aD (xw X) 13), .long k, .null, .int r, .int (nI o), .int (nI a), .int (nI (b + 1)), .null, .null]) (And.intro rfl (And.intro rfl (And.intro rfl (And.intro rfl (And.intro rfl (And.intro rfl trivial)))))) (hp))
              | (rw [if_neg c55] at hp; exact Wx.weak (lv' := [.ref (aD (xw X) 13), .long k, .null, .int r, .int (nI o), .int (nI a), .int (nI (b + 1)), .null, .null]) (And.intro rfl (And.intro rfl (And.intro rfl (And.intro rfl (And.intro rfl (And.intro rfl trivial)))))) (hp))
      refine r_iload h dX4_expandEnd_10 rfl ?_
      refine r_iconst 4 h dX4_expandEnd_12 (by decide) ?_
      refine r_icmp_gt_f 86 h dX4_expandEnd_13 (by decide) (gtF (a := 4) (by omega) (by omega)) ?_
      refine r_iconst 0 h dX4_expandEnd_16 (by decide) ?_
      refine r_istore h dX4_expandEnd_17 (Nat.le_of_ble_eq_true rfl) ?_
      show Wx _ _ _ [_, _, _, _, _, _, _, _, _] _
      exact inner (5 - a) 0 (by omega)
  refine r_aload_n 0 h dX4_expandEnd_0 rfl rfl ?_
  refine g13_1 h lf_X4_12 dX4_expandEnd_1 ?_
  refine cV0v h (mX3_clear _ _ _) kX3_clear lm_X4_21 (by decide) 14 (pl_14 _ _) rfl (Nat.le_of_ble_eq_true rfl) dX4_expandEnd_4 ?_
  refine r_iconst 0 h dX4_expandEnd_7 (by decide) ?_
  refine r_istore h dX4_expandEnd_8 (Nat.le_of_ble_eq_true rfl) ?_
  show Wx _ _ _ [_, _, _, _, _, _, _, _, _] _
  exact loop 5 0 (by omega)
end
section
def offN (l : Nat) : Nat := ([0, 1, 5, 21, 85, 341] : List Nat).getD l 0
def numN (l x : Nat) : Nat := x / 2 ^ (6 - l)
def bixN (l i j : Nat) : Nat := offN l + j * 2 ^ l + i
def pixN (l a b : Nat) : Nat := bixN l (numN l a) (numN l b)
theorem tabF_N {l : Nat} (h : l < 6) : tabF l = nI (offN l) := by
  have key : ∀ l : Fin 6, tabF l.val = nI (offN l.val) := by decide +kernel
  exact key ⟨l, h⟩
theorem shr_a {l : Nat} (h : l < 7) : ((((6 : Int32) - nI l) &&& 31).toBitVec.smod 32).toNat = 6 - l := by
  have key : ∀ l : Fin 7, ((((6 : Int32) - nI l.val) &&& 31).toBitVec.smod 32).toNat = 6 - l.val := by decide +kernel
  exact key ⟨l, h⟩
theorem shl_a {l : Nat} (h : l < 32) : ((nI l &&& 31).toBitVec.smod 32).toNat = l := by
  have key : ∀ l : Fin 32, ((nI l.val &&& 31).toBitVec.smod 32).toNat = l.val := by decide +kernel
  exact key ⟨l, h⟩
theorem num_N {l x : Nat} (hl : l < 7) (hx : x < 2 ^ 31) : numI (nI l) (nI x) = nI (numN l x) := pk_shrN hx _ _ (shr_a hl)
theorem p2_lt {l : Nat} (h : l ≤ 5) : 2 ^ l ≤ 32 := by
  have : 2 ^ l ≤ 2 ^ 5 := Nat.pow_le_pow_right (by decide) h
  simpa using this
theorem mul_lt32 {l j : Nat} (hl : l ≤ 5) (hj : j < 2 ^ l) : j * 2 ^ l < 1024 + 1 := by
  have h1 := p2_lt hl
  have h2 : j * 2 ^ l ≤ 32 * 32 := Nat.mul_le_mul (by omega) h1
  omega
theorem bix_N {l i j : Nat} (hl : l ≤ 5) (hi : i < 2 ^ l) (hj : j < 2 ^ l) : bixI (nI l) (nI i) (nI j) = nI (bixN l i j) := by
  unfold bixI bixN
  have h1 := mul_lt32 hl hj
  rw [ncl (by omega), tabF_N (by omega), pk_shlN _ l (shl_a (by omega)) (by omega), nI_add, nI_add]
theorem off_le {l : Nat} (h : l ≤ 5) : offN l + 2 ^ l * 2 ^ l ≤ 1365 := by
  have key : ∀ l : Fin 6, offN l.val + 2 ^ l.val * 2 ^ l.val ≤ 1365 := by decide
  exact key ⟨l, by omega⟩
theorem bix_lt {l i j : Nat} (hl : l ≤ 5) (hi : i < 2 ^ l) (hj : j < 2 ^ l) : bixN l i j < 1365 := by
  have h1 := off_le hl
  have h2 : (j + 1) * 2 ^ l ≤ 2 ^ l * 2 ^ l := Nat.mul_le_mul_right _ hj
  rw [Nat.succ_mul] at h2
  unfold bixN
  omega
theorem num_lt {l x : Nat} (hl : l ≤ 6) (hx : x < 64) : numN l x < 2 ^ l := by
  unfold numN
  apply Nat.div_lt_of_lt_mul
  rw [← Nat.pow_add, show 6 - l + l = 6 by omega]
  exact hx
theorem pix_lt {l a b : Nat} (hl : l ≤ 5) (ha : a < 64) (hb : b < 64) : pixN l a b < 1365 := bix_lt hl (num_lt (by omega) ha) (num_lt (by omega) hb)
theorem pix_N {l a b : Nat} (hl : l ≤ 5) (ha : a < 64) (hb : b < 64) : pixI (nI l) (nI a) (nI b) = nI (pixN l a b) := by
  unfold pixI pixN
  rw [num_N (by omega) (by omega), num_N (by omega) (by omega), bix_N hl (num_lt (by omega) ha) (num_lt (by omega) hb)]
theorem mX0_placeIndexN (l : Launch) (w : Fx) (S : St) (i a b : Nat) (hi : i ≤ 5) (ha : a < 64) (hb : b < 64) : Ct l yX0_placeIndex cX0_placeIndex 3 (some .int) 1 w [.int (nI i), .int (nI a), .int (nI b)] S (fun v S' => v = some (.int (nI (pixN i a b))) ∧ S' = S) := by
  have := mX0_placeIndex l w S (nI i) (nI a) (nI b) (vin (by omega))
  rwa [pix_N hi ha hb] at this
theorem mX0_boxIndexN (l : Launch) (w : Fx) (S : St) (k i j : Nat) (hk : k ≤ 5) (hi : i < 2 ^ k) (hj : j < 2 ^ k) : Ct l yX0_boxIndex cX0_boxIndex 3 (some .int) 0 w [.int (nI k), .int (nI i), .int (nI j)] S (fun v S' => v = some (.int (nI (bixN k i j))) ∧ S' = S) := by
  have := mX0_boxIndex l w S (nI k) (nI i) (nI j) (vin (by omega))
  rwa [bix_N hk hi hj] at this
def entS (S : St) (a b : Nat) : Nat → St
  | 0 => S
  | i + 1 => sI (entS S a b i) 7 (pixN i a b) ((entS S a b i).1 7 (pixN i a b) + 1)
def leaS (S : St) (a b : Nat) : Nat → St
  | 0 => S
  | i + 1 => sI (leaS S a b i) 7 (pixN i a b) ((leaS S a b i).1 7 (pixN i a b) - 1)
def splI (S : St) (l i j : Nat) : Int32 := if (5 : Int32) ≤ nI l then 0 else if S.1 7 (bixN l i j) ≤ S.1 8 0 then 0 else 1
def spbI (S : St) : Nat → Int32
  | 0 => 0
  | i + 1 => if S.1 7 i ≤ S.1 8 0 then spbI S i else spbI S i + 1
def srI (S : St) (lev nxt : Int32) : Nat → Nat → Int32
  | 0, _ => nxt
  | c + 1, n => if S.1 7 n ≤ S.1 8 0 then srI S lev nxt c (n + 1) else lev
def grI (S : St) : Nat → Int32
  | 0 => 0
  | m + 1 => srI S (nI (m + 1)) (grI S m) (offN (m + 1) - offN m) (offN m)
def lvI (S : St) (a b : Nat) : Nat → Nat → Int32
  | 0, _ => 5
  | n + 1, i => if S.1 8 0 < S.1 7 (pixN i a b) then lvI S a b n (i + 1) else nI i
def holI (S : St) (l i j : Int32) (p : Nat) : Int32 := if S.1 0 p = 0 then 0 else if numI l (S.1 1 p) = i then (if numI l (S.1 2 p) = j then 1 else 0) else 0
def amB (T : St) (a : Nat) (v dy : Int64) : Nat → St
  | 0 => T
  | b + 1 => sJ (amB T a v dy b) 0 (a * 5 + b) ((amB T a v dy b).2 0 (a * 5 + b) + pw v dy b)
def amA (T : St) (v dx dy : Int64) : Nat → St
  | 0 => T
  | a + 1 => amB (amA T v dx dy a) a (pw v dx a) dy (5 - a)
def gaP (T : St) (l i j : Int32) (p : Nat) : St := amA T (T.1 3 p).toInt64 (frmI (T.1 1 p) l i).toInt64 (frmI (T.1 2 p) l j).toInt64 5
def gaT (S : St) (l i j : Int32) : Nat → St
  | 0 => sI (clrS S 0 25) 9 0 0
  | p + 1 => if holI (gaT S l i j p) l i j p = 0 then gaT S l i j p else sI (gaP (gaT S l i j p) l i j p) 9 0 ((gaP (gaT S l i j p) l i j p).1 9 0 + absI ((gaP (gaT S l i j p) l i j p).1 3 p))
def gatS (S : St) (l i j : Int32) : St := gaT S l i j 40
theorem amB_s {T : St} {a b : Nat} {v dy : Int64} : amB T a v dy (b + 1) = sJ (amB T a v dy b) 0 (a * 5 + b) ((amB T a v dy b).2 0 (a * 5 + b) + pw v dy b) := rfl
theorem amA_s {T : St} {a : Nat} {v dx dy : Int64} : amA T v dx dy (a + 1) = amB (amA T v dx dy a) a (pw v dx a) dy (5 - a) := rfl
theorem gaT_s {S : St} {l i j : Int32} {p : Nat} : gaT S l i j (p + 1) = if holI (gaT S l i j p) l i j p = 0 then gaT S l i j p else sI (gaP (gaT S l i j p) l i j p) 9 0 ((gaP (gaT S l i j p) l i j p).1 9 0 + absI ((gaP (gaT S l i j p) l i j p).1 3 p)) := rfl
theorem lvI_s {S : St} {a b n i : Nat} : lvI S a b (n + 1) i = if S.1 8 0 < S.1 7 (pixN i a b) then lvI S a b n (i + 1) else nI i := rfl
theorem srI_s {S : St} {lev nxt : Int32} {c n : Nat} : srI S lev nxt (c + 1) n = if S.1 7 n ≤ S.1 8 0 then srI S lev nxt c (n + 1) else lev := rfl
theorem grI_s {S : St} {m : Nat} : grI S (m + 1) = srI S (nI (m + 1)) (grI S m) (offN (m + 1) - offN m) (offN m) := rfl
/-- the answer of isThere, for any numbers -/
def thrI (S : St) (l i j : Int32) : Int32 := if l < 0 then 0 else if l ≤ 5 then (if i < 0 then 0 else if 1 <<< (l &&& 31) ≤ i then 0 else if j < 0 then 0 else if j < 1 <<< (l &&& 31) then (if l = 0 then 1 else if S.1 7 (bixN (l.toNatClampNeg - 1) (i.toNatClampNeg / 2) (j.toNatClampNeg / 2)) ≤ S.1 8 0 then 0 else 1) else 0) else 0
theorem one_shl {l : Nat} (h : l ≤ 5) : (1 : Int32) <<< (nI l &&& 31) = nI (2 ^ l) := by
  have key : ∀ l : Fin 6, (1 : Int32) <<< (nI l.val &&& 31) = nI (2 ^ l.val) := by decide +kernel
  exact key ⟨l, by omega⟩
theorem box_at {l i j : Int32} (c0 : ¬ l < 0) (c1 : l ≤ 5) (c2 : ¬ i < 0) (c3 : ¬ (1 : Int32) <<< (l &&& 31) ≤ i) (c4 : ¬ j < 0) (c5 : j < (1 : Int32) <<< (l &&& 31)) : ∃ k a b : Nat, k ≤ 5 ∧ a < 2 ^ k ∧ b < 2 ^ k ∧ l = nI k ∧ i = nI a ∧ j = nI b := by
  obtain ⟨k, hk, rfl⟩ := nI_of2 (M := 5) (n := 5) (by decide) c0 c1
  have hp := p2_lt hk
  rw [one_shl hk] at c3 c5
  have q1 : ¬ nI (2 ^ k) ≤ j := Int32.not_le.mpr c5
  obtain ⟨a, ha, rfl⟩ := vp_in_of (ixN (N := 2 ^ k) (by omega) c2 c3) (by omega)
  obtain ⟨b, hb, rfl⟩ := vp_in_of (ixN (N := 2 ^ k) (by omega) c4 q1) (by omega)
  exact ⟨k, a, b, hk, ha, hb, rfl, rfl, rfl⟩
theorem shr1 {a : Nat} (h : a < 2 ^ 31) : nI a >>> ((1 : Int32) &&& 31) = nI (a / 2) := pk_shrN h _ 1 (by decide)
theorem half_lt {a k : Nat} (h : a < 2 ^ (k + 1)) : a / 2 < 2 ^ k := by
  rw [Nat.pow_succ] at h
  omega
theorem thr_at {S : St} {l i j : Int32} (h : ¬ thrI S l i j = 0) : ∃ k a b : Nat, k ≤ 5 ∧ a < 2 ^ k ∧ b < 2 ^ k ∧ l = nI k ∧ i = nI a ∧ j = nI b := by
  unfold thrI at h
  by_cases c0 : l < 0
  · rw [if_pos c0] at h; exact absurd rfl h
  by_cases c1 : l ≤ 5
  · rw [if_neg c0, if_pos c1] at h
    by_cases c2 : i < 0
    · rw [if_pos c2] at h; exact absurd rfl h
    by_cases c3 : (1 : Int32) <<< (l &&& 31) ≤ i
    · rw [if_neg c2, if_pos c3] at h; exact absurd rfl h
    by_cases c4 : j < 0
    · rw [if_neg c2, if_neg c3, if_pos c4] at h; exact absurd rfl h
    by_cases c5 : j < (1 : Int32) <<< (l &&& 31)
    · exact box_at c0 c1 c2 c3 c4 c5
    · rw [if_neg c2, if_neg c3, if_neg c4, if_neg c5] at h; exact absurd rfl h
  · rw [if_neg c0, if_neg c1] at h; exact absurd rfl h
set_option maxRecDepth 100000 in
set_option maxHeartbeats 4000000 in
theorem mX0_enter (l : Launch) (w : Fx) (S : St) (a b : Nat) (ha : a < 64) (hb : b < 64) : Ct l yX0_enter cX0_enter 4 none 2 w [.ref (aD w 8), .int (nI a), .int (nI b)] S (fun v S' => v = none ∧ S' = entS S a b 6) := by
  refine Ct.of (by decide) (Nat.le_of_ble_eq_true rfl) (fun X h hr hl hw => ?_)
  subst hl hw
  have h : Ok X cX0_enter RX0 2 := h
  show Wx X S 0 [.ref (aD (xw X) 8), .int (nI a), .int (nI b), .null] []
  have loop : ∀ n i : Nat, i + n = 6 → Wx X (entS S a b i) 2 [.ref (aD (xw X) 8), .int (nI a), .int (nI b), .int (nI i)] [] := by
    intro n
    induction n with
    | zero =>
      intro i hi
      have hi : i = 6 := by omega
      subst hi
      refine r_iload_n 3 h dX0_enter_2 rfl rfl ?_
      refine r_iconst 5 h dX0_enter_3 (by decide) ?_
      refine r_icmp_gt_t 28 h dX0_enter_4 (by decide) (gtT (a := 5) (by omega) (by omega)) ?_
      exact r_vret h hr dX0_enter_28 ⟨rfl, rfl⟩
    | succ n ih =>
      intro i hi
      have hq := ih (i + 1) (by omega)
      refine r_iload_n 3 h dX0_enter_2 rfl rfl ?_
      refine r_iconst 5 h dX0_enter_3 (by decide) ?_
      refine r_icmp_gt_f 28 h dX0_enter_4 (by decide) (gtF (a := 5) (by omega) (by omega)) ?_
      refine r_aload_n 0 h dX0_enter_7 rfl rfl ?_
      refine g8_1 h lf_X0_9 dX0_enter_8 ?_
      show Wx _ _ 11 _ _
      refine r_iload_n 3 h dX0_enter_11 rfl rfl ?_
      refine r_iload_n 1 h dX0_enter_12 rfl rfl ?_
      refine r_iload_n 2 h dX0_enter_13 rfl rfl ?_
      refine cS3 h (mX0_placeIndexN _ _ _ i a b (by omega) ha hb) kX0_placeIndex lm_X0_30 (by decide) (Nat.le_of_ble_eq_true rfl) dX0_enter_14 ?_
      have hpx := pix_lt (l := i) (by omega) ha hb
      refine r_dup2 h dX0_enter_17 rfl rfl ?_
      refine alN_9 h (by omega) dX0_enter_18 ?_
      show Wx _ _ 19 _ _
      refine r_iconst 1 h dX0_enter_19 (by decide) ?_
      refine r_iadd h dX0_enter_20 ?_
      refine asN_9 h (by omega) dX0_enter_21 ?_
      refine r_iincN h dX0_enter_22 rfl ?_
      show Wx _ _ _ [_, _, _, _] _
      refine r_goto 2 h dX0_enter_25 (by decide) ?_
      exact hq
  refine r_iconst 0 h dX0_enter_0 (by decide) ?_
  refine r_istore_n 3 h dX0_enter_1 rfl (Nat.le_of_ble_eq_true rfl) ?_
  show Wx _ _ _ [_, _, _, _] _
  exact loop 6 0 rfl
set_option maxRecDepth 100000 in
set_option maxHeartbeats 4000000 in
theorem mX0_leave (l : Launch) (w : Fx) (S : St) (a b : Nat) (ha : a < 64) (hb : b < 64) : Ct l yX0_leave cX0_leave 4 none 2 w [.ref (aD w 8), .int (nI a), .int (nI b)] S (fun v S' => v = none ∧ S' = leaS S a b 6) := by
  refine Ct.of (by decide) (Nat.le_of_ble_eq_true rfl) (fun X h hr hl hw => ?_)
  subst hl hw
  have h : Ok X cX0_leave RX0 2 := h
  show Wx X S 0 [.ref (aD (xw X) 8), .int (nI a), .int (nI b), .null] []
  have loop : ∀ n i : Nat, i + n = 6 → Wx X (leaS S a b i) 2 [.ref (aD (xw X) 8), .int (nI a), .int (nI b), .int (nI i)] [] := by
    intro n
    induction n with
    | zero =>
      intro i hi
      have hi : i = 6 := by omega
      subst hi
      refine r_iload_n 3 h dX0_leave_2 rfl rfl ?_
      refine r_iconst 5 h dX0_leave_3 (by decide) ?_
      refine r_icmp_gt_t 28 h dX0_leave_4 (by decide) (gtT (a := 5) (by omega) (by omega)) ?_
      exact r_vret h hr dX0_leave_28 ⟨rfl, rfl⟩
    | succ n ih =>
      intro i hi
      have hq := ih (i + 1) (by omega)
      refine r_iload_n 3 h dX0_leave_2 rfl rfl ?_
      refine r_iconst 5 h dX0_leave_3 (by decide) ?_
      refine r_icmp_gt_f 28 h dX0_leave_4 (by decide) (gtF (a := 5) (by omega) (by omega)) ?_
      refine r_aload_n 0 h dX0_leave_7 rfl rfl ?_
      refine g8_1 h lf_X0_9 dX0_leave_8 ?_
      show Wx _ _ 11 _ _
      refine r_iload_n 3 h dX0_leave_11 rfl rfl ?_
      refine r_iload_n 1 h dX0_leave_12 rfl rfl ?_
      refine r_iload_n 2 h dX0_leave_13 rfl rfl ?_
      refine cS3 h (mX0_placeIndexN _ _ _ i a b (by omega) ha hb) kX0_placeIndex lm_X0_30 (by decide) (Nat.le_of_ble_eq_true rfl) dX0_leave_14 ?_
      have hpx := pix_lt (l := i) (by omega) ha hb
      refine r_dup2 h dX0_leave_17 rfl rfl ?_
      refine alN_9 h (by omega) dX0_leave_18 ?_
      show Wx _ _ 19 _ _
      refine r_iconst 1 h dX0_leave_19 (by decide) ?_
      refine r_isub h dX0_leave_20 ?_
      refine asN_9 h (by omega) dX0_leave_21 ?_
      refine r_iincN h dX0_leave_22 rfl ?_
      show Wx _ _ _ [_, _, _, _] _
      refine r_goto 2 h dX0_leave_25 (by decide) ?_
      exact hq
  refine r_iconst 0 h dX0_leave_0 (by decide) ?_
  refine r_istore_n 3 h dX0_leave_1 rfl (Nat.le_of_ble_eq_true rfl) ?_
  show Wx _ _ _ [_, _, _, _] _
  exact loop 6 0 rfl
set_option maxRecDepth 100000 in
set_option maxHeartbeats 4000000 in
theorem mX0_pointsIn (l : Launch) (w : Fx) (S : St) (k i j : Nat) (hk : k ≤ 5) (hi : i < 2 ^ k) (hj : j < 2 ^ k) : Ct l yX0_pointsIn cX0_pointsIn 4 (some .int) 1 w [.ref (aD w 8), .int (nI k), .int (nI i), .int (nI j)] S (fun v S' => v = some (.int (S.1 7 (bixN k i j))) ∧ S' = S) := by
  refine Ct.of (by decide) (Nat.le_of_ble_eq_true rfl) (fun X h hr hl hw => ?_)
  subst hl hw
  have h : Ok X cX0_pointsIn RX0 1 := h
  show Wx X S 0 [.ref (aD (xw X) 8), .int (nI k), .int (nI i), .int (nI j)] []
  refine r_aload_n 0 h dX0_pointsIn_0 rfl rfl ?_
  refine g8_1 h lf_X0_9 dX0_pointsIn_1 ?_
  refine r_iload_n 1 h dX0_pointsIn_4 rfl rfl ?_
  refine r_iload_n 2 h dX0_pointsIn_5 rfl rfl ?_
  refine r_iload_n 3 h dX0_pointsIn_6 rfl rfl ?_
  show Wx _ _ 7 _ _
  refine cS3 h (mX0_boxIndexN _ _ _ k i j hk hi hj) kX0_boxIndex lm_X0_34 (by decide) (Nat.le_of_ble_eq_true rfl) dX0_pointsIn_7 ?_
  have hbx := bix_lt hk hi hj
  refine alN_9 h (by omega) dX0_pointsIn_10 ?_
  exact r_iret h hr dX0_pointsIn_11 ⟨rfl, rfl⟩
set_option maxRecDepth 100000 in
set_option maxHeartbeats 4000000 in
theorem mX0_isSplit (l : Launch) (w : Fx) (S : St) (k i j : Nat) (hk : k ≤ 5) (hi : i < 2 ^ k) (hj : j < 2 ^ k) : Ct l yX0_isSplit cX0_isSplit 4 (some .boolean) 2 w [.ref (aD w 8), .int (nI k), .int (nI i), .int (nI j)] S (fun v S' => v = some (.int (splI S k i j)) ∧ S' = S) := by
  refine Ct.of (by decide) (Nat.le_of_ble_eq_true rfl) (fun X h hr hl hw => ?_)
  subst hl hw
  have h : Ok X cX0_isSplit RX0 2 := h
  show Wx X S 0 [.ref (aD (xw X) 8), .int (nI k), .int (nI i), .int (nI j)] []
  refine r_iload_n 1 h dX0_isSplit_0 rfl rfl ?_
  refine r_iconst 5 h dX0_isSplit_1 (by decide) ?_
  refine r_icmp_ge 23 h dX0_isSplit_2 (by decide) (fun c2 => ?_) (fun c2 => ?_)
  · refine r_iconst 0 h dX0_isSplit_23 (by decide) ?_
    exact r_zret h hr dX0_isSplit_24 rfl ⟨by simp only [splI, c2, ite_true, ite_false, if_true, if_false, not_true, not_false_iff], rfl⟩
  · refine r_aload_n 0 h dX0_isSplit_5 rfl rfl ?_
    refine r_iload_n 1 h dX0_isSplit_6 rfl rfl ?_
    refine r_iload_n 2 h dX0_isSplit_7 rfl rfl ?_
    refine r_iload_n 3 h dX0_isSplit_8 rfl rfl ?_
    refine cV3 h (mX0_pointsIn _ _ _ k i j hk hi hj) kX0_pointsIn lm_X0_37 (by decide) 8 (pl_8 _ _) rfl (Nat.le_of_ble_eq_true rfl) dX0_isSplit_9 ?_
    show Wx _ _ 12 _ _
    refine r_aload_n 0 h dX0_isSplit_12 rfl rfl ?_
    refine g8_2 h lf_X0_15 dX0_isSplit_13 ?_
    refine r_icmp_le 23 h dX0_isSplit_16 (by decide) (fun c16 => ?_) (fun c16 => ?_)
    · refine r_iconst 0 h dX0_isSplit_23 (by decide) ?_
      exact r_zret h hr dX0_isSplit_24 rfl ⟨by simp only [splI, c2, c16, ite_true, ite_false, if_true, if_false, not_true, not_false_iff], rfl⟩
    · refine r_iconst 1 h dX0_isSplit_19 (by decide) ?_
      refine r_goto 24 h dX0_isSplit_20 (by decide) ?_
      exact r_zret h hr dX0_isSplit_24 rfl ⟨by simp only [splI, c2, c16, ite_true, ite_false, if_true, if_false, not_true, not_false_iff], rfl⟩
set_option maxRecDepth 100000 in
set_option maxHeartbeats 4000000 in
theorem mX0_isThere (l : Launch) (w : Fx) (S : St) (q i j : Int32) : Ct l yX0_isThere cX0_isThere 5 (some .boolean) 2 w [.ref (aD w 8), .int q, .int i, .int j] S (fun v S' => v = some (.int (thrI S q i j)) ∧ S' = S) := by
  refine Ct.of (by decide) (Nat.le_of_ble_eq_true rfl) (fun X h hr hl hw => ?_)
  subst hl hw
  have h : Ok X cX0_isThere RX0 2 := h
  show Wx X S 0 [.ref (aD (xw X) 8), .int q, .int i, .int j, .null] []
  refine r_iload_n 1 h dX0_isThere_0 rfl rfl ?_
  refine r_if_lt 9 h dX0_isThere_1 (by decide) (fun c1 => ?_) (fun c1 => ?_)
  · refine r_iconst 0 h dX0_isThere_9 (by decide) ?_
    exact r_zret h hr dX0_isThere_10 rfl ⟨by simp only [thrI, c1, ite_true, ite_false, if_true, if_false, not_true, not_false_iff], rfl⟩
  · refine r_iload_n 1 h dX0_isThere_4 rfl rfl ?_
    refine r_iconst 5 h dX0_isThere_5 (by decide) ?_
    refine r_icmp_le 11 h dX0_isThere_6 (by decide) (fun c6 => ?_) (fun c6 => ?_)
    · refine r_iconst 1 h dX0_isThere_11 (by decide) ?_
      refine r_iload_n 1 h dX0_isThere_12 rfl rfl ?_
      refine r_ishl h dX0_isThere_13 ?_
      refine r_istore h dX0_isThere_14 (Nat.le_of_ble_eq_true rfl) ?_
      show Wx _ _ _ [_, _, _, _, _] _
      refine r_iload_n 2 h dX0_isThere_16 rfl rfl ?_
      show Wx _ _ 17 _ _
      refine r_if_lt 36 h dX0_isThere_17 (by decide) (fun c17 => ?_) (fun c17 => ?_)
      · refine r_iconst 0 h dX0_isThere_36 (by decide) ?_
        exact r_zret h hr dX0_isThere_37 rfl ⟨by simp only [thrI, c1, c6, c17, ite_true, ite_false, if_true, if_false, not_true, not_false_iff], rfl⟩
      · refine r_iload_n 2 h dX0_isThere_20 rfl rfl ?_
        refine r_iload h dX0_isThere_21 rfl ?_
        refine r_icmp_ge 36 h dX0_isThere_23 (by decide) (fun c23 => ?_) (fun c23 => ?_)
        · refine r_iconst 0 h dX0_isThere_36 (by decide) ?_
          exact r_zret h hr dX0_isThere_37 rfl ⟨by simp only [thrI, c1, c6, c17, c23, ite_true, ite_false, if_true, if_false, not_true, not_false_iff], rfl⟩
        · refine r_iload_n 3 h dX0_isThere_26 rfl rfl ?_
          refine r_if_lt 36 h dX0_isThere_27 (by decide) (fun c27 => ?_) (fun c27 => ?_)
          · refine r_iconst 0 h dX0_isThere_36 (by decide) ?_
            exact r_zret h hr dX0_isThere_37 rfl ⟨by simp only [thrI, c1, c6, c17, c23, c27, ite_true, ite_false, if_true, if_false, not_true, not_false_iff], rfl⟩
          · refine r_iload_n 3 h dX0_isThere_30 rfl rfl ?_
            refine r_iload h dX0_isThere_31 rfl ?_
            refine r_icmp_lt 38 h dX0_isThere_33 (by decide) (fun c33 => ?_) (fun c33 => ?_)
            · refine r_iload_n 1 h dX0_isThere_38 rfl rfl ?_
              refine r_if_eq 62 h dX0_isThere_39 (by decide) (fun c39 => ?_) (fun c39 => ?_)
              · refine r_iconst 1 h dX0_isThere_62 (by decide) ?_
                refine r_goto 67 h dX0_isThere_63 (by decide) ?_
                exact r_zret h hr dX0_isThere_67 rfl (by refine ⟨?_, rfl⟩; rw [thrI, if_neg c1, if_pos c6, if_neg c17, if_neg c23, if_neg c27, if_pos c33]; first | (rw [if_pos c39]; done) | (rw [if_neg c39, show (nI (k + 1)).toNatClampNeg - 1 = k by rw [ncl (by omega)]; rfl, ncl (show a < 2 ^ 31 by omega), ncl (show b < 2 ^ 31 by omega)]; first | (rw [if_pos c59]; done) | (rw [if_neg c59]; done)))
              · obtain ⟨k, a, b, hk, ha, hb, rfl, rfl, rfl⟩ := box_at c1 c6 c17 c23 c27 c33
                have hk0 : 0 < k := Nat.pos_of_ne_zero (fun z => c39 (by subst z; rfl))
                obtain ⟨k, rfl⟩ : ∃ z, k = z + 1 := ⟨k - 1, by omega⟩
                have hp := p2_lt hk
                refine r_aload_n 0 h dX0_isThere_42 rfl rfl ?_
                refine r_iload_n 1 h dX0_isThere_43 rfl rfl ?_
                refine r_iconst 1 h dX0_isThere_44 (by decide) ?_
                refine r_isub h dX0_isThere_45 ?_
                rw [nI_pred]
                refine r_iload_n 2 h dX0_isThere_46 rfl rfl ?_
                show Wx _ _ 47 _ _
                refine r_iconst 1 h dX0_isThere_47 (by decide) ?_
                refine r_ishr h dX0_isThere_48 ?_
                rw [shr1 (show a < 2 ^ 31 by omega)]
                refine r_iload_n 3 h dX0_isThere_49 rfl rfl ?_
                refine r_iconst 1 h dX0_isThere_50 (by decide) ?_
                refine r_ishr h dX0_isThere_51 ?_
                rw [shr1 (show b < 2 ^ 31 by omega)]
                refine cV3 h (mX0_pointsIn _ _ _ k (a / 2) (b / 2) (by omega) (half_lt ha) (half_lt hb)) kX0_pointsIn lm_X0_37 (by decide) 8 (pl_8 _ _) rfl (Nat.le_of_ble_eq_true rfl) dX0_isThere_52 ?_
                show Wx _ _ 55 _ _
                refine r_aload_n 0 h dX0_isThere_55 rfl rfl ?_
                refine g8_2 h lf_X0_15 dX0_isThere_56 ?_
                refine r_icmp_le 66 h dX0_isThere_59 (by decide) (fun c59 => ?_) (fun c59 => ?_)
                · refine r_iconst 0 h dX0_isThere_66 (by decide) ?_
                  exact r_zret h hr dX0_isThere_67 rfl (by refine ⟨?_, rfl⟩; rw [thrI, if_neg c1, if_pos c6, if_neg c17, if_neg c23, if_neg c27, if_pos c33]; first | (rw [if_pos c39]; done) | (rw [if_neg c39, show (nI (k + 1)).toNatClampNeg - 1 = k by rw [ncl (by omega)]; rfl, ncl (show a < 2 ^ 31 by omega), ncl (show b < 2 ^ 31 by omega)]; first | (rw [if_pos c59]; done) | (rw [if_neg c59]; done)))
                · refine r_iconst 1 h dX0_isThere_62 (by decide) ?_
                  refine r_goto 67 h dX0_isThere_63 (by decide) ?_
                  exact r_zret h hr dX0_isThere_67 rfl (by refine ⟨?_, rfl⟩; rw [thrI, if_neg c1, if_pos c6, if_neg c17, if_neg c23, if_neg c27, if_pos c33]; first | (rw [if_pos c39]; done) | (rw [if_neg c39, show (nI (k + 1)).toNatClampNeg - 1 = k by rw [ncl (by omega)]; rfl, ncl (show a < 2 ^ 31 by omega), ncl (show b < 2 ^ 31 by omega)]; first | (rw [if_pos c59]; done) | (rw [if_neg c59]; done)))
            · refine r_iconst 0 h dX0_isThere_36 (by decide) ?_
              exact r_zret h hr dX0_isThere_37 rfl ⟨by simp only [thrI, c1, c6, c17, c23, c27, c33, ite_true, ite_false, if_true, if_false, not_true, not_false_iff], rfl⟩
    · refine r_iconst 0 h dX0_isThere_9 (by decide) ?_
      exact r_zret h hr dX0_isThere_10 rfl ⟨by simp only [thrI, c1, c6, ite_true, ite_false, if_true, if_false, not_true, not_false_iff], rfl⟩
set_option maxRecDepth 100000 in
set_option maxHeartbeats 4000000 in
theorem mX0_splitBoxes (l : Launch) (w : Fx) (S : St) : Ct l yX0_splitBoxes cX0_splitBoxes 3 (some .int) 0 w [.ref (aD w 8)] S (fun v S' => v = some (.int (spbI S 341)) ∧ S' = S) := by
  refine Ct.of (by decide) (Nat.le_of_ble_eq_true rfl) (fun X h hr hl hw => ?_)
  subst hl hw
  have h : Ok X cX0_splitBoxes RX0 0 := h
  show Wx X S 0 [.ref (aD (xw X) 8), .null, .null] []
  have loop : ∀ n i : Nat, i + n = 341 → Wx X (S) 4 [.ref (aD (xw X) 8), .int (spbI S i), .int (nI i)] [] := by
    intro n
    induction n with
    | zero =>
      intro i hi
      have hi : i = 341 := by omega
      subst hi
      refine r_iload_n 2 h dX0_splitBoxes_4 rfl rfl ?_
      refine gs_1 h lf_X0_40 dX0_splitBoxes_5 ?_
      refine r_iconst 5 h dX0_splitBoxes_8 (by decide) ?_
      refine at_1 h (vin (i := 5) (by decide)) dX0_splitBoxes_9 ?_
      refine r_icmp_ge_t 35 h dX0_splitBoxes_10 (by decide) (bigT (a := 341) (by omega) (by omega)) ?_
      show Wx _ _ 35 _ _
      refine r_iload_n 1 h dX0_splitBoxes_35 rfl rfl ?_
      exact r_iret h hr dX0_splitBoxes_36 ⟨rfl, rfl⟩
    | succ n ih =>
      intro i hi
      have hq := ih (i + 1) (by omega)
      unfold spbI at hq
      refine r_iload_n 2 h dX0_splitBoxes_4 rfl rfl ?_
      refine gs_1 h lf_X0_40 dX0_splitBoxes_5 ?_
      refine r_iconst 5 h dX0_splitBoxes_8 (by decide) ?_
      refine at_1 h (vin (i := 5) (by decide)) dX0_splitBoxes_9 ?_
      refine r_icmp_ge_f 35 h dX0_splitBoxes_10 (by decide) (bigF (a := 341) (by omega) (by omega)) ?_
      show Wx _ _ 13 _ _
      refine r_aload_n 0 h dX0_splitBoxes_13 rfl rfl ?_
      refine g8_1 h lf_X0_9 dX0_splitBoxes_14 ?_
      refine r_iload_n 2 h dX0_splitBoxes_17 rfl rfl ?_
      refine alN_9 h (by omega) dX0_splitBoxes_18 ?_
      refine r_aload_n 0 h dX0_splitBoxes_19 rfl rfl ?_
      refine g8_2 h lf_X0_15 dX0_splitBoxes_20 ?_
      show Wx _ _ 23 _ _
      refine r_icmp_le 29 h dX0_splitBoxes_23 (by decide) (fun c23 => ?_) (fun c23 => ?_)
      · refine r_iincN h dX0_splitBoxes_29 rfl ?_
        show Wx _ _ _ [_, _, _] _
        refine r_goto 4 h dX0_splitBoxes_32 (by decide) ?_
        first | (rw [if_pos c23] at hq; exact hq) | (rw [if_neg c23] at hq; exact hq)
      · refine r_iinc 1 h dX0_splitBoxes_26 (by decide) rfl ?_
        show Wx _ _ _ [_, _, _] _
        refine r_iincN h dX0_splitBoxes_29 rfl ?_
        show Wx _ _ _ [_, _, _] _
        refine r_goto 4 h dX0_splitBoxes_32 (by decide) ?_
        first | (rw [if_pos c23] at hq; exact hq) | (rw [if_neg c23] at hq; exact hq)
  refine r_iconst 0 h dX0_splitBoxes_0 (by decide) ?_
  refine r_istore_n 1 h dX0_splitBoxes_1 rfl (Nat.le_of_ble_eq_true rfl) ?_
  show Wx _ _ _ [_, _, _] _
  refine r_iconst 0 h dX0_splitBoxes_2 (by decide) ?_
  refine r_istore_n 2 h dX0_splitBoxes_3 rfl (Nat.le_of_ble_eq_true rfl) ?_
  show Wx _ _ _ [_, _, _] _
  exact loop 341 0 rfl
set_option maxRecDepth 100000 in
set_option maxHeartbeats 4000000 in
theorem mX0_greatestLevel (l : Launch) (w : Fx) (S : St) : Ct l yX0_greatestLevel cX0_greatestLevel 3 (some .int) 0 w [.ref (aD w 8)] S (fun v S' => v = some (.int (grI S 5)) ∧ S' = S) := by
  refine Ct.of (by decide) (Nat.le_of_ble_eq_true rfl) (fun X h hr hl hw => ?_)
  subst hl hw
  have h : Ok X cX0_greatestLevel RX0 0 := h
  show Wx X S 0 [.ref (aD (xw X) 8), .null, .null] []
  have offs : ∀ m : Nat, m < 5 → offN m ≤ offN (m + 1) ∧ offN (m + 1) ≤ 341 := by decide
  have loop : ∀ m : Nat, m ≤ 5 → grI S m = grI S 5 → Wx X S 2 [.ref (aD (xw X) 8), .int (nI m), .null] [] := by
    intro m
    induction m with
    | zero =>
      intro hm he
      refine r_iload_n 1 h dX0_greatestLevel_2 rfl rfl ?_
      refine r_if_le_t 50 h dX0_greatestLevel_3 (by decide) (by decide) ?_
      refine r_iconst 0 h dX0_greatestLevel_50 (by decide) ?_
      exact r_iret h hr dX0_greatestLevel_51 ⟨by rw [← he]; rfl, rfl⟩
    | succ m ih =>
      intro hm he
      obtain ⟨o1, o2⟩ := offs m (by omega)
      rw [grI_s] at he
      have inner : ∀ c n : Nat, n + c = offN (m + 1) → srI S (nI (m + 1)) (grI S m) c n = grI S 5 → Wx X S 14 [.ref (aD (xw X) 8), .int (nI (m + 1)), .int (nI n)] [] := by
        intro c
        induction c with
        | zero =>
          intro n hn hs
          have hn : n = offN (m + 1) := by omega
          subst hn
          refine r_iload_n 2 h dX0_greatestLevel_14 rfl rfl ?_
          refine gs_1 h lf_X0_40 dX0_greatestLevel_15 ?_
          refine r_iload_n 1 h dX0_greatestLevel_18 rfl rfl ?_
          refine atN_1 h (by omega) dX0_greatestLevel_19 ?_
          rw [tabF_N (by omega)]
          refine r_icmp_ge_t 44 h dX0_greatestLevel_20 (by decide) (bigT (by omega) (by omega)) ?_
          refine r_iinc (-1) h dX0_greatestLevel_44 (by decide) rfl ?_
          show Wx _ _ _ [_, .int (nI (m + 1) + (-1)), _] _
          rw [pk_m1]
          refine r_goto 2 h dX0_greatestLevel_47 (by decide) ?_
          exact Wx.weak (lv' := [.ref (aD (xw X) 8), .int (nI m), .null]) (And.intro rfl (And.intro rfl trivial)) (ih (by omega) hs)
        | succ c ihc =>
          intro n hn hs
          rw [srI_s] at hs
          refine r_iload_n 2 h dX0_greatestLevel_14 rfl rfl ?_
          refine gs_1 h lf_X0_40 dX0_greatestLevel_15 ?_
          refine r_iload_n 1 h dX0_greatestLevel_18 rfl rfl ?_
          refine atN_1 h (by omega) dX0_greatestLevel_19 ?_
          rw [tabF_N (by omega)]
          refine r_icmp_ge_f 44 h dX0_greatestLevel_20 (by decide) (bigF (by omega) (by omega)) ?_
          show Wx _ _ 23 _ _
          refine r_aload_n 0 h dX0_greatestLevel_23 rfl rfl ?_
          refine g8_1 h lf_X0_9 dX0_greatestLevel_24 ?_
          refine r_iload_n 2 h dX0_greatestLevel_27 rfl rfl ?_
          refine alN_9 h (by omega) dX0_greatestLevel_28 ?_
          refine r_aload_n 0 h dX0_greatestLevel_29 rfl rfl ?_
          refine g8_2 h lf_X0_15 dX0_greatestLevel_30 ?_
          show Wx _ _ 33 _ _
          refine r_icmp_le 38 h dX0_greatestLevel_33 (by decide) (fun c33 => ?_) (fun c33 => ?_)
          · refine r_iincN h dX0_greatestLevel_38 rfl ?_
            show Wx _ _ _ [_, _, _] _
            refine r_goto 14 h dX0_greatestLevel_41 (by decide) ?_
            exact ihc (n + 1) (by omega) (by rw [← hs, if_pos c33])
          · refine r_iload_n 1 h dX0_greatestLevel_36 rfl rfl ?_
            exact r_iret h hr dX0_greatestLevel_37 ⟨by rw [← hs, if_neg c33], rfl⟩
      refine r_iload_n 1 h dX0_greatestLevel_2 rfl rfl ?_
      refine r_if_le_f 50 h dX0_greatestLevel_3 (by decide) (fun z => absurd z (nI_nle (by omega) (by omega))) ?_
      refine gs_1 h lf_X0_40 dX0_greatestLevel_6 ?_
      refine r_iload_n 1 h dX0_greatestLevel_9 rfl rfl ?_
      refine r_iconst 1 h dX0_greatestLevel_10 (by decide) ?_
      show Wx _ _ 11 _ _
      refine r_isub h dX0_greatestLevel_11 ?_
      rw [nI_pred]
      refine atN_1 h (by omega) dX0_greatestLevel_12 ?_
      rw [tabF_N (by omega)]
      refine r_istore_n 2 h dX0_greatestLevel_13 rfl (Nat.le_of_ble_eq_true rfl) ?_
      show Wx _ _ _ [_, _, _] _
      exact inner (offN (m + 1) - offN m) (offN m) (by omega) he
  refine r_iconst 5 h dX0_greatestLevel_0 (by decide) ?_
  refine r_istore_n 1 h dX0_greatestLevel_1 rfl (Nat.le_of_ble_eq_true rfl) ?_
  show Wx _ _ _ [_, _, _] _
  exact loop 5 (by omega) rfl
set_option maxRecDepth 100000 in
set_option maxHeartbeats 4000000 in
theorem mX0_leafLevel (l : Launch) (w : Fx) (S : St) (a b : Nat) (ha : a < 64) (hb : b < 64) : Ct l yX0_leafLevel cX0_leafLevel 4 (some .int) 2 w [.ref (aD w 8), .int (nI a), .int (nI b)] S (fun v S' => v = some (.int (lvI S a b 5 0)) ∧ S' = S) := by
  refine Ct.of (by decide) (Nat.le_of_ble_eq_true rfl) (fun X h hr hl hw => ?_)
  subst hl hw
  have h : Ok X cX0_leafLevel RX0 2 := h
  show Wx X S 0 [.ref (aD (xw X) 8), .int (nI a), .int (nI b), .null] []
  have loop : ∀ n i : Nat, i + n = 5 → lvI S a b n i = lvI S a b 5 0 → Wx X (S) 2 [.ref (aD (xw X) 8), .int (nI a), .int (nI b), .int (nI i)] [] := by
    intro n
    induction n with
    | zero =>
      intro i hi he
      have hi : i = 5 := by omega
      refine r_iload_n 3 h dX0_leafLevel_2 rfl rfl ?_
      refine r_iconst 5 h dX0_leafLevel_3 (by decide) ?_
      refine r_icmp_ge_t 33 h dX0_leafLevel_4 (by decide) (bigT (a := 5) (by omega) (by omega)) ?_
      refine r_iconst 5 h dX0_leafLevel_33 (by decide) ?_
      exact r_iret h hr dX0_leafLevel_34 ⟨by rw [← he]; rfl, rfl⟩
    | succ n ih =>
      intro i hi he
      rw [lvI_s (n := n) (i := i)] at he
      refine r_iload_n 3 h dX0_leafLevel_2 rfl rfl ?_
      refine r_iconst 5 h dX0_leafLevel_3 (by decide) ?_
      refine r_icmp_ge_f 33 h dX0_leafLevel_4 (by decide) (bigF (a := 5) (by omega) (by omega)) ?_
      refine r_aload_n 0 h dX0_leafLevel_7 rfl rfl ?_
      refine g8_1 h lf_X0_9 dX0_leafLevel_8 ?_
      show Wx _ _ 11 _ _
      refine r_iload_n 3 h dX0_leafLevel_11 rfl rfl ?_
      refine r_iload_n 1 h dX0_leafLevel_12 rfl rfl ?_
      refine r_iload_n 2 h dX0_leafLevel_13 rfl rfl ?_
      refine cS3 h (mX0_placeIndexN _ _ _ i a b (by omega) ha hb) kX0_placeIndex lm_X0_30 (by decide) (Nat.le_of_ble_eq_true rfl) dX0_leafLevel_14 ?_
      have hpx := pix_lt (l := i) (by omega) ha hb
      refine alN_9 h (by omega) dX0_leafLevel_17 ?_
      refine r_aload_n 0 h dX0_leafLevel_18 rfl rfl ?_
      show Wx _ _ 19 _ _
      refine g8_2 h lf_X0_15 dX0_leafLevel_19 ?_
      refine r_icmp_gt 27 h dX0_leafLevel_22 (by decide) (fun c22 => ?_) (fun c22 => ?_)
      · refine r_iincN h dX0_leafLevel_27 rfl ?_
        show Wx _ _ _ [_, _, _, _] _
        refine r_goto 2 h dX0_leafLevel_30 (by decide) ?_
        exact ih (i + 1) (by omega) (by rw [← he, if_pos c22])
      · refine r_iload_n 3 h dX0_leafLevel_25 rfl rfl ?_
        exact r_iret h hr dX0_leafLevel_26 ⟨by rw [← he, if_neg c22], rfl⟩
  refine r_iconst 0 h dX0_leafLevel_0 (by decide) ?_
  refine r_istore_n 3 h dX0_leafLevel_1 rfl (Nat.le_of_ble_eq_true rfl) ?_
  show Wx _ _ _ [_, _, _, _] _
  exact loop 5 0 rfl rfl
set_option maxRecDepth 100000 in
set_option maxHeartbeats 4000000 in
theorem mX0_holds (l : Launch) (w : Fx) (S : St) (q i j : Int32) (p : Nat) (hp : p < 40) : Ct l yX0_holds cX0_holds 5 (some .boolean) 1 w [.ref (aD w 8), .int q, .int i, .int j, .int (nI p)] S (fun v S' => v = some (.int (holI S q i j p)) ∧ S' = S) := by
  refine Ct.of (by decide) (Nat.le_of_ble_eq_true rfl) (fun X h hr hl hw => ?_)
  subst hl hw
  have h : Ok X cX0_holds RX0 1 := h
  show Wx X S 0 [.ref (aD (xw X) 8), .int q, .int i, .int j, .int (nI p)] []
  refine r_aload_n 0 h dX0_holds_0 rfl rfl ?_
  refine g8_0 h lf_X0_26 dX0_holds_1 ?_
  refine g1_0 h lf_X0_43 dX0_holds_4 ?_
  refine r_iload h dX0_holds_7 rfl ?_
  refine alN_2 h (by omega) dX0_holds_9 ?_
  show Wx _ _ 10 _ _
  refine r_if_eq 53 h dX0_holds_10 (by decide) (fun c10 => ?_) (fun c10 => ?_)
  · refine r_iconst 0 h dX0_holds_53 (by decide) ?_
    exact r_zret h hr dX0_holds_54 rfl ⟨by simp only [holI, c10, ite_true, ite_false, if_true, if_false, not_true, not_false_iff], rfl⟩
  · refine r_iload_n 1 h dX0_holds_13 rfl rfl ?_
    refine r_aload_n 0 h dX0_holds_14 rfl rfl ?_
    refine g8_0 h lf_X0_26 dX0_holds_15 ?_
    refine g1_1 h lf_X0_49 dX0_holds_18 ?_
    refine r_iload h dX0_holds_21 rfl ?_
    show Wx _ _ 23 _ _
    refine alN_3 h (by omega) dX0_holds_23 ?_
    refine cS2 h (mX0_numberAt _ _ _ q _) kX0_numberAt lm_X0_52 (by decide) (Nat.le_of_ble_eq_true rfl) dX0_holds_24 ?_
    refine r_iload_n 2 h dX0_holds_27 rfl rfl ?_
    refine r_icmp_ne 53 h dX0_holds_28 (by decide) (fun c28 => ?_) (fun c28 => ?_)
    · refine r_iconst 0 h dX0_holds_53 (by decide) ?_
      exact r_zret h hr dX0_holds_54 rfl ⟨by simp only [holI, c10, c28, ite_true, ite_false, if_true, if_false, not_true, not_false_iff], rfl⟩
    · refine r_iload_n 1 h dX0_holds_31 rfl rfl ?_
      refine r_aload_n 0 h dX0_holds_32 rfl rfl ?_
      refine g8_0 h lf_X0_26 dX0_holds_33 ?_
      refine g1_2 h lf_X0_56 dX0_holds_36 ?_
      refine r_iload h dX0_holds_39 rfl ?_
      show Wx _ _ 41 _ _
      refine alN_4 h (by omega) dX0_holds_41 ?_
      refine cS2 h (mX0_numberAt _ _ _ q _) kX0_numberAt lm_X0_52 (by decide) (Nat.le_of_ble_eq_true rfl) dX0_holds_42 ?_
      refine r_iload_n 3 h dX0_holds_45 rfl rfl ?_
      refine r_icmp_ne 53 h dX0_holds_46 (by decide) (fun c46 => ?_) (fun c46 => ?_)
      · refine r_iconst 0 h dX0_holds_53 (by decide) ?_
        exact r_zret h hr dX0_holds_54 rfl ⟨by simp only [holI, c10, c28, c46, ite_true, ite_false, if_true, if_false, not_true, not_false_iff], rfl⟩
      · refine r_iconst 1 h dX0_holds_49 (by decide) ?_
        refine r_goto 54 h dX0_holds_50 (by decide) ?_
        exact r_zret h hr dX0_holds_54 rfl ⟨by simp only [holI, c10, c28, c46, ite_true, ite_false, if_true, if_false, not_true, not_false_iff], rfl⟩
set_option maxRecDepth 100000 in
set_option maxHeartbeats 4000000 in
theorem mX0_addMoments (l : Launch) (w : Fx) (S : St) (q dx dy : Int32) : Ct l yX0_addMoments cX0_addMoments 10 none 1 w [.ref (aD w 8), .int q, .int dx, .int dy] S (fun v S' => v = none ∧ S' = amA S q.toInt64 dx.toInt64 dy.toInt64 5) := by
  refine Ct.of (by decide) (Nat.le_of_ble_eq_true rfl) (fun X h hr hl hw => ?_)
  subst hl hw
  have h : Ok X cX0_addMoments RX0 1 := h
  show Wx X S 0 [.ref (aD (xw X) 8), .int q, .int dx, .int dy, .null, .null, .null, .null, .null, .null] []
  have loop : ∀ n a : Nat, a + n = 5 → Wx X (amA S q.toInt64 dx.toInt64 dy.toInt64 a) 7 [.ref (aD (xw X) 8), .int q, .int dx, .int dy, .long (pw q.toInt64 dx.toInt64 a), .null, .int (nI a), .null, .null, .null] [] := by
    intro n
    induction n with
    | zero =>
      intro a ha
      have ha : a = 5 := by omega
      subst ha
      refine r_iload h dX0_addMoments_7 rfl ?_
      refine r_iconst 4 h dX0_addMoments_9 (by decide) ?_
      refine r_icmp_gt_t 72 h dX0_addMoments_10 (by decide) (gtT (a := 4) (by omega) (by omega)) ?_
      exact r_vret h hr dX0_addMoments_72 ⟨rfl, rfl⟩
    | succ n ih =>
      intro a ha
      have hq := ih (a + 1) (by omega)
      rw [amA_s] at hq
      generalize hT : amA S q.toInt64 dx.toInt64 dy.toInt64 a = T at hq ⊢
      have inner : ∀ n b : Nat, b + n = 5 - a → Wx X (amB T a (pw q.toInt64 dx.toInt64 a) dy.toInt64 b) 20 [.ref (aD (xw X) 8), .int q, .int dx, .int dy, .long (pw q.toInt64 dx.toInt64 a), .null, .int (nI a), .long (pw (pw q.toInt64 dx.toInt64 a) dy.toInt64 b), .null, .int (nI b)] [] := by
        intro n
        induction n with
        | zero =>
          intro b hb
          have hb : b = 5 - a := by omega
          subst hb
          refine r_iload h dX0_addMoments_20 rfl ?_
          refine r_iload h dX0_addMoments_22 rfl ?_
          refine r_iadd h dX0_addMoments_24 ?_
          refine r_iconst 4 h dX0_addMoments_25 (by decide) ?_
          refine r_icmp_gt_t 59 h dX0_addMoments_26 (by decide) (by rw [nI_add]; exact gtT (a := 4) (by omega) (by omega)) ?_
          show Wx _ _ 59 _ _
          refine r_lload h dX0_addMoments_59 rfl ?_
          refine r_iload_n 2 h dX0_addMoments_61 rfl rfl ?_
          refine r_i2l h dX0_addMoments_62 ?_
          refine r_lmul h dX0_addMoments_63 ?_
          refine r_lstore h dX0_addMoments_64 (Nat.le_of_ble_eq_true rfl) ?_
          show Wx _ _ _ [_, _, _, _, _, _, _, _, _, _] _
          refine r_iincN h dX0_addMoments_66 rfl ?_
          show Wx _ _ _ [_, _, _, _, _, _, _, _, _, _] _
          show Wx _ _ 69 _ _
          refine r_goto 7 h dX0_addMoments_69 (by decide) ?_
          exact Wx.weak (lv' := [.ref (aD (xw X) 8), .int q, .int dx, .int dy, .long (pw q.toInt64 dx.toInt64 (a + 1)), .null, .int (nI (a + 1)), .null, .null, .null]) (And.intro rfl (And.intro rfl (And.intro rfl (And.intro rfl (And.intro rfl (And.intro rfl trivial)))))) (hq)
        | succ n ihb =>
          intro b hb
          have hp := ihb (b + 1) (by omega)
          rw [amB_s] at hp
          refine r_iload h dX0_addMoments_20 rfl ?_
          refine r_iload h dX0_addMoments_22 rfl ?_
          refine r_iadd h dX0_addMoments_24 ?_
          refine r_iconst 4 h dX0_addMoments_25 (by decide) ?_
          refine r_icmp_gt_f 59 h dX0_addMoments_26 (by decide) (by rw [nI_add]; exact gtF (a := 4) (by omega) (by omega)) ?_
          show Wx _ _ 29 _ _
          refine r_aload_n 0 h dX0_addMoments_29 rfl rfl ?_
          refine g8_3 h lf_X0_19 dX0_addMoments_30 ?_
          refine r_iload h dX0_addMoments_33 rfl ?_
          refine r_iload h dX0_addMoments_35 rfl ?_
          refine cN2 h (mX6_slotN _ _ _ a b) kX6_slot ln_X0_79 (by decide) (Nat.le_of_ble_eq_true rfl) dX0_addMoments_37 ?_
          refine r_dup2 h dX0_addMoments_40 rfl rfl ?_
          show Wx _ _ 41 _ _
          refine alN_10 h (by omega) dX0_addMoments_41 ?_
          refine r_lload h dX0_addMoments_42 rfl ?_
          refine r_ladd h dX0_addMoments_44 ?_
          refine asN_10 h (by omega) dX0_addMoments_45 ?_
          refine r_lload h dX0_addMoments_46 rfl ?_
          refine r_iload_n 3 h dX0_addMoments_48 rfl rfl ?_
          show Wx _ _ 49 _ _
          refine r_i2l h dX0_addMoments_49 ?_
          refine r_lmul h dX0_addMoments_50 ?_
          refine r_lstore h dX0_addMoments_51 (Nat.le_of_ble_eq_true rfl) ?_
          show Wx _ _ _ [_, _, _, _, _, _, _, _, _, _] _
          refine r_iincN h dX0_addMoments_53 rfl ?_
          show Wx _ _ _ [_, _, _, _, _, _, _, _, _, _] _
          refine r_goto 20 h dX0_addMoments_56 (by decide) ?_
          exact hp
      refine r_iload h dX0_addMoments_7 rfl ?_
      refine r_iconst 4 h dX0_addMoments_9 (by decide) ?_
      refine r_icmp_gt_f 72 h dX0_addMoments_10 (by decide) (gtF (a := 4) (by omega) (by omega)) ?_
      refine r_lload h dX0_addMoments_13 rfl ?_
      refine r_lstore h dX0_addMoments_15 (Nat.le_of_ble_eq_true rfl) ?_
      show Wx _ _ _ [_, _, _, _, _, _, _, _, _, _] _
      show Wx _ _ 17 _ _
      refine r_iconst 0 h dX0_addMoments_17 (by decide) ?_
      refine r_istore h dX0_addMoments_18 (Nat.le_of_ble_eq_true rfl) ?_
      show Wx _ _ _ [_, _, _, _, _, _, _, _, _, _] _
      exact inner (5 - a) 0 (by omega)
  refine r_iload_n 1 h dX0_addMoments_0 rfl rfl ?_
  refine r_i2l h dX0_addMoments_1 ?_
  refine r_lstore h dX0_addMoments_2 (Nat.le_of_ble_eq_true rfl) ?_
  show Wx _ _ _ [_, _, _, _, _, _, _, _, _, _] _
  refine r_iconst 0 h dX0_addMoments_4 (by decide) ?_
  refine r_istore h dX0_addMoments_5 (Nat.le_of_ble_eq_true rfl) ?_
  show Wx _ _ _ [_, _, _, _, _, _, _, _, _, _] _
  exact loop 5 0 (by omega)
set_option maxRecDepth 100000 in
set_option maxHeartbeats 4000000 in
theorem mX0_gather (l : Launch) (w : Fx) (S : St) (q i j : Int32) : Ct l yX0_gather cX0_gather 5 none 2 w [.ref (aD w 8), .int q, .int i, .int j] S (fun v S' => v = none ∧ S' = gatS S q i j) := by
  refine Ct.of (by decide) (Nat.le_of_ble_eq_true rfl) (fun X h hr hl hw => ?_)
  subst hl hw
  have h : Ok X cX0_gather RX0 2 := h
  show Wx X S 0 [.ref (aD (xw X) 8), .int q, .int i, .int j, .null] []
  have loop2 : ∀ n p : Nat, p + n = 40 → Wx X (gaT S q i j p) 32 [.ref (aD (xw X) 8), .int q, .int i, .int j, .int (nI p)] [] := by
    intro n
    induction n with
    | zero =>
      intro p hi
      have hi : p = 40 := by omega
      subst hi
      refine r_iload h dX0_gather_32 rfl ?_
      refine r_bipush 40 h dX0_gather_34 (by decide) ?_
      refine r_icmp_ge_t 123 h dX0_gather_36 (by decide) (bigT (a := 40) (by omega) (by omega)) ?_
      exact r_vret h hr dX0_gather_123 ⟨rfl, rfl⟩
    | succ n ih =>
      intro p hi
      have hq := ih (p + 1) (by omega)
      rw [gaT_s] at hq
      refine r_iload h dX0_gather_32 rfl ?_
      refine r_bipush 40 h dX0_gather_34 (by decide) ?_
      refine r_icmp_ge_f 123 h dX0_gather_36 (by decide) (bigF (a := 40) (by omega) (by omega)) ?_
      refine r_aload_n 0 h dX0_gather_39 rfl rfl ?_
      refine r_iload_n 1 h dX0_gather_40 rfl rfl ?_
      show Wx _ _ 41 _ _
      refine r_iload_n 2 h dX0_gather_41 rfl rfl ?_
      refine r_iload_n 3 h dX0_gather_42 rfl rfl ?_
      refine r_iload h dX0_gather_43 rfl ?_
      refine cV4 h (mX0_holds _ _ _ q i j p (by omega)) kX0_holds lm_X0_59 (by decide) 8 (pl_8 _ _) rfl (Nat.le_of_ble_eq_true rfl) dX0_gather_45 ?_
      refine r_if_eq 117 h dX0_gather_48 (by decide) (fun c48 => ?_) (fun c48 => ?_)
      · refine r_iincN h dX0_gather_117 rfl ?_
        show Wx _ _ _ [_, _, _, _, _] _
        refine r_goto 32 h dX0_gather_120 (by decide) ?_
        first | (rw [if_pos c48] at hq; exact hq) | (rw [if_neg c48] at hq; exact hq)
      · refine r_aload_n 0 h dX0_gather_51 rfl rfl ?_
        refine r_aload_n 0 h dX0_gather_52 rfl rfl ?_
        refine g8_0 h lf_X0_26 dX0_gather_53 ?_
        refine g1_3 h lf_X0_63 dX0_gather_56 ?_
        refine r_iload h dX0_gather_59 rfl ?_
        show Wx _ _ 61 _ _
        refine alN_5 h (by omega) dX0_gather_61 ?_
        refine r_aload_n 0 h dX0_gather_62 rfl rfl ?_
        refine g8_0 h lf_X0_26 dX0_gather_63 ?_
        refine g1_1 h lf_X0_49 dX0_gather_66 ?_
        refine r_iload h dX0_gather_69 rfl ?_
        refine alN_3 h (by omega) dX0_gather_71 ?_
        show Wx _ _ 72 _ _
        refine r_iload_n 1 h dX0_gather_72 rfl rfl ?_
        refine r_iload_n 2 h dX0_gather_73 rfl rfl ?_
        refine cN3 h (mX6_fromMiddle _ _ _ _ q i) kX6_fromMiddle ln_X0_66 (by decide) (Nat.le_of_ble_eq_true rfl) dX0_gather_74 ?_
        refine r_aload_n 0 h dX0_gather_77 rfl rfl ?_
        refine g8_0 h lf_X0_26 dX0_gather_78 ?_
        refine g1_2 h lf_X0_56 dX0_gather_81 ?_
        show Wx _ _ 84 _ _
        refine r_iload h dX0_gather_84 rfl ?_
        refine alN_4 h (by omega) dX0_gather_86 ?_
        refine r_iload_n 1 h dX0_gather_87 rfl rfl ?_
        refine r_iload_n 3 h dX0_gather_88 rfl rfl ?_
        refine cN3 h (mX6_fromMiddle _ _ _ _ q j) kX6_fromMiddle ln_X0_66 (by decide) (Nat.le_of_ble_eq_true rfl) dX0_gather_89 ?_
        refine cV3v h (mX0_addMoments _ _ _ _ _ _) kX0_addMoments lm_X0_69 (by decide) 8 (pl_8 _ _) rfl (Nat.le_of_ble_eq_true rfl) dX0_gather_92 ?_
        show Wx _ _ 95 _ _
        refine r_aload_n 0 h dX0_gather_95 rfl rfl ?_
        refine r_dup h dX0_gather_96 rfl ?_
        refine g8_4 h lf_X0_23 dX0_gather_97 ?_
        refine r_aload_n 0 h dX0_gather_100 rfl rfl ?_
        refine g8_0 h lf_X0_26 dX0_gather_101 ?_
        refine g1_3 h lf_X0_63 dX0_gather_104 ?_
        show Wx _ _ 107 _ _
        refine r_iload h dX0_gather_107 rfl ?_
        refine alN_5 h (by omega) dX0_gather_109 ?_
        refine r_absI h lm_X0_73 (by decide) (Nat.le_of_ble_eq_true rfl) dX0_gather_110 ?_
        refine r_iadd h dX0_gather_113 ?_
        refine p8_4 h lf_X0_23 dX0_gather_114 ?_
        refine r_iincN h dX0_gather_117 rfl ?_
        show Wx _ _ _ [_, _, _, _, _] _
        show Wx _ _ 120 _ _
        refine r_goto 32 h dX0_gather_120 (by decide) ?_
        first | (rw [if_pos c48] at hq; exact hq) | (rw [if_neg c48] at hq; exact hq)
  have loop1 : ∀ n n2 : Nat, n2 + n = 25 → Wx X (clrS S 0 n2) 3 [.ref (aD (xw X) 8), .int q, .int i, .int j, .int (nI n2)] [] := by
    intro n
    induction n with
    | zero =>
      intro n2 hi
      have hi : n2 = 25 := by omega
      subst hi
      refine r_iload h dX0_gather_3 rfl ?_
      refine r_bipush 25 h dX0_gather_5 (by decide) ?_
      refine r_icmp_ge_t 24 h dX0_gather_7 (by decide) (bigT (a := 25) (by omega) (by omega)) ?_
      refine r_aload_n 0 h dX0_gather_24 rfl rfl ?_
      refine r_iconst 0 h dX0_gather_25 (by decide) ?_
      show Wx _ _ 26 _ _
      refine p8_4 h lf_X0_23 dX0_gather_26 ?_
      refine r_iconst 0 h dX0_gather_29 (by decide) ?_
      refine r_istore h dX0_gather_30 (Nat.le_of_ble_eq_true rfl) ?_
      show Wx _ _ _ [_, _, _, _, _] _
      exact loop2 40 0 rfl
    | succ n ih =>
      intro n2 hi
      have hq := ih (n2 + 1) (by omega)
      unfold clrS at hq
      refine r_iload h dX0_gather_3 rfl ?_
      refine r_bipush 25 h dX0_gather_5 (by decide) ?_
      refine r_icmp_ge_f 24 h dX0_gather_7 (by decide) (bigF (a := 25) (by omega) (by omega)) ?_
      refine r_aload_n 0 h dX0_gather_10 rfl rfl ?_
      refine g8_3 h lf_X0_19 dX0_gather_11 ?_
      show Wx _ _ 14 _ _
      refine r_iload h dX0_gather_14 rfl ?_
      refine r_lconst 0 h dX0_gather_16 (by decide) ?_
      refine asN_10 h (by omega) dX0_gather_17 ?_
      refine r_iincN h dX0_gather_18 rfl ?_
      show Wx _ _ _ [_, _, _, _, _] _
      refine r_goto 3 h dX0_gather_21 (by decide) ?_
      exact hq
  refine r_iconst 0 h dX0_gather_0 (by decide) ?_
  refine r_istore h dX0_gather_1 (Nat.le_of_ble_eq_true rfl) ?_
  show Wx _ _ _ [_, _, _, _, _] _
  exact loop1 25 0 rfl
end
section
theorem sI_ne {S : St} {k i a : Nat} {v : Int32} (h : a ≠ k) : (sI S k i v).1 a = S.1 a := if_neg h
theorem sI_eq {S : St} {k i : Nat} {v : Int32} : (sI S k i v).1 k = upd (S.1 k) i v := if_pos rfl
theorem sI_J {S : St} {k i : Nat} {v : Int32} : (sI S k i v).2 = S.2 := rfl
theorem sJ_ne {S : St} {k i a : Nat} {v : Int64} (h : a ≠ k) : (sJ S k i v).2 a = S.2 a := if_neg h
theorem sJ_eq {S : St} {k i : Nat} {v : Int64} : (sJ S k i v).2 k = vp_updL (S.2 k) i v := if_pos rfl
theorem sJ_I {S : St} {k i : Nat} {v : Int64} : (sJ S k i v).1 = S.1 := rfl
theorem upd_eq {f : Nat → Int32} {i : Nat} {v : Int32} : upd f i v i = v := if_pos rfl
theorem upd_ne {f : Nat → Int32} {i j : Nat} {v : Int32} (h : j ≠ i) : upd f i v j = f j := if_neg h
theorem updL_eq {f : Nat → Int64} {i : Nat} {v : Int64} : vp_updL f i v i = v := if_pos rfl
theorem updL_ne {f : Nat → Int64} {i j : Nat} {v : Int64} (h : j ≠ i) : vp_updL f i v j = f j := if_neg h
def lenOk (S : St) : Prop := ∃ n : Nat, n ≤ 40 ∧ S.1 13 0 = nI n
theorem lenOk_nn {S : St} (h : lenOk S) : ¬ S.1 13 0 < 0 := by
  obtain ⟨n, hn, e⟩ := h
  rw [e]; exact nI_pos (by omega)
theorem lenOk_le {S : St} (h : lenOk S) : S.1 13 0 ≤ 40 := by
  obtain ⟨n, hn, e⟩ := h
  rw [e]; exact nI_le (b := 40) hn (by decide)
def notS (S : St) (a b c : Int32) : St := if 40 ≤ S.1 13 0 then S else sI (sI (sI (sI S 10 (S.1 13 0).toNatClampNeg a) 11 (S.1 13 0).toNatClampNeg b) 12 (S.1 13 0).toNatClampNeg c) 13 0 (S.1 13 0 + 1)
theorem notS_ok {S : St} {a b c : Int32} (h : lenOk S) : lenOk (notS S a b c) := by
  unfold notS
  by_cases q : (40 : Int32) ≤ S.1 13 0
  · rw [if_pos q]; exact h
  · rw [if_neg q]
    obtain ⟨n, hn, e⟩ := h
    refine ⟨n + 1, ?_, ?_⟩
    · rcases Nat.lt_or_ge n 40 with z | z
      · omega
      · exact absurd (by rw [e]; exact nI_le (a := 40) z (by omega)) q
    · rw [sI_eq, upd_eq, e, nI_1]
def npS (S : St) (l i j : Int32) : Nat → St
  | 0 => S
  | p + 1 => if holI (npS S l i j p) l i j p = 0 then npS S l i j p else notS (npS S l i j p) (-1) (nI p) (-1)
theorem npS_s {S : St} {l i j : Int32} {p : Nat} : npS S l i j (p + 1) = if holI (npS S l i j p) l i j p = 0 then npS S l i j p else notS (npS S l i j p) (-1) (nI p) (-1) := rfl
theorem npS_ok {S : St} {l i j : Int32} (h : lenOk S) : ∀ p, lenOk (npS S l i j p)
  | 0 => h
  | p + 1 => by
    rw [npS_s]
    split
    · exact npS_ok h p
    · exact notS_ok (npS_ok h p)
def farI (S : St) (l i j : Int32) : Int32 := if 2 * sideI l * S.1 16 0 ≤ absI (frmI (S.1 14 0) l i) then 1 else if absI (frmI (S.1 15 0) l j) < 2 * sideI l * S.1 16 0 then 0 else 1
def visS : Nat → St → Nat → Nat → Nat → St
  | 0, S, _, _, _ => S
  | d + 1, S, l, i, j => if (5 : Int32) < nI l then S else if S.1 7 (bixN l i j) = 0 then S else if farI S (nI l) (nI i) (nI j) = 0 then (if splI S l i j = 0 then npS S (nI l) (nI i) (nI j) 40 else visS d (visS d (visS d (visS d S (l + 1) (2 * i) (2 * j)) (l + 1) (2 * i + 1) (2 * j)) (l + 1) (2 * i) (2 * j + 1)) (l + 1) (2 * i + 1) (2 * j + 1)) else notS S (nI l) (nI i) (nI j)
theorem visS_s {d : Nat} {S : St} {l i j : Nat} : visS (d + 1) S l i j = if (5 : Int32) < nI l then S else if S.1 7 (bixN l i j) = 0 then S else if farI S (nI l) (nI i) (nI j) = 0 then (if splI S l i j = 0 then npS S (nI l) (nI i) (nI j) 40 else visS d (visS d (visS d (visS d S (l + 1) (2 * i) (2 * j)) (l + 1) (2 * i + 1) (2 * j)) (l + 1) (2 * i) (2 * j + 1)) (l + 1) (2 * i + 1) (2 * j + 1)) else notS S (nI l) (nI i) (nI j) := rfl
theorem visS_ok : ∀ (d : Nat) {S : St} {l i j : Nat}, lenOk S → lenOk (visS d S l i j)
  | 0, _, _, _, _, h => h
  | d + 1, S, l, i, j, h => by
    rw [visS_s]
    split
    · exact h
    split
    · exact h
    split
    · split
      · exact npS_ok h 40
      · exact visS_ok d (visS_ok d (visS_ok d (visS_ok d h)))
    · exact notS_ok h
def trcS (S : St) (x y t : Int32) : St := visS 6 (sI (sI (sI (sI S 14 0 x) 15 0 y) 16 0 t) 13 0 0) 0 0 0
theorem trc_ok (S : St) (x y t : Int32) : lenOk (trcS S x y t) := visS_ok 6 ⟨0, by omega, rfl⟩
def rdI (S : St) (k q : Int32) : Int32 := if k < 0 then -1 else if k < S.1 13 0 then (if q = 0 then S.1 10 k.toNatClampNeg else if q = 1 then S.1 11 k.toNatClampNeg else S.1 12 k.toNatClampNeg) else -1
theorem rd_in {S : St} {k : Int32} (h : lenOk S) (h1 : ¬ k < 0) (h2 : k < S.1 13 0) : vp_in k 40 := by
  refine ixN (N := 40) (by decide) h1 (fun z => ?_)
  exact absurd (Int32.lt_of_lt_of_le h2 (lenOk_le h)) (Int32.not_lt.mpr z)
theorem nI_2 (i : Nat) : 2 * nI i = nI (2 * i) := pk_mul 2 i
theorem dbl {i k : Nat} (h : i < 2 ^ k) : 2 * i < 2 ^ (k + 1) := by rw [Nat.pow_succ]; omega
theorem dbl1 {i k : Nat} (h : i < 2 ^ k) : 2 * i + 1 < 2 ^ (k + 1) := by rw [Nat.pow_succ]; omega
theorem spl_lt {S : St} {l i j : Nat} (hl : l ≤ 5) (h : ¬ splI S l i j = 0) : l < 5 := by
  rcases Nat.lt_or_ge l 5 with q | q
  · exact q
  · have : l = 5 := by omega
    subst this
    exact absurd (by unfold splI; rw [if_pos (show (5 : Int32) ≤ nI 5 by decide)]) h
set_option maxRecDepth 100000 in
set_option maxHeartbeats 4000000 in
theorem mX5_note (l : Launch) (w : Fx) (S : St) (a b c : Int32) (hlen : lenOk S) : Ct l yX5_note cX5_note 4 none 0 w [.ref (aD w 16), .int a, .int b, .int c] S (fun v S' => v = none ∧ S' = notS S a b c) := by
  refine Ct.of (by decide) (Nat.le_of_ble_eq_true rfl) (fun X h hr hl hw => ?_)
  subst hl hw
  have h : Ok X cX5_note RX5 0 := h
  show Wx X S 0 [.ref (aD (xw X) 16), .int a, .int b, .int c] []
  refine r_aload_n 0 h dX5_note_0 rfl rfl ?_
  refine g16_5 h lf_X5_21 dX5_note_1 ?_
  refine r_bipush 40 h dX5_note_4 (by decide) ?_
  refine r_icmp_ge 49 h dX5_note_6 (by decide) (fun c6 => ?_) (fun c6 => ?_)
  · exact r_vret h hr dX5_note_49 ⟨rfl, by unfold notS; first | (rw [if_pos c6]; done) | (rw [if_neg c6]; rfl)⟩
  · refine r_aload_n 0 h dX5_note_9 rfl rfl ?_
    refine g16_2 h lf_X5_9 dX5_note_10 ?_
    refine r_aload_n 0 h dX5_note_13 rfl rfl ?_
    refine g16_5 h lf_X5_21 dX5_note_14 ?_
    refine r_iload_n 1 h dX5_note_17 rfl rfl ?_
    show Wx _ _ 18 _ _
    refine as_17 h (show vp_in (S.1 13 0) 40 from ixN (N := 40) (by decide) (lenOk_nn hlen) c6) dX5_note_18 ?_
    refine r_aload_n 0 h dX5_note_19 rfl rfl ?_
    refine g16_3 h lf_X5_15 dX5_note_20 ?_
    refine r_aload_n 0 h dX5_note_23 rfl rfl ?_
    refine g16_5 h lf_X5_21 dX5_note_24 ?_
    refine r_iload_n 2 h dX5_note_27 rfl rfl ?_
    show Wx _ _ 28 _ _
    refine as_18 h (show vp_in (S.1 13 0) 40 from ixN (N := 40) (by decide) (lenOk_nn hlen) c6) dX5_note_28 ?_
    refine r_aload_n 0 h dX5_note_29 rfl rfl ?_
    refine g16_4 h lf_X5_18 dX5_note_30 ?_
    refine r_aload_n 0 h dX5_note_33 rfl rfl ?_
    refine g16_5 h lf_X5_21 dX5_note_34 ?_
    refine r_iload_n 3 h dX5_note_37 rfl rfl ?_
    show Wx _ _ 38 _ _
    refine as_19 h (show vp_in (S.1 13 0) 40 from ixN (N := 40) (by decide) (lenOk_nn hlen) c6) dX5_note_38 ?_
    refine r_aload_n 0 h dX5_note_39 rfl rfl ?_
    refine r_dup h dX5_note_40 rfl ?_
    refine g16_5 h lf_X5_21 dX5_note_41 ?_
    refine r_iconst 1 h dX5_note_44 (by decide) ?_
    refine r_iadd h dX5_note_45 ?_
    show Wx _ _ 46 _ _
    refine p16_5 h lf_X5_21 dX5_note_46 ?_
    exact r_vret h hr dX5_note_49 ⟨rfl, by unfold notS; first | (rw [if_pos c6]; done) | (rw [if_neg c6]; rfl)⟩
set_option maxRecDepth 100000 in
set_option maxHeartbeats 4000000 in
theorem mX5_notePoints (l : Launch) (w : Fx) (S : St) (q i j : Int32) (hlen : lenOk S) : Ct l yX5_notePoints cX5_notePoints 5 none 2 w [.ref (aD w 16), .int q, .int i, .int j] S (fun v S' => v = none ∧ S' = npS S q i j 40) := by
  refine Ct.of (by decide) (Nat.le_of_ble_eq_true rfl) (fun X h hr hl hw => ?_)
  subst hl hw
  have h : Ok X cX5_notePoints RX5 2 := h
  show Wx X S 0 [.ref (aD (xw X) 16), .int q, .int i, .int j, .null] []
  have loop : ∀ n p : Nat, p + n = 40 → Wx X (npS S q i j p) 3 [.ref (aD (xw X) 16), .int q, .int i, .int j, .int (nI p)] [] := by
    intro n
    induction n with
    | zero =>
      intro p hi
      have hi : p = 40 := by omega
      subst hi
      refine r_iload h dX5_notePoints_3 rfl ?_
      refine r_bipush 40 h dX5_notePoints_5 (by decide) ?_
      refine r_icmp_ge_t 39 h dX5_notePoints_7 (by decide) (bigT (a := 40) (by omega) (by omega)) ?_
      exact r_vret h hr dX5_notePoints_39 ⟨rfl, rfl⟩
    | succ n ih =>
      intro p hi
      have hq := ih (p + 1) (by omega)
      rw [npS_s] at hq
      refine r_iload h dX5_notePoints_3 rfl ?_
      refine r_bipush 40 h dX5_notePoints_5 (by decide) ?_
      refine r_icmp_ge_f 39 h dX5_notePoints_7 (by decide) (bigF (a := 40) (by omega) (by omega)) ?_
      refine r_aload_n 0 h dX5_notePoints_10 rfl rfl ?_
      refine g16_1 h lf_X5_38 dX5_notePoints_11 ?_
      show Wx _ _ 14 _ _
      refine r_iload_n 1 h dX5_notePoints_14 rfl rfl ?_
      refine r_iload_n 2 h dX5_notePoints_15 rfl rfl ?_
      refine r_iload_n 3 h dX5_notePoints_16 rfl rfl ?_
      refine r_iload h dX5_notePoints_17 rfl ?_
      refine cV4 h (mX0_holds _ _ _ q i j p (by omega)) kX0_holds lm_X5_77 (by decide) 8 (pl_8 _ _) rfl (Nat.le_of_ble_eq_true rfl) dX5_notePoints_19 ?_
      refine r_if_eq 33 h dX5_notePoints_22 (by decide) (fun c22 => ?_) (fun c22 => ?_)
      · refine r_iincN h dX5_notePoints_33 rfl ?_
        show Wx _ _ _ [_, _, _, _, _] _
        refine r_goto 3 h dX5_notePoints_36 (by decide) ?_
        first | (rw [if_pos c22] at hq; exact hq) | (rw [if_neg c22] at hq; exact hq)
      · refine r_aload_n 0 h dX5_notePoints_25 rfl rfl ?_
        refine r_iconst (-1) h dX5_notePoints_26 (by decide) ?_
        refine r_iload h dX5_notePoints_27 rfl ?_
        refine r_iconst (-1) h dX5_notePoints_29 (by decide) ?_
        refine cV3v h (mX5_note _ _ _ (-1) (nI p) (-1) (npS_ok hlen p)) kX5_note lm_X5_56 (by decide) 16 (pl_16 _ _) rfl (Nat.le_of_ble_eq_true rfl) dX5_notePoints_30 ?_
        show Wx _ _ 33 _ _
        refine r_iincN h dX5_notePoints_33 rfl ?_
        show Wx _ _ _ [_, _, _, _, _] _
        refine r_goto 3 h dX5_notePoints_36 (by decide) ?_
        first | (rw [if_pos c22] at hq; exact hq) | (rw [if_neg c22] at hq; exact hq)
  refine r_iconst 0 h dX5_notePoints_0 (by decide) ?_
  refine r_istore h dX5_notePoints_1 (Nat.le_of_ble_eq_true rfl) ?_
  show Wx _ _ _ [_, _, _, _, _] _
  exact loop 40 0 rfl
set_option maxRecDepth 100000 in
set_option maxHeartbeats 4000000 in
theorem mX5_isFar (l : Launch) (w : Fx) (S : St) (q i j : Int32) : Ct l yX5_isFar cX5_isFar 5 (some .boolean) 2 w [.ref (aD w 16), .int q, .int i, .int j] S (fun v S' => v = some (.int (farI S q i j)) ∧ S' = S) := by
  refine Ct.of (by decide) (Nat.le_of_ble_eq_true rfl) (fun X h hr hl hw => ?_)
  subst hl hw
  have h : Ok X cX5_isFar RX5 2 := h
  show Wx X S 0 [.ref (aD (xw X) 16), .int q, .int i, .int j, .null] []
  refine r_iconst 2 h dX5_isFar_0 (by decide) ?_
  refine r_iload_n 1 h dX5_isFar_1 rfl rfl ?_
  refine cN1 h (mX6_sideOf _ _ _ q) kX6_sideOf ln_X5_65 (by decide) (Nat.le_of_ble_eq_true rfl) dX5_isFar_2 ?_
  refine r_imul h dX5_isFar_5 ?_
  refine r_aload_n 0 h dX5_isFar_6 rfl rfl ?_
  show Wx _ _ 7 _ _
  refine g16_8 h lf_X5_31 dX5_isFar_7 ?_
  refine r_imul h dX5_isFar_10 ?_
  refine r_istore h dX5_isFar_11 (Nat.le_of_ble_eq_true rfl) ?_
  show Wx _ _ _ [_, _, _, _, _] _
  refine r_aload_n 0 h dX5_isFar_13 rfl rfl ?_
  refine g16_6 h lf_X5_25 dX5_isFar_14 ?_
  refine r_iload_n 1 h dX5_isFar_17 rfl rfl ?_
  show Wx _ _ 18 _ _
  refine r_iload_n 2 h dX5_isFar_18 rfl rfl ?_
  refine cN3 h (mX6_fromMiddle _ _ _ _ q i) kX6_fromMiddle ln_X5_69 (by decide) (Nat.le_of_ble_eq_true rfl) dX5_isFar_19 ?_
  refine r_absI h lm_X5_72 (by decide) (Nat.le_of_ble_eq_true rfl) dX5_isFar_22 ?_
  refine r_iload h dX5_isFar_25 rfl ?_
  refine r_icmp_ge 47 h dX5_isFar_27 (by decide) (fun c27 => ?_) (fun c27 => ?_)
  · refine r_iconst 1 h dX5_isFar_47 (by decide) ?_
    refine r_goto 52 h dX5_isFar_48 (by decide) ?_
    exact r_zret h hr dX5_isFar_52 rfl ⟨by simp only [farI, c27, ite_true, ite_false, if_true, if_false, not_true, not_false_iff], rfl⟩
  · refine r_aload_n 0 h dX5_isFar_30 rfl rfl ?_
    refine g16_7 h lf_X5_28 dX5_isFar_31 ?_
    refine r_iload_n 1 h dX5_isFar_34 rfl rfl ?_
    refine r_iload_n 3 h dX5_isFar_35 rfl rfl ?_
    refine cN3 h (mX6_fromMiddle _ _ _ _ q j) kX6_fromMiddle ln_X5_69 (by decide) (Nat.le_of_ble_eq_true rfl) dX5_isFar_36 ?_
    show Wx _ _ 39 _ _
    refine r_absI h lm_X5_72 (by decide) (Nat.le_of_ble_eq_true rfl) dX5_isFar_39 ?_
    refine r_iload h dX5_isFar_42 rfl ?_
    refine r_icmp_lt 51 h dX5_isFar_44 (by decide) (fun c44 => ?_) (fun c44 => ?_)
    · refine r_iconst 0 h dX5_isFar_51 (by decide) ?_
      exact r_zret h hr dX5_isFar_52 rfl ⟨by simp only [farI, c27, c44, ite_true, ite_false, if_true, if_false, not_true, not_false_iff], rfl⟩
    · refine r_iconst 1 h dX5_isFar_47 (by decide) ?_
      refine r_goto 52 h dX5_isFar_48 (by decide) ?_
      exact r_zret h hr dX5_isFar_52 rfl ⟨by simp only [farI, c27, c44, ite_true, ite_false, if_true, if_false, not_true, not_false_iff], rfl⟩
end
section
set_option maxRecDepth 100000 in
set_option maxHeartbeats 4000000 in
theorem mX5_visit (l : Launch) (w : Fx) : ∀ (d : Nat) (S : St) (k i j : Nat), k + d = 6 → i < 2 ^ k → j < 2 ^ k → lenOk S → Ct l yX5_visit cX5_visit 4 none (3 + d) w [.ref (aD w 16), .int (nI k), .int (nI i), .int (nI j)] S (fun v S' => v = none ∧ S' = visS d S k i j) := by
  intro d
  induction d with
  | zero =>
    intro S k i j hk hi hj hlen
    have hk : k = 6 := by omega
    subst hk
    refine Ct.of (by decide) (Nat.le_of_ble_eq_true rfl) (fun X h hr hl hw => ?_)
    subst hl hw
    have h : Ok X cX5_visit RX5 (3 + 0) := h
    show Wx X S 0 [.ref (aD (xw X) 16), .int (nI 6), .int (nI i), .int (nI j)] []
    refine r_iload_n 1 h dX5_visit_0 rfl rfl ?_
    refine r_iconst 5 h dX5_visit_1 (by decide) ?_
    refine r_icmp_gt_t 18 h dX5_visit_2 (by decide) (by decide) ?_
    exact r_vret h hr dX5_visit_18 ⟨rfl, rfl⟩
  | succ d ih =>
    intro S k i j hk hi hj hlen
    refine Ct.of (by decide) (Nat.le_of_ble_eq_true rfl) (fun X h hr hl hw => ?_)
    subst hl hw
    have h : Ok X cX5_visit RX5 (3 + (d + 1)) := h
    have hp2 := p2_lt (l := k) (by omega)
    have hV := visS_s (d := d) (S := S) (l := k) (i := i) (j := j)
    rw [if_neg (show ¬ (5 : Int32) < nI k from gtF (a := 5) (by omega) (by omega))] at hV
    generalize visS (d + 1) S k i j = Z at hV hr
    show Wx X S 0 [.ref (aD (xw X) 16), .int (nI k), .int (nI i), .int (nI j)] []
    refine r_iload_n 1 h dX5_visit_0 rfl rfl ?_
    refine r_iconst 5 h dX5_visit_1 (by decide) ?_
    refine r_icmp_gt_f 18 h dX5_visit_2 (by decide) (gtF (a := 5) (by omega) (by omega)) ?_
    refine r_aload_n 0 h dX5_visit_5 rfl rfl ?_
    refine g16_1 h lf_X5_38 dX5_visit_6 ?_
    show Wx _ _ 9 _ _
    refine r_iload_n 1 h dX5_visit_9 rfl rfl ?_
    refine r_iload_n 2 h dX5_visit_10 rfl rfl ?_
    refine r_iload_n 3 h dX5_visit_11 rfl rfl ?_
    refine cV3 h (mX0_pointsIn _ _ _ k i j (by omega) hi hj) kX0_pointsIn lm_X5_46 (by omega) 8 (pl_8 _ _) rfl (Nat.le_of_ble_eq_true rfl) dX5_visit_12 ?_
    refine r_if_ne 19 h dX5_visit_15 (by decide) (fun c15 => ?_) (fun c15 => ?_)
    · refine r_aload_n 0 h dX5_visit_19 rfl rfl ?_
      refine r_iload_n 1 h dX5_visit_20 rfl rfl ?_
      refine r_iload_n 2 h dX5_visit_21 rfl rfl ?_
      refine r_iload_n 3 h dX5_visit_22 rfl rfl ?_
      refine cV3 h (mX5_isFar _ _ _ _ _ _) kX5_isFar lm_X5_52 (by omega) 16 (pl_16 _ _) rfl (Nat.le_of_ble_eq_true rfl) dX5_visit_23 ?_
      show Wx _ _ 26 _ _
      refine r_if_eq 39 h dX5_visit_26 (by decide) (fun c26 => ?_) (fun c26 => ?_)
      · refine r_aload_n 0 h dX5_visit_39 rfl rfl ?_
        refine g16_1 h lf_X5_38 dX5_visit_40 ?_
        refine r_iload_n 1 h dX5_visit_43 rfl rfl ?_
        refine r_iload_n 2 h dX5_visit_44 rfl rfl ?_
        refine r_iload_n 3 h dX5_visit_45 rfl rfl ?_
        show Wx _ _ 46 _ _
        refine cV3 h (mX0_isSplit _ _ _ k i j (by omega) hi hj) kX0_isSplit lm_X5_59 (by omega) 8 (pl_8 _ _) rfl (Nat.le_of_ble_eq_true rfl) dX5_visit_46 ?_
        refine r_if_eq 115 h dX5_visit_49 (by decide) (fun c49 => ?_) (fun c49 => ?_)
        · refine r_aload_n 0 h dX5_visit_115 rfl rfl ?_
          refine r_iload_n 1 h dX5_visit_116 rfl rfl ?_
          refine r_iload_n 2 h dX5_visit_117 rfl rfl ?_
          refine r_iload_n 3 h dX5_visit_118 rfl rfl ?_
          refine cV3v h (mX5_notePoints _ _ _ _ _ _ hlen) kX5_notePoints lm_X5_62 (by omega) 16 (pl_16 _ _) rfl (Nat.le_of_ble_eq_true rfl) dX5_visit_119 ?_
          show Wx _ _ 122 _ _
          exact r_vret h hr dX5_visit_122 ⟨rfl, by rw [hV]; first | (rw [if_pos c15]; done) | (rw [if_neg c15, if_neg c26]; done) | (rw [if_neg c15, if_pos c26, if_pos c49]; done) | (rw [if_neg c15, if_pos c26, if_neg c49]; done)⟩
        · have hk5 := spl_lt (show k ≤ 5 by omega) c49
          refine r_aload_n 0 h dX5_visit_52 rfl rfl ?_
          refine r_iload_n 1 h dX5_visit_53 rfl rfl ?_
          refine r_iconst 1 h dX5_visit_54 (by decide) ?_
          refine r_iadd h dX5_visit_55 ?_
          refine r_iconst 2 h dX5_visit_56 (by decide) ?_
          show Wx _ _ 57 _ _
          refine r_iload_n 2 h dX5_visit_57 rfl rfl ?_
          refine r_imul h dX5_visit_58 ?_
          refine r_iconst 2 h dX5_visit_59 (by decide) ?_
          refine r_iload_n 3 h dX5_visit_60 rfl rfl ?_
          refine r_imul h dX5_visit_61 ?_
          rw [nI_1, nI_2, nI_2]
          refine cV3v h (ih _ (k + 1) (2 * i) (2 * j) (by omega) (dbl hi) (dbl hj) (hlen)) kX5_visit lm_X5_42 (by omega) 16 (pl_16 _ _) rfl (Nat.le_of_ble_eq_true rfl) dX5_visit_62 ?_
          show Wx _ _ 65 _ _
          refine r_aload_n 0 h dX5_visit_65 rfl rfl ?_
          refine r_iload_n 1 h dX5_visit_66 rfl rfl ?_
          refine r_iconst 1 h dX5_visit_67 (by decide) ?_
          refine r_iadd h dX5_visit_68 ?_
          refine r_iconst 2 h dX5_visit_69 (by decide) ?_
          refine r_iload_n 2 h dX5_visit_70 rfl rfl ?_
          show Wx _ _ 71 _ _
          refine r_imul h dX5_visit_71 ?_
          refine r_iconst 1 h dX5_visit_72 (by decide) ?_
          refine r_iadd h dX5_visit_73 ?_
          refine r_iconst 2 h dX5_visit_74 (by decide) ?_
          refine r_iload_n 3 h dX5_visit_75 rfl rfl ?_
          refine r_imul h dX5_visit_76 ?_
          show Wx _ _ 77 _ _
          rw [nI_1, nI_2, nI_2, nI_1]
          refine cV3v h (ih _ (k + 1) (2 * i + 1) (2 * j) (by omega) (dbl1 hi) (dbl hj) (visS_ok d hlen)) kX5_visit lm_X5_42 (by omega) 16 (pl_16 _ _) rfl (Nat.le_of_ble_eq_true rfl) dX5_visit_77 ?_
          refine r_aload_n 0 h dX5_visit_80 rfl rfl ?_
          refine r_iload_n 1 h dX5_visit_81 rfl rfl ?_
          refine r_iconst 1 h dX5_visit_82 (by decide) ?_
          refine r_iadd h dX5_visit_83 ?_
          refine r_iconst 2 h dX5_visit_84 (by decide) ?_
          show Wx _ _ 85 _ _
          refine r_iload_n 2 h dX5_visit_85 rfl rfl ?_
          refine r_imul h dX5_visit_86 ?_
          refine r_iconst 2 h dX5_visit_87 (by decide) ?_
          refine r_iload_n 3 h dX5_visit_88 rfl rfl ?_
          refine r_imul h dX5_visit_89 ?_
          refine r_iconst 1 h dX5_visit_90 (by decide) ?_
          show Wx _ _ 91 _ _
          refine r_iadd h dX5_visit_91 ?_
          rw [nI_1, nI_2, nI_2, nI_1]
          refine cV3v h (ih _ (k + 1) (2 * i) (2 * j + 1) (by omega) (dbl hi) (dbl1 hj) (visS_ok d (visS_ok d hlen))) kX5_visit lm_X5_42 (by omega) 16 (pl_16 _ _) rfl (Nat.le_of_ble_eq_true rfl) dX5_visit_92 ?_
          refine r_aload_n 0 h dX5_visit_95 rfl rfl ?_
          refine r_iload_n 1 h dX5_visit_96 rfl rfl ?_
          refine r_iconst 1 h dX5_visit_97 (by decide) ?_
          refine r_iadd h dX5_visit_98 ?_
          show Wx _ _ 99 _ _
          refine r_iconst 2 h dX5_visit_99 (by decide) ?_
          refine r_iload_n 2 h dX5_visit_100 rfl rfl ?_
          refine r_imul h dX5_visit_101 ?_
          refine r_iconst 1 h dX5_visit_102 (by decide) ?_
          refine r_iadd h dX5_visit_103 ?_
          refine r_iconst 2 h dX5_visit_104 (by decide) ?_
          show Wx _ _ 105 _ _
          refine r_iload_n 3 h dX5_visit_105 rfl rfl ?_
          refine r_imul h dX5_visit_106 ?_
          refine r_iconst 1 h dX5_visit_107 (by decide) ?_
          refine r_iadd h dX5_visit_108 ?_
          rw [nI_1, nI_2, nI_2, nI_1, nI_1]
          refine cV3v h (ih _ (k + 1) (2 * i + 1) (2 * j + 1) (by omega) (dbl1 hi) (dbl1 hj) (visS_ok d (visS_ok d (visS_ok d hlen)))) kX5_visit lm_X5_42 (by omega) 16 (pl_16 _ _) rfl (Nat.le_of_ble_eq_true rfl) dX5_visit_109 ?_
          refine r_goto 122 h dX5_visit_112 (by decide) ?_
          show Wx _ _ 122 _ _
          exact r_vret h hr dX5_visit_122 ⟨rfl, by rw [hV]; first | (rw [if_pos c15]; done) | (rw [if_neg c15, if_neg c26]; done) | (rw [if_neg c15, if_pos c26, if_pos c49]; done) | (rw [if_neg c15, if_pos c26, if_neg c49]; done)⟩
      · refine r_aload_n 0 h dX5_visit_29 rfl rfl ?_
        refine r_iload_n 1 h dX5_visit_30 rfl rfl ?_
        refine r_iload_n 2 h dX5_visit_31 rfl rfl ?_
        refine r_iload_n 3 h dX5_visit_32 rfl rfl ?_
        refine cV3v h (mX5_note _ _ _ _ _ _ hlen) kX5_note lm_X5_56 (by omega) 16 (pl_16 _ _) rfl (Nat.le_of_ble_eq_true rfl) dX5_visit_33 ?_
        show Wx _ _ 36 _ _
        refine r_goto 122 h dX5_visit_36 (by decide) ?_
        exact r_vret h hr dX5_visit_122 ⟨rfl, by rw [hV]; first | (rw [if_pos c15]; done) | (rw [if_neg c15, if_neg c26]; done) | (rw [if_neg c15, if_pos c26, if_pos c49]; done) | (rw [if_neg c15, if_pos c26, if_neg c49]; done)⟩
    · exact r_vret h hr dX5_visit_18 ⟨rfl, by rw [hV]; first | (rw [if_pos c15]; done) | (rw [if_neg c15, if_neg c26]; done) | (rw [if_neg c15, if_pos c26, if_pos c49]; done) | (rw [if_neg c15, if_pos c26, if_neg c49]; done)⟩
end
section
set_option maxRecDepth 100000 in
set_option maxHeartbeats 4000000 in
theorem mX5_trace (l : Launch) (w : Fx) (S : St) (x y t : Int32) : Ct l yX5_trace cX5_trace 4 none 10 w [.ref (aD w 16), .int x, .int y, .int t] S (fun v S' => v = none ∧ S' = trcS S x y t) := by
  refine Ct.of (by decide) (Nat.le_of_ble_eq_true rfl) (fun X h hr hl hw => ?_)
  subst hl hw
  have h : Ok X cX5_trace RX5 10 := h
  show Wx X S 0 [.ref (aD (xw X) 16), .int x, .int y, .int t] []
  refine r_aload_n 0 h dX5_trace_0 rfl rfl ?_
  refine r_iload_n 1 h dX5_trace_1 rfl rfl ?_
  refine p16_6 h lf_X5_25 dX5_trace_2 ?_
  refine r_aload_n 0 h dX5_trace_5 rfl rfl ?_
  refine r_iload_n 2 h dX5_trace_6 rfl rfl ?_
  show Wx _ _ 7 _ _
  refine p16_7 h lf_X5_28 dX5_trace_7 ?_
  refine r_aload_n 0 h dX5_trace_10 rfl rfl ?_
  refine r_iload_n 3 h dX5_trace_11 rfl rfl ?_
  refine p16_8 h lf_X5_31 dX5_trace_12 ?_
  refine r_aload_n 0 h dX5_trace_15 rfl rfl ?_
  refine r_iconst 0 h dX5_trace_16 (by decide) ?_
  show Wx _ _ 17 _ _
  refine p16_5 h lf_X5_21 dX5_trace_17 ?_
  refine r_aload_n 0 h dX5_trace_20 rfl rfl ?_
  refine r_iconst 0 h dX5_trace_21 (by decide) ?_
  refine r_iconst 0 h dX5_trace_22 (by decide) ?_
  refine r_iconst 0 h dX5_trace_23 (by decide) ?_
  refine cV3v h (mX5_visit _ _ 6 _ 0 0 0 rfl (by decide) (by decide) ⟨0, by omega, rfl⟩) kX5_visit lm_X5_42 (by decide) 16 (pl_16 _ _) rfl (Nat.le_of_ble_eq_true rfl) dX5_trace_24 ?_
  show Wx _ _ 27 _ _
  exact r_vret h hr dX5_trace_27 ⟨rfl, rfl⟩
set_option maxRecDepth 100000 in
set_option maxHeartbeats 4000000 in
theorem mX5_read (l : Launch) (w : Fx) (S : St) (k q : Int32) (hlen : lenOk S) : Ct l yX5_read cX5_read 3 (some .int) 0 w [.ref (aD w 16), .int k, .int q] S (fun v S' => v = some (.int (rdI S k q)) ∧ S' = S) := by
  refine Ct.of (by decide) (Nat.le_of_ble_eq_true rfl) (fun X h hr hl hw => ?_)
  subst hl hw
  have h : Ok X cX5_read RX5 0 := h
  show Wx X S 0 [.ref (aD (xw X) 16), .int k, .int q] []
  refine r_iload_n 1 h dX5_read_0 rfl rfl ?_
  refine r_if_lt 12 h dX5_read_1 (by decide) (fun c1 => ?_) (fun c1 => ?_)
  · refine r_iconst (-1) h dX5_read_12 (by decide) ?_
    exact r_iret h hr dX5_read_13 ⟨by simp only [rdI, c1, ite_true, ite_false, if_true, if_false, not_true, not_false_iff], rfl⟩
  · refine r_iload_n 1 h dX5_read_4 rfl rfl ?_
    refine r_aload_n 0 h dX5_read_5 rfl rfl ?_
    refine g16_5 h lf_X5_21 dX5_read_6 ?_
    refine r_icmp_lt 14 h dX5_read_9 (by decide) (fun c9 => ?_) (fun c9 => ?_)
    · refine r_iload_n 2 h dX5_read_14 rfl rfl ?_
      refine r_lk2 54 40 47 h dX5_read_15 (by decide) (by decide) (by decide)  (fun c15 => ?_) (fun c15 => ?_) (fun c15 => ?_) 
      · refine r_aload_n 0 h dX5_read_54 rfl rfl ?_
        refine g16_4 h lf_X5_18 dX5_read_55 ?_
        refine r_iload_n 1 h dX5_read_58 rfl rfl ?_
        refine al_19 h (rd_in hlen c1 c9) dX5_read_59 ?_
        exact r_iret h hr dX5_read_60 ⟨by rw [rdI, if_neg c1, if_pos c9, if_neg c15.1, if_neg c15.2], rfl⟩
      · refine r_aload_n 0 h dX5_read_40 rfl rfl ?_
        refine g16_2 h lf_X5_9 dX5_read_41 ?_
        refine r_iload_n 1 h dX5_read_44 rfl rfl ?_
        refine al_17 h (rd_in hlen c1 c9) dX5_read_45 ?_
        exact r_iret h hr dX5_read_46 ⟨by rw [rdI, if_neg c1, if_pos c9, if_pos c15], rfl⟩
      · refine r_aload_n 0 h dX5_read_47 rfl rfl ?_
        refine g16_3 h lf_X5_15 dX5_read_48 ?_
        refine r_iload_n 1 h dX5_read_51 rfl rfl ?_
        refine al_18 h (rd_in hlen c1 c9) dX5_read_52 ?_
        exact r_iret h hr dX5_read_53 ⟨by rw [rdI, if_neg c1, if_pos c9, if_neg (by rw [c15]; decide), if_pos c15], rfl⟩
    · refine r_iconst (-1) h dX5_read_12 (by decide) ?_
      exact r_iret h hr dX5_read_13 ⟨by simp only [rdI, c1, c9, ite_true, ite_false, if_true, if_false, not_true, not_false_iff], rfl⟩
def wsuL (S : St) (x y : Int32) : Int64 := valP (S.2 2) (frmI x 0 0).toInt64 (frmI y 0 0).toInt64
def pshI (v : Int64) : Int32 := wrpI (v >>> ((12 : Int32).toInt64 &&& 63))
def fpP (T : St) (p : Nat) : St := sI (sI T 17 p (pshI (wsuL T (T.1 1 p + 1) (T.1 2 p) - wsuL T (T.1 1 p - 1) (T.1 2 p)))) 18 p (pshI (wsuL T (T.1 1 p) (T.1 2 p + 1) - wsuL T (T.1 1 p) (T.1 2 p - 1)))
def fpT (S : St) : Nat → St
  | 0 => S
  | p + 1 => if (fpT S p).1 0 p = 0 then fpT S p else fpP (fpT S p) p
theorem fpT_s {S : St} {p : Nat} : fpT S (p + 1) = if (fpT S p).1 0 p = 0 then fpT S p else fpP (fpT S p) p := rfl
def fpS (S : St) : St := fpT (etS (gatS S 0 0 0) 4) 40
def apT (S : St) (g : Int32) : Nat → St
  | 0 => S
  | p + 1 => if (apT S g p).1 0 p = 0 then apT S g p else spcS (apT S g p) (nI p) (wrpI ((apT S g p).1 4 p + g * (apT S g p).1 17 p).toInt64) (wrpI ((apT S g p).1 5 p + g * (apT S g p).1 18 p).toInt64)
theorem apT_s {S : St} {g : Int32} {p : Nat} : apT S g (p + 1) = if (apT S g p).1 0 p = 0 then apT S g p else spcS (apT S g p) (nI p) (wrpI ((apT S g p).1 4 p + g * (apT S g p).1 17 p).toInt64) (wrpI ((apT S g p).1 5 p + g * (apT S g p).1 18 p).toInt64) := rfl
def leaI (S : St) (x y : Int32) : St := leaS S x.toNatClampNeg y.toNatClampNeg 6
def entI (S : St) (x y : Int32) : St := entS S x.toNatClampNeg y.toNatClampNeg 6
theorem mX0_leaveI (l : Launch) (w : Fx) (S : St) (x y : Int32) (hx : vp_in x 64) (hy : vp_in y 64) : Ct l yX0_leave cX0_leave 4 none 2 w [.ref (aD w 8), .int x, .int y] S (fun v S' => v = none ∧ S' = leaI S x y) := by
  obtain ⟨a, ha, rfl⟩ := vp_in_of hx (by decide)
  obtain ⟨b, hb, rfl⟩ := vp_in_of hy (by decide)
  unfold leaI
  rw [ncl (by omega), ncl (by omega)]
  exact mX0_leave l w S a b ha hb
theorem mX0_enterI (l : Launch) (w : Fx) (S : St) (x y : Int32) (hx : vp_in x 64) (hy : vp_in y 64) : Ct l yX0_enter cX0_enter 4 none 2 w [.ref (aD w 8), .int x, .int y] S (fun v S' => v = none ∧ S' = entI S x y) := by
  obtain ⟨a, ha, rfl⟩ := vp_in_of hx (by decide)
  obtain ⟨b, hb, rfl⟩ := vp_in_of hy (by decide)
  unfold entI
  rw [ncl (by omega), ncl (by omega)]
  exact mX0_enter l w S a b ha hb
def shQ (T : St) (g : Int32) (p : Nat) : St := putS (leaI T (T.1 1 p) (T.1 2 p)) (nI p) (wrlI ((leaI T (T.1 1 p) (T.1 2 p)).1 1 p + g * (leaI T (T.1 1 p) (T.1 2 p)).1 4 p)) (wrlI ((leaI T (T.1 1 p) (T.1 2 p)).1 2 p + g * (leaI T (T.1 1 p) (T.1 2 p)).1 5 p))
def shP (T : St) (g : Int32) (p : Nat) : St := entI (shQ T g p) ((shQ T g p).1 1 p) ((shQ T g p).1 2 p)
def shT (S : St) (g : Int32) : Nat → St
  | 0 => S
  | p + 1 => if (shT S g p).1 0 p = 0 then shT S g p else shP (shT S g p) g p
theorem shT_s {S : St} {g : Int32} {p : Nat} : shT S g (p + 1) = if (shT S g p).1 0 p = 0 then shT S g p else shP (shT S g p) g p := rfl
/-- the POINTS that are there have PLACES -/
def plOk (S : St) : Prop := ∀ p : Nat, p < 40 → ¬ S.1 0 p = 0 → vp_in (S.1 1 p) 64 ∧ vp_in (S.1 2 p) 64
theorem leaS_ne {S : St} {a b k : Nat} (h : k ≠ 7) : ∀ n, (leaS S a b n).1 k = S.1 k
  | 0 => rfl
  | n + 1 => (sI_ne h).trans (leaS_ne h n)
theorem entS_ne {S : St} {a b k : Nat} (h : k ≠ 7) : ∀ n, (entS S a b n).1 k = S.1 k
  | 0 => rfl
  | n + 1 => (sI_ne h).trans (entS_ne h n)
theorem leaS_J {S : St} {a b : Nat} : ∀ n, (leaS S a b n).2 = S.2
  | 0 => rfl
  | n + 1 => leaS_J n
theorem entS_J {S : St} {a b : Nat} : ∀ n, (entS S a b n).2 = S.2
  | 0 => rfl
  | n + 1 => entS_J n
theorem wrl_in (x : Int32) : vp_in (wrlI x) 64 := pk_andIn x (m := 63) 6 (by decide) (by decide)
theorem put_1 {T : St} {p : Nat} {x y : Int32} (hp : p < 40) : (putS T (nI p) x y).1 1 = upd (T.1 1) p x := by
  unfold putS
  rw [sI_ne (by decide), sI_eq, ncl (by omega)]
theorem put_2 {T : St} {p : Nat} {x y : Int32} (hp : p < 40) : (putS T (nI p) x y).1 2 = upd (T.1 2) p y := by
  unfold putS
  rw [sI_eq, ncl (by omega), sI_ne (by decide)]
theorem put_ne {T : St} {q x y : Int32} {k : Nat} (h1 : k ≠ 1) (h2 : k ≠ 2) : (putS T q x y).1 k = T.1 k := by
  unfold putS
  rw [sI_ne h2, sI_ne h1]
theorem shQ_in {T : St} {g : Int32} {p : Nat} (hp : p < 40) : vp_in ((shQ T g p).1 1 p) 64 ∧ vp_in ((shQ T g p).1 2 p) 64 := by
  unfold shQ
  rw [put_1 hp, put_2 hp, upd_eq, upd_eq]
  exact ⟨wrl_in _, wrl_in _⟩
theorem shP_pl {T : St} {g : Int32} {p : Nat} (hp : p < 40) (h : plOk T) : plOk (shP T g p) := by
  intro q hq hn
  have e0 : (shP T g p).1 0 = T.1 0 := by
    unfold shP shQ entI leaI
    rw [entS_ne (by decide), put_ne (by decide) (by decide), leaS_ne (by decide)]
  rw [e0] at hn
  have e1 : (shP T g p).1 1 = (shQ T g p).1 1 := entS_ne (by decide) 6
  have e2 : (shP T g p).1 2 = (shQ T g p).1 2 := entS_ne (by decide) 6
  rw [e1, e2]
  by_cases z : q = p
  · subst z; exact shQ_in hp
  · unfold shQ leaI
    rw [put_1 hp, put_2 hp, upd_ne z, upd_ne z, leaS_ne (by decide), leaS_ne (by decide)]
    exact h q hq hn
theorem shT_pl {S : St} {g : Int32} (h : plOk S) : ∀ p, p ≤ 40 → plOk (shT S g p)
  | 0, _ => h
  | p + 1, hp => by
    rw [shT_s]
    split
    · exact shT_pl h p (by omega)
    · exact shP_pl (by omega) (shT_pl h p (by omega))
def fthS (S : St) : St := sI (shT (apT (fpS S) 1 40) 1 40) 19 0 ((shT (apT (fpS S) 1 40) 1 40).1 19 0 + 1)
def bckS (S : St) : St := sI (apT (fpS (shT S (-1) 40)) (-1) 40) 19 0 ((apT (fpS (shT S (-1) 40)) (-1) 40).1 19 0 - 1)
theorem spc_ne {T : St} {q x y : Int32} {k : Nat} (h1 : k ≠ 4) (h2 : k ≠ 5) : (spcS T q x y).1 k = T.1 k := by
  unfold spcS
  rw [sI_ne h2, sI_ne h1]
theorem apT_ne {S : St} {g : Int32} {k : Nat} (h1 : k ≠ 4) (h2 : k ≠ 5) : ∀ p, (apT S g p).1 k = S.1 k
  | 0 => rfl
  | p + 1 => by
    rw [apT_s]
    split
    · exact apT_ne h1 h2 p
    · rw [spc_ne h1 h2]; exact apT_ne h1 h2 p
theorem fpT_ne {S : St} {k : Nat} (h1 : k ≠ 17) (h2 : k ≠ 18) : ∀ p, (fpT S p).1 k = S.1 k
  | 0 => rfl
  | p + 1 => by
    rw [fpT_s]
    split
    · exact fpT_ne h1 h2 p
    · unfold fpP; rw [sI_ne h2, sI_ne h1]; exact fpT_ne h1 h2 p
theorem clr_I {S : St} {k : Nat} : ∀ n, (clrS S k n).1 = S.1
  | 0 => rfl
  | n + 1 => clr_I n
theorem atV_I {T : St} {a b u : Nat} {c : Int64} : ∀ n, (atV T a b c u n).1 = T.1
  | 0 => rfl
  | n + 1 => atV_I n
theorem atU_I {T : St} {a b o : Nat} {c : Int64} : ∀ n, (atU T a b c o n).1 = T.1
  | 0 => rfl
  | n + 1 => by rw [atU_s, atV_I]; exact atU_I n
theorem etB_I {T : St} {o a : Nat} : ∀ n, (etB T o a n).1 = T.1
  | 0 => rfl
  | n + 1 => by
    rw [etB_s]
    split
    · exact etB_I n
    · rw [atU_I]; exact etB_I n
theorem etA_I {T : St} {o : Nat} : ∀ n, (etA T o n).1 = T.1
  | 0 => rfl
  | n + 1 => by rw [etA_s, etB_I]; exact etA_I n
theorem et_I (S : St) (o : Nat) : (etS S o).1 = S.1 := (etA_I 5).trans (clr_I 25)
theorem aeV_I {T : St} {a b u v0 : Nat} {c : Int64} {r : Int32} : ∀ n, (aeV T a b c r u v0 n).1 = T.1
  | 0 => rfl
  | n + 1 => aeV_I n
theorem aeU_I {T : St} {a b o : Nat} {c : Int64} {r : Int32} : ∀ n, (aeU T a b c r o n).1 = T.1
  | 0 => rfl
  | n + 1 => by rw [aeU_s, aeV_I]; exact aeU_I n
theorem eeB_I {T : St} {k : Int64} {r : Int32} {o a : Nat} : ∀ n, (eeB T k r o a n).1 = T.1
  | 0 => rfl
  | n + 1 => by
    rw [eeB_s]
    split
    · exact eeB_I n
    · rw [aeU_I]; exact eeB_I n
theorem eeA_I {T : St} {k : Int64} {r : Int32} {o : Nat} : ∀ n, (eeA T k r o n).1 = T.1
  | 0 => rfl
  | n + 1 => by rw [eeA_s, eeB_I]; exact eeA_I n
theorem ee_I (S : St) (k : Int64) (r : Int32) (o : Nat) : (eeS S k r o).1 = S.1 := (eeA_I 5).trans (clr_I 25)
theorem amB_I {T : St} {a : Nat} {v dy : Int64} : ∀ n, (amB T a v dy n).1 = T.1
  | 0 => rfl
  | n + 1 => amB_I n
theorem amA_I {T : St} {v dx dy : Int64} : ∀ n, (amA T v dx dy n).1 = T.1
  | 0 => rfl
  | n + 1 => by rw [amA_s, amB_I]; exact amA_I n
theorem gaT_ne {S : St} {l i j : Int32} {k : Nat} (h : k ≠ 9) : ∀ n, (gaT S l i j n).1 k = S.1 k
  | 0 => (sI_ne h).trans (by rw [clr_I])
  | n + 1 => by
    rw [gaT_s]
    split
    · exact gaT_ne h n
    · rw [sI_ne h, gaP, amA_I]; exact gaT_ne h n
theorem gat_ne {S : St} {l i j : Int32} {k : Nat} (h : k ≠ 9) : (gatS S l i j).1 k = S.1 k := by
  unfold gatS
  exact gaT_ne h 40
theorem fp_ne {S : St} {k : Nat} (h : k ≠ 9) (h1 : k ≠ 17) (h2 : k ≠ 18) : (fpS S).1 k = S.1 k := by
  unfold fpS
  rw [fpT_ne h1 h2, et_I, gat_ne h]
theorem plOk_of {S T : St} (h0 : T.1 0 = S.1 0) (h1 : T.1 1 = S.1 1) (h2 : T.1 2 = S.1 2) (h : plOk S) : plOk T := by
  intro p hp hn
  rw [h0] at hn
  rw [h1, h2]
  exact h p hp hn
set_option maxRecDepth 100000 in
set_option maxHeartbeats 4000000 in
theorem mX1_wholeSum (l : Launch) (w : Fx) (S : St) (x y : Int32) : Ct l yX1_wholeSum cX1_wholeSum 3 (some .long) 2 w [.ref (aD w 20), .int x, .int y] S (fun v S' => v = some (.long (wsuL S x y)) ∧ S' = S) := by
  refine Ct.of (by decide) (Nat.le_of_ble_eq_true rfl) (fun X h hr hl hw => ?_)
  subst hl hw
  have h : Ok X cX1_wholeSum RX1 2 := h
  show Wx X S 0 [.ref (aD (xw X) 20), .int x, .int y] []
  refine r_aload_n 0 h dX1_wholeSum_0 rfl rfl ?_
  refine g20_2 h lf_X1_30 dX1_wholeSum_1 ?_
  refine g13_1 h lf_X1_80 dX1_wholeSum_4 ?_
  refine r_iload_n 1 h dX1_wholeSum_7 rfl rfl ?_
  refine r_iconst 0 h dX1_wholeSum_8 (by decide) ?_
  show Wx _ _ 9 _ _
  refine r_iconst 0 h dX1_wholeSum_9 (by decide) ?_
  refine cN3 h (mX6_fromMiddle _ _ _ x 0 0) kX6_fromMiddle ln_X1_84 (by decide) (Nat.le_of_ble_eq_true rfl) dX1_wholeSum_10 ?_
  refine r_i2l h dX1_wholeSum_13 ?_
  refine r_iload_n 2 h dX1_wholeSum_14 rfl rfl ?_
  refine r_iconst 0 h dX1_wholeSum_15 (by decide) ?_
  refine r_iconst 0 h dX1_wholeSum_16 (by decide) ?_
  show Wx _ _ 17 _ _
  refine cN3 h (mX6_fromMiddle _ _ _ y 0 0) kX6_fromMiddle ln_X1_84 (by decide) (Nat.le_of_ble_eq_true rfl) dX1_wholeSum_17 ?_
  refine r_i2l h dX1_wholeSum_20 ?_
  refine cV2 h (mX3_valueAt14 _ _ _ _ _) kX3_valueAt lm_X1_88 (by decide) 14 (pl_14 _ _) rfl (Nat.le_of_ble_eq_true rfl) dX1_wholeSum_21 ?_
  exact r_lret h hr dX1_wholeSum_24 ⟨rfl, rfl⟩
set_option maxRecDepth 100000 in
set_option maxHeartbeats 4000000 in
theorem mX1_pushOf (l : Launch) (w : Fx) (S : St) (x : Int64) : Ct l yX1_pushOf cX1_pushOf 2 (some .int) 1 w [.long x] S (fun v S' => v = some (.int (pshI x)) ∧ S' = S) := by
  refine Ct.of (by decide) (Nat.le_of_ble_eq_true rfl) (fun X h hr hl hw => ?_)
  subst hl hw
  have h : Ok X cX1_pushOf RX1 1 := h
  show Wx X S 0 [.long x, .null] []
  refine r_lload_n 0 h dX1_pushOf_0 rfl rfl ?_
  refine r_bipush 12 h dX1_pushOf_1 (by decide) ?_
  refine r_lshr h dX1_pushOf_3 ?_
  refine cN1 h (mX6_wrapPace _ _ _ _) kX6_wrapPace ln_X1_94 (by decide) (Nat.le_of_ble_eq_true rfl) dX1_pushOf_4 ?_
  exact r_iret h hr dX1_pushOf_7 ⟨rfl, rfl⟩
set_option maxRecDepth 100000 in
set_option maxHeartbeats 4000000 in
theorem mX1_findPushes (l : Launch) (w : Fx) (S : St) : Ct l yX1_findPushes cX1_findPushes 4 none 4 w [.ref (aD w 20)] S (fun v S' => v = none ∧ S' = fpS S) := by
  refine Ct.of (by decide) (Nat.le_of_ble_eq_true rfl) (fun X h hr hl hw => ?_)
  subst hl hw
  have h : Ok X cX1_findPushes RX1 4 := h
  show Wx X S 0 [.ref (aD (xw X) 20), .null, .null, .null] []
  have loop : ∀ n p : Nat, p + n = 40 → Wx X (fpT (etS (gatS S 0 0 0) 4) p) 27 [.ref (aD (xw X) 20), .int (nI p), .null, .null] [] := by
    intro n
    induction n with
    | zero =>
      intro p hi
      have hi : p = 40 := by omega
      subst hi
      refine r_iload_n 1 h dX1_findPushes_27 rfl rfl ?_
      refine r_bipush 40 h dX1_findPushes_28 (by decide) ?_
      refine r_icmp_ge_t 123 h dX1_findPushes_30 (by decide) (bigT (a := 40) (by omega) (by omega)) ?_
      exact r_vret h hr dX1_findPushes_123 ⟨rfl, rfl⟩
    | succ n ih =>
      intro p hi
      have hq := ih (p + 1) (by omega)
      rw [fpT_s] at hq
      refine r_iload_n 1 h dX1_findPushes_27 rfl rfl ?_
      refine r_bipush 40 h dX1_findPushes_28 (by decide) ?_
      refine r_icmp_ge_f 123 h dX1_findPushes_30 (by decide) (bigF (a := 40) (by omega) (by omega)) ?_
      refine r_aload_n 0 h dX1_findPushes_33 rfl rfl ?_
      refine g20_0 h lf_X1_22 dX1_findPushes_34 ?_
      show Wx _ _ 37 _ _
      refine g1_0 h lf_X1_60 dX1_findPushes_37 ?_
      refine r_iload_n 1 h dX1_findPushes_40 rfl rfl ?_
      refine alN_2 h (by omega) dX1_findPushes_41 ?_
      refine r_if_eq 117 h dX1_findPushes_42 (by decide) (fun c42 => ?_) (fun c42 => ?_)
      · refine r_iincN h dX1_findPushes_117 rfl ?_
        show Wx _ _ _ [_, _, _, _] _
        refine r_goto 27 h dX1_findPushes_120 (by decide) ?_
        first
          | (rw [if_pos c42] at hq; exact hq)
          | (rw [if_neg c42] at hq; exact Wx.weak (lv' := [.ref (aD (xw X) 20), .int (nI (p + 1)), .null, .null]) (And.intro rfl (And.intro rfl trivial)) (hq))
      · refine r_aload_n 0 h dX1_findPushes_45 rfl rfl ?_
        refine g20_0 h lf_X1_22 dX1_findPushes_46 ?_
        refine g1_1 h lf_X1_66 dX1_findPushes_49 ?_
        refine r_iload_n 1 h dX1_findPushes_52 rfl rfl ?_
        refine alN_3 h (by omega) dX1_findPushes_53 ?_
        show Wx _ _ 54 _ _
        refine r_istore_n 2 h dX1_findPushes_54 rfl (Nat.le_of_ble_eq_true rfl) ?_
        show Wx _ _ _ [_, _, _, _] _
        refine r_aload_n 0 h dX1_findPushes_55 rfl rfl ?_
        refine g20_0 h lf_X1_22 dX1_findPushes_56 ?_
        refine g1_2 h lf_X1_69 dX1_findPushes_59 ?_
        refine r_iload_n 1 h dX1_findPushes_62 rfl rfl ?_
        refine alN_4 h (by omega) dX1_findPushes_63 ?_
        show Wx _ _ 64 _ _
        refine r_istore_n 3 h dX1_findPushes_64 rfl (Nat.le_of_ble_eq_true rfl) ?_
        show Wx _ _ _ [_, _, _, _] _
        refine r_aload_n 0 h dX1_findPushes_65 rfl rfl ?_
        refine g20_3 h lf_X1_9 dX1_findPushes_66 ?_
        refine r_iload_n 1 h dX1_findPushes_69 rfl rfl ?_
        refine r_aload_n 0 h dX1_findPushes_70 rfl rfl ?_
        refine r_iload_n 2 h dX1_findPushes_71 rfl rfl ?_
        show Wx _ _ 72 _ _
        refine r_iconst 1 h dX1_findPushes_72 (by decide) ?_
        refine r_iadd h dX1_findPushes_73 ?_
        refine r_iload_n 3 h dX1_findPushes_74 rfl rfl ?_
        refine cV2 h (mX1_wholeSum _ _ _ _ _) kX1_wholeSum lm_X1_72 (by decide) 20 (pl_20 _ _) rfl (Nat.le_of_ble_eq_true rfl) dX1_findPushes_75 ?_
        refine r_aload_n 0 h dX1_findPushes_78 rfl rfl ?_
        refine r_iload_n 2 h dX1_findPushes_79 rfl rfl ?_
        show Wx _ _ 80 _ _
        refine r_iconst 1 h dX1_findPushes_80 (by decide) ?_
        refine r_isub h dX1_findPushes_81 ?_
        refine r_iload_n 3 h dX1_findPushes_82 rfl rfl ?_
        refine cV2 h (mX1_wholeSum _ _ _ _ _) kX1_wholeSum lm_X1_72 (by decide) 20 (pl_20 _ _) rfl (Nat.le_of_ble_eq_true rfl) dX1_findPushes_83 ?_
        refine r_lsub h dX1_findPushes_86 ?_
        refine cS1 h (mX1_pushOf _ _ _ _) kX1_pushOf lm_X1_76 (by decide) (Nat.le_of_ble_eq_true rfl) dX1_findPushes_87 ?_
        show Wx _ _ 90 _ _
        refine asN_21 h (by omega) dX1_findPushes_90 ?_
        refine r_aload_n 0 h dX1_findPushes_91 rfl rfl ?_
        refine g20_4 h lf_X1_15 dX1_findPushes_92 ?_
        refine r_iload_n 1 h dX1_findPushes_95 rfl rfl ?_
        refine r_aload_n 0 h dX1_findPushes_96 rfl rfl ?_
        refine r_iload_n 2 h dX1_findPushes_97 rfl rfl ?_
        show Wx _ _ 98 _ _
        refine r_iload_n 3 h dX1_findPushes_98 rfl rfl ?_
        refine r_iconst 1 h dX1_findPushes_99 (by decide) ?_
        refine r_iadd h dX1_findPushes_100 ?_
        refine cV2 h (mX1_wholeSum _ _ _ _ _) kX1_wholeSum lm_X1_72 (by decide) 20 (pl_20 _ _) rfl (Nat.le_of_ble_eq_true rfl) dX1_findPushes_101 ?_
        refine r_aload_n 0 h dX1_findPushes_104 rfl rfl ?_
        refine r_iload_n 2 h dX1_findPushes_105 rfl rfl ?_
        show Wx _ _ 106 _ _
        refine r_iload_n 3 h dX1_findPushes_106 rfl rfl ?_
        refine r_iconst 1 h dX1_findPushes_107 (by decide) ?_
        refine r_isub h dX1_findPushes_108 ?_
        refine cV2 h (mX1_wholeSum _ _ _ _ _) kX1_wholeSum lm_X1_72 (by decide) 20 (pl_20 _ _) rfl (Nat.le_of_ble_eq_true rfl) dX1_findPushes_109 ?_
        refine r_lsub h dX1_findPushes_112 ?_
        refine cS1 h (mX1_pushOf _ _ _ _) kX1_pushOf lm_X1_76 (by decide) (Nat.le_of_ble_eq_true rfl) dX1_findPushes_113 ?_
        show Wx _ _ 116 _ _
        refine asN_22 h (by omega) dX1_findPushes_116 ?_
        refine r_iincN h dX1_findPushes_117 rfl ?_
        show Wx _ _ _ [_, _, _, _] _
        refine r_goto 27 h dX1_findPushes_120 (by decide) ?_
        first
          | (rw [if_pos c42] at hq; exact hq)
          | (rw [if_neg c42] at hq; exact Wx.weak (lv' := [.ref (aD (xw X) 20), .int (nI (p + 1)), .null, .null]) (And.intro rfl (And.intro rfl trivial)) (hq))
  refine r_aload_n 0 h dX1_findPushes_0 rfl rfl ?_
  refine g20_1 h lf_X1_26 dX1_findPushes_1 ?_
  refine r_iconst 0 h dX1_findPushes_4 (by decide) ?_
  refine r_iconst 0 h dX1_findPushes_5 (by decide) ?_
  refine r_iconst 0 h dX1_findPushes_6 (by decide) ?_
  show Wx _ _ 7 _ _
  refine cV3v h (mX0_gather _ _ _ 0 0 0) kX0_gather lm_X1_44 (by decide) 8 (pl_8 _ _) rfl (Nat.le_of_ble_eq_true rfl) dX1_findPushes_7 ?_
  refine r_aload_n 0 h dX1_findPushes_10 rfl rfl ?_
  refine g20_2 h lf_X1_30 dX1_findPushes_11 ?_
  refine r_aload_n 0 h dX1_findPushes_14 rfl rfl ?_
  refine g20_1 h lf_X1_26 dX1_findPushes_15 ?_
  refine g8_3 h lf_X1_50 dX1_findPushes_18 ?_
  show Wx _ _ 21 _ _
  refine r_iconst 4 h dX1_findPushes_21 (by decide) ?_
  refine cV2v h (mX4_expandTerm _ _ _ 4 (by omega)) kX4_expandTerm lm_X1_54 (by decide) 13 (pl_13 _ _) rfl (Nat.le_of_ble_eq_true rfl) dX1_findPushes_22 ?_
  refine r_iconst 0 h dX1_findPushes_25 (by decide) ?_
  refine r_istore_n 1 h dX1_findPushes_26 rfl (Nat.le_of_ble_eq_true rfl) ?_
  show Wx _ _ _ [_, _, _, _] _
  exact loop 40 0 rfl
set_option maxRecDepth 100000 in
set_option maxHeartbeats 4000000 in
theorem mX1_addPushes (l : Launch) (w : Fx) (S : St) (g : Int32) : Ct l yX1_addPushes cX1_addPushes 3 none 1 w [.ref (aD w 20), .int g] S (fun v S' => v = none ∧ S' = apT S g 40) := by
  refine Ct.of (by decide) (Nat.le_of_ble_eq_true rfl) (fun X h hr hl hw => ?_)
  subst hl hw
  have h : Ok X cX1_addPushes RX1 1 := h
  show Wx X S 0 [.ref (aD (xw X) 20), .int g, .null] []
  have loop : ∀ n p : Nat, p + n = 40 → Wx X (apT S g p) 2 [.ref (aD (xw X) 20), .int g, .int (nI p)] [] := by
    intro n
    induction n with
    | zero =>
      intro p hi
      have hi : p = 40 := by omega
      subst hi
      refine r_iload_n 2 h dX1_addPushes_2 rfl rfl ?_
      refine r_bipush 40 h dX1_addPushes_3 (by decide) ?_
      refine r_icmp_ge_t 78 h dX1_addPushes_5 (by decide) (bigT (a := 40) (by omega) (by omega)) ?_
      exact r_vret h hr dX1_addPushes_78 ⟨rfl, rfl⟩
    | succ n ih =>
      intro p hi
      have hq := ih (p + 1) (by omega)
      rw [apT_s] at hq
      refine r_iload_n 2 h dX1_addPushes_2 rfl rfl ?_
      refine r_bipush 40 h dX1_addPushes_3 (by decide) ?_
      refine r_icmp_ge_f 78 h dX1_addPushes_5 (by decide) (bigF (a := 40) (by omega) (by omega)) ?_
      refine r_aload_n 0 h dX1_addPushes_8 rfl rfl ?_
      refine g20_0 h lf_X1_22 dX1_addPushes_9 ?_
      show Wx _ _ 12 _ _
      refine g1_0 h lf_X1_60 dX1_addPushes_12 ?_
      refine r_iload_n 2 h dX1_addPushes_15 rfl rfl ?_
      refine alN_2 h (by omega) dX1_addPushes_16 ?_
      refine r_if_eq 72 h dX1_addPushes_17 (by decide) (fun c17 => ?_) (fun c17 => ?_)
      · refine r_iincN h dX1_addPushes_72 rfl ?_
        show Wx _ _ _ [_, _, _] _
        refine r_goto 2 h dX1_addPushes_75 (by decide) ?_
        first | (rw [if_pos c17] at hq; exact hq) | (rw [if_neg c17] at hq; exact hq)
      · refine r_aload_n 0 h dX1_addPushes_20 rfl rfl ?_
        refine g20_0 h lf_X1_22 dX1_addPushes_21 ?_
        refine r_iload_n 2 h dX1_addPushes_24 rfl rfl ?_
        refine r_aload_n 0 h dX1_addPushes_25 rfl rfl ?_
        refine g20_0 h lf_X1_22 dX1_addPushes_26 ?_
        show Wx _ _ 29 _ _
        refine g1_4 h lf_X1_97 dX1_addPushes_29 ?_
        refine r_iload_n 2 h dX1_addPushes_32 rfl rfl ?_
        refine alN_6 h (by omega) dX1_addPushes_33 ?_
        refine r_iload_n 1 h dX1_addPushes_34 rfl rfl ?_
        refine r_aload_n 0 h dX1_addPushes_35 rfl rfl ?_
        refine g20_3 h lf_X1_9 dX1_addPushes_36 ?_
        show Wx _ _ 39 _ _
        refine r_iload_n 2 h dX1_addPushes_39 rfl rfl ?_
        refine alN_21 h (by omega) dX1_addPushes_40 ?_
        refine r_imul h dX1_addPushes_41 ?_
        refine r_iadd h dX1_addPushes_42 ?_
        refine r_i2l h dX1_addPushes_43 ?_
        refine cN1 h (mX6_wrapPace _ _ _ _) kX6_wrapPace ln_X1_94 (by decide) (Nat.le_of_ble_eq_true rfl) dX1_addPushes_44 ?_
        show Wx _ _ 47 _ _
        refine r_aload_n 0 h dX1_addPushes_47 rfl rfl ?_
        refine g20_0 h lf_X1_22 dX1_addPushes_48 ?_
        refine g1_5 h lf_X1_100 dX1_addPushes_51 ?_
        refine r_iload_n 2 h dX1_addPushes_54 rfl rfl ?_
        refine alN_7 h (by omega) dX1_addPushes_55 ?_
        refine r_iload_n 1 h dX1_addPushes_56 rfl rfl ?_
        show Wx _ _ 57 _ _
        refine r_aload_n 0 h dX1_addPushes_57 rfl rfl ?_
        refine g20_4 h lf_X1_15 dX1_addPushes_58 ?_
        refine r_iload_n 2 h dX1_addPushes_61 rfl rfl ?_
        refine alN_22 h (by omega) dX1_addPushes_62 ?_
        refine r_imul h dX1_addPushes_63 ?_
        refine r_iadd h dX1_addPushes_64 ?_
        show Wx _ _ 65 _ _
        refine r_i2l h dX1_addPushes_65 ?_
        refine cN1 h (mX6_wrapPace _ _ _ _) kX6_wrapPace ln_X1_94 (by decide) (Nat.le_of_ble_eq_true rfl) dX1_addPushes_66 ?_
        refine cV3v h (mX2_setPace _ _ _ (nI p) _ _ (vin (by omega))) kX2_setPace lm_X1_103 (by decide) 1 (pl_1 _ _) rfl (Nat.le_of_ble_eq_true rfl) dX1_addPushes_69 ?_
        refine r_iincN h dX1_addPushes_72 rfl ?_
        show Wx _ _ _ [_, _, _] _
        refine r_goto 2 h dX1_addPushes_75 (by decide) ?_
        first | (rw [if_pos c17] at hq; exact hq) | (rw [if_neg c17] at hq; exact hq)
  refine r_iconst 0 h dX1_addPushes_0 (by decide) ?_
  refine r_istore_n 2 h dX1_addPushes_1 rfl (Nat.le_of_ble_eq_true rfl) ?_
  show Wx _ _ _ [_, _, _] _
  exact loop 40 0 rfl
set_option maxRecDepth 100000 in
set_option maxHeartbeats 4000000 in
theorem mX1_shiftPlaces (l : Launch) (w : Fx) (S : St) (g : Int32) (hpl : plOk S) : Ct l yX1_shiftPlaces cX1_shiftPlaces 3 none 3 w [.ref (aD w 20), .int g] S (fun v S' => v = none ∧ S' = shT S g 40) := by
  refine Ct.of (by decide) (Nat.le_of_ble_eq_true rfl) (fun X h hr hl hw => ?_)
  subst hl hw
  have h : Ok X cX1_shiftPlaces RX1 3 := h
  show Wx X S 0 [.ref (aD (xw X) 20), .int g, .null] []
  have loop : ∀ n p : Nat, p + n = 40 → Wx X (shT S g p) 2 [.ref (aD (xw X) 20), .int g, .int (nI p)] [] := by
    intro n
    induction n with
    | zero =>
      intro p hi
      have hi : p = 40 := by omega
      subst hi
      refine r_iload_n 2 h dX1_shiftPlaces_2 rfl rfl ?_
      refine r_bipush 40 h dX1_shiftPlaces_3 (by decide) ?_
      refine r_icmp_ge_t 132 h dX1_shiftPlaces_5 (by decide) (bigT (a := 40) (by omega) (by omega)) ?_
      exact r_vret h hr dX1_shiftPlaces_132 ⟨rfl, rfl⟩
    | succ n ih =>
      intro p hi
      have hq := ih (p + 1) (by omega)
      rw [shT_s] at hq
      refine r_iload_n 2 h dX1_shiftPlaces_2 rfl rfl ?_
      refine r_bipush 40 h dX1_shiftPlaces_3 (by decide) ?_
      refine r_icmp_ge_f 132 h dX1_shiftPlaces_5 (by decide) (bigF (a := 40) (by omega) (by omega)) ?_
      refine r_aload_n 0 h dX1_shiftPlaces_8 rfl rfl ?_
      refine g20_0 h lf_X1_22 dX1_shiftPlaces_9 ?_
      show Wx _ _ 12 _ _
      refine g1_0 h lf_X1_60 dX1_shiftPlaces_12 ?_
      refine r_iload_n 2 h dX1_shiftPlaces_15 rfl rfl ?_
      refine alN_2 h (by omega) dX1_shiftPlaces_16 ?_
      refine r_if_eq 126 h dX1_shiftPlaces_17 (by decide) (fun c17 => ?_) (fun c17 => ?_)
      · refine r_iincN h dX1_shiftPlaces_126 rfl ?_
        show Wx _ _ _ [_, _, _] _
        refine r_goto 2 h dX1_shiftPlaces_129 (by decide) ?_
        first | (rw [if_pos c17] at hq; exact hq) | (rw [if_neg c17] at hq; exact hq)
      · obtain ⟨v1, v2⟩ := shT_pl (g := g) hpl p (by omega) p (by omega) c17
        refine r_aload_n 0 h dX1_shiftPlaces_20 rfl rfl ?_
        refine g20_1 h lf_X1_26 dX1_shiftPlaces_21 ?_
        refine r_aload_n 0 h dX1_shiftPlaces_24 rfl rfl ?_
        refine g20_0 h lf_X1_22 dX1_shiftPlaces_25 ?_
        refine g1_1 h lf_X1_66 dX1_shiftPlaces_28 ?_
        show Wx _ _ 31 _ _
        refine r_iload_n 2 h dX1_shiftPlaces_31 rfl rfl ?_
        refine alN_3 h (by omega) dX1_shiftPlaces_32 ?_
        refine r_aload_n 0 h dX1_shiftPlaces_33 rfl rfl ?_
        refine g20_0 h lf_X1_22 dX1_shiftPlaces_34 ?_
        refine g1_2 h lf_X1_69 dX1_shiftPlaces_37 ?_
        refine r_iload_n 2 h dX1_shiftPlaces_40 rfl rfl ?_
        show Wx _ _ 41 _ _
        refine alN_4 h (by omega) dX1_shiftPlaces_41 ?_
        refine cV2v h (mX0_leaveI _ _ _ _ _ v1 v2) kX0_leave lm_X1_106 (by decide) 8 (pl_8 _ _) rfl (Nat.le_of_ble_eq_true rfl) dX1_shiftPlaces_42 ?_
        refine r_aload_n 0 h dX1_shiftPlaces_45 rfl rfl ?_
        refine g20_0 h lf_X1_22 dX1_shiftPlaces_46 ?_
        refine r_iload_n 2 h dX1_shiftPlaces_49 rfl rfl ?_
        refine r_aload_n 0 h dX1_shiftPlaces_50 rfl rfl ?_
        show Wx _ _ 51 _ _
        refine g20_0 h lf_X1_22 dX1_shiftPlaces_51 ?_
        refine g1_1 h lf_X1_66 dX1_shiftPlaces_54 ?_
        refine r_iload_n 2 h dX1_shiftPlaces_57 rfl rfl ?_
        refine alN_3 h (by omega) dX1_shiftPlaces_58 ?_
        refine r_iload_n 1 h dX1_shiftPlaces_59 rfl rfl ?_
        refine r_aload_n 0 h dX1_shiftPlaces_60 rfl rfl ?_
        show Wx _ _ 61 _ _
        refine g20_0 h lf_X1_22 dX1_shiftPlaces_61 ?_
        refine g1_4 h lf_X1_97 dX1_shiftPlaces_64 ?_
        refine r_iload_n 2 h dX1_shiftPlaces_67 rfl rfl ?_
        refine alN_6 h (by omega) dX1_shiftPlaces_68 ?_
        refine r_imul h dX1_shiftPlaces_69 ?_
        refine r_iadd h dX1_shiftPlaces_70 ?_
        show Wx _ _ 71 _ _
        refine cN1 h (mX6_wrapPlace _ _ _ _) kX6_wrapPlace ln_X1_110 (by decide) (Nat.le_of_ble_eq_true rfl) dX1_shiftPlaces_71 ?_
        refine r_aload_n 0 h dX1_shiftPlaces_74 rfl rfl ?_
        refine g20_0 h lf_X1_22 dX1_shiftPlaces_75 ?_
        refine g1_2 h lf_X1_69 dX1_shiftPlaces_78 ?_
        refine r_iload_n 2 h dX1_shiftPlaces_81 rfl rfl ?_
        refine alN_4 h (by omega) dX1_shiftPlaces_82 ?_
        show Wx _ _ 83 _ _
        refine r_iload_n 1 h dX1_shiftPlaces_83 rfl rfl ?_
        refine r_aload_n 0 h dX1_shiftPlaces_84 rfl rfl ?_
        refine g20_0 h lf_X1_22 dX1_shiftPlaces_85 ?_
        refine g1_5 h lf_X1_100 dX1_shiftPlaces_88 ?_
        refine r_iload_n 2 h dX1_shiftPlaces_91 rfl rfl ?_
        refine alN_7 h (by omega) dX1_shiftPlaces_92 ?_
        show Wx _ _ 93 _ _
        refine r_imul h dX1_shiftPlaces_93 ?_
        refine r_iadd h dX1_shiftPlaces_94 ?_
        refine cN1 h (mX6_wrapPlace _ _ _ _) kX6_wrapPlace ln_X1_110 (by decide) (Nat.le_of_ble_eq_true rfl) dX1_shiftPlaces_95 ?_
        refine cV3v h (mX2_put _ _ _ (nI p) _ _ (vin (by omega))) kX2_put lm_X1_114 (by decide) 1 (pl_1 _ _) rfl (Nat.le_of_ble_eq_true rfl) dX1_shiftPlaces_98 ?_
        refine r_aload_n 0 h dX1_shiftPlaces_101 rfl rfl ?_
        refine g20_1 h lf_X1_26 dX1_shiftPlaces_102 ?_
        show Wx _ _ 105 _ _
        refine r_aload_n 0 h dX1_shiftPlaces_105 rfl rfl ?_
        refine g20_0 h lf_X1_22 dX1_shiftPlaces_106 ?_
        refine g1_1 h lf_X1_66 dX1_shiftPlaces_109 ?_
        refine r_iload_n 2 h dX1_shiftPlaces_112 rfl rfl ?_
        refine alN_3 h (by omega) dX1_shiftPlaces_113 ?_
        refine r_aload_n 0 h dX1_shiftPlaces_114 rfl rfl ?_
        show Wx _ _ 115 _ _
        refine g20_0 h lf_X1_22 dX1_shiftPlaces_115 ?_
        refine g1_2 h lf_X1_69 dX1_shiftPlaces_118 ?_
        refine r_iload_n 2 h dX1_shiftPlaces_121 rfl rfl ?_
        refine alN_4 h (by omega) dX1_shiftPlaces_122 ?_
        refine cV2v h (mX0_enterI _ _ _ _ _ (shQ_in (T := shT S g p) (g := g) (show p < 40 by omega)).1 (shQ_in (T := shT S g p) (g := g) (show p < 40 by omega)).2) kX0_enter lm_X1_117 (by decide) 8 (pl_8 _ _) rfl (Nat.le_of_ble_eq_true rfl) dX1_shiftPlaces_123 ?_
        refine r_iincN h dX1_shiftPlaces_126 rfl ?_
        show Wx _ _ _ [_, _, _] _
        show Wx _ _ 129 _ _
        refine r_goto 2 h dX1_shiftPlaces_129 (by decide) ?_
        first | (rw [if_pos c17] at hq; exact hq) | (rw [if_neg c17] at hq; exact hq)
  refine r_iconst 0 h dX1_shiftPlaces_0 (by decide) ?_
  refine r_istore_n 2 h dX1_shiftPlaces_1 rfl (Nat.le_of_ble_eq_true rfl) ?_
  show Wx _ _ _ [_, _, _] _
  exact loop 40 0 rfl
set_option maxRecDepth 100000 in
set_option maxHeartbeats 4000000 in
theorem mX1_forth (l : Launch) (w : Fx) (S : St) (hpl : plOk S) : Ct l yX1_forth cX1_forth 1 none 5 w [.ref (aD w 20)] S (fun v S' => v = none ∧ S' = fthS S) := by
  refine Ct.of (by decide) (Nat.le_of_ble_eq_true rfl) (fun X h hr hl hw => ?_)
  subst hl hw
  have h : Ok X cX1_forth RX1 5 := h
  show Wx X S 0 [.ref (aD (xw X) 20)] []
  refine r_aload_n 0 h dX1_forth_0 rfl rfl ?_
  refine cV0v h (mX1_findPushes _ _ _) kX1_findPushes lm_X1_34 (by decide) 20 (pl_20 _ _) rfl (Nat.le_of_ble_eq_true rfl) dX1_forth_1 ?_
  refine r_aload_n 0 h dX1_forth_4 rfl rfl ?_
  refine r_iconst 1 h dX1_forth_5 (by decide) ?_
  refine cV1v h (mX1_addPushes _ _ _ 1) kX1_addPushes lm_X1_37 (by decide) 20 (pl_20 _ _) rfl (Nat.le_of_ble_eq_true rfl) dX1_forth_6 ?_
  show Wx _ _ 9 _ _
  refine r_aload_n 0 h dX1_forth_9 rfl rfl ?_
  refine r_iconst 1 h dX1_forth_10 (by decide) ?_
  refine cV1v h (mX1_shiftPlaces _ _ _ 1 (plOk_of ((apT_ne (by decide) (by decide) 40).trans (fp_ne (by decide) (by decide) (by decide))) ((apT_ne (by decide) (by decide) 40).trans (fp_ne (by decide) (by decide) (by decide))) ((apT_ne (by decide) (by decide) 40).trans (fp_ne (by decide) (by decide) (by decide))) hpl)) kX1_shiftPlaces lm_X1_41 (by decide) 20 (pl_20 _ _) rfl (Nat.le_of_ble_eq_true rfl) dX1_forth_11 ?_
  refine r_aload_n 0 h dX1_forth_14 rfl rfl ?_
  refine r_dup h dX1_forth_15 rfl ?_
  refine g20_5 h lf_X1_18 dX1_forth_16 ?_
  show Wx _ _ 19 _ _
  refine r_iconst 1 h dX1_forth_19 (by decide) ?_
  refine r_iadd h dX1_forth_20 ?_
  refine p20_5 h lf_X1_18 dX1_forth_21 ?_
  exact r_vret h hr dX1_forth_24 ⟨rfl, rfl⟩
set_option maxRecDepth 100000 in
set_option maxHeartbeats 4000000 in
theorem mX1_back (l : Launch) (w : Fx) (S : St) (hpl : plOk S) : Ct l yX1_back cX1_back 1 none 5 w [.ref (aD w 20)] S (fun v S' => v = none ∧ S' = bckS S) := by
  refine Ct.of (by decide) (Nat.le_of_ble_eq_true rfl) (fun X h hr hl hw => ?_)
  subst hl hw
  have h : Ok X cX1_back RX1 5 := h
  show Wx X S 0 [.ref (aD (xw X) 20)] []
  refine r_aload_n 0 h dX1_back_0 rfl rfl ?_
  refine r_iconst (-1) h dX1_back_1 (by decide) ?_
  refine cV1v h (mX1_shiftPlaces _ _ _ (-1) hpl) kX1_shiftPlaces lm_X1_41 (by decide) 20 (pl_20 _ _) rfl (Nat.le_of_ble_eq_true rfl) dX1_back_2 ?_
  refine r_aload_n 0 h dX1_back_5 rfl rfl ?_
  refine cV0v h (mX1_findPushes _ _ _) kX1_findPushes lm_X1_34 (by decide) 20 (pl_20 _ _) rfl (Nat.le_of_ble_eq_true rfl) dX1_back_6 ?_
  show Wx _ _ 9 _ _
  refine r_aload_n 0 h dX1_back_9 rfl rfl ?_
  refine r_iconst (-1) h dX1_back_10 (by decide) ?_
  refine cV1v h (mX1_addPushes _ _ _ (-1)) kX1_addPushes lm_X1_37 (by decide) 20 (pl_20 _ _) rfl (Nat.le_of_ble_eq_true rfl) dX1_back_11 ?_
  refine r_aload_n 0 h dX1_back_14 rfl rfl ?_
  refine r_dup h dX1_back_15 rfl ?_
  refine g20_5 h lf_X1_18 dX1_back_16 ?_
  show Wx _ _ 19 _ _
  refine r_iconst 1 h dX1_back_19 (by decide) ?_
  refine r_isub h dX1_back_20 ?_
  refine p20_5 h lf_X1_18 dX1_back_21 ?_
  exact r_vret h hr dX1_back_24 ⟨rfl, rfl⟩
end
section
theorem plc_in {x y : Int32} (h : ¬ plcI x y = 0) : vp_in x 64 ∧ vp_in y 64 := by
  obtain ⟨a, b, ha, hb, rfl, rfl⟩ := plc_at h
  exact ⟨vin ha, vin hb⟩
theorem lf_at {S : St} : ∀ n i : Nat, i + n = 40 → lfI S n i = -1 ∨ ∃ j : Nat, j < 40 ∧ lfI S n i = nI j ∧ S.1 0 j = 0
  | 0, _, _ => Or.inl rfl
  | n + 1, i, h => by
    rw [lfI_s]
    split
    · rename_i q; exact Or.inr ⟨i, by omega, rfl, q⟩
    · exact lf_at n (i + 1) (by omega)
theorem lf_in {S : St} (h : ¬ lfI S 40 0 = -1) : vp_in (lfI S 40 0) 40 := by
  rcases lf_at (S := S) 40 0 rfl with q | ⟨j, hj, e, -⟩
  · exact absurd q h
  · rw [e]; exact vin hj
def ptR (S : St) (x y v : Int32) : Int32 := if plcI x y = 0 then -2 else if wgtI v = 0 then -2 else if lfI S 40 0 = -1 then -4 else lfI S 40 0
def ptT (S : St) (x y v : Int32) : St := if plcI x y = 0 then S else if wgtI v = 0 then S else if lfI S 40 0 = -1 then S else entI (addS S (lfI S 40 0) x y v) x y
def tkU (S : St) (p : Int32) : St := remS (leaI S (S.1 1 p.toNatClampNeg) (S.1 2 p.toNatClampNeg)) p
def tkR (S : St) (p : Int32) : Int32 := if hasI S p = 0 then -2 else (tkU S p).1 6 0
def tkT (S : St) (p : Int32) : St := if hasI S p = 0 then S else tkU S p
def mvR (S : St) (p x y : Int32) : Int32 := if hasI S p = 0 then -2 else if plcI x y = 0 then -2 else 1
def mvT (S : St) (p x y : Int32) : St := if hasI S p = 0 then S else if plcI x y = 0 then S else entI (putS (leaI S (S.1 1 p.toNatClampNeg) (S.1 2 p.toNatClampNeg)) p x y) x y
def wgR (S : St) (p v : Int32) : Int32 := if hasI S p = 0 then -2000 else if wgtI v = 0 then -2000 else S.1 3 p.toNatClampNeg
def wgT (S : St) (p v : Int32) : St := if hasI S p = 0 then S else if wgtI v = 0 then S else sI S 3 p.toNatClampNeg v
def pcR (S : St) (p x y : Int32) : Int32 := if hasI S p = 0 then -2 else if pacI x = 0 then -2 else if pacI y = 0 then -2 else 1
def pcT (S : St) (p x y : Int32) : St := if hasI S p = 0 then S else if pacI x = 0 then S else if pacI y = 0 then S else spcS S p x y
def aqR (S : St) (p q : Int32) : Int32 := if hasI S p = 0 then -2000 else readI S p q
def knR (S : St) (a b c : Int32) : Int32 := if pwrI a b = 0 then -2000 else if c < -9 then -2000 else if c ≤ 9 then (S.2 1 (a.toNatClampNeg * 5 + b.toNatClampNeg)).toInt32 else -2000
def knT (S : St) (a b c : Int32) : St := if pwrI a b = 0 then S else if c < -9 then S else if c ≤ 9 then sJ S 1 (a.toNatClampNeg * 5 + b.toNatClampNeg) c.toInt64 else S
def cpR (S : St) (m : Int32) : Int32 := if m < 1 then -2 else if m ≤ 8 then S.1 8 0 else -2
def cpT (S : St) (m : Int32) : St := if m < 1 then S else if m ≤ 8 then sI S 8 0 m else S
def pulL (S : St) (p x y : Int32) : Int64 := (16 * S.1 3 p.toNatClampNeg).toInt64 * valP (S.2 1) (x - S.1 1 p.toNatClampNeg).toInt64 (y - S.1 2 p.toNatClampNeg).toInt64
def suV (S : St) (x y : Int32) : Nat → Int64
  | 0 => 0
  | i + 1 => if S.1 0 i = 0 then suV S x y i else suV S x y i + pulL S (nI i) x y
theorem suV_s {S : St} {x y : Int32} {i : Nat} : suV S x y (i + 1) = if S.1 0 i = 0 then suV S x y i else suV S x y i + pulL S (nI i) x y := rfl
def suR (S : St) (x y : Int32) : Int64 := if plcI x y = 0 then -9000000000000000000 else suV S x y 40
def lfyR (S : St) (x y : Int32) : Int32 := if plcI x y = 0 then -2 else lvI S x.toNatClampNeg y.toNatClampNeg 5 0
def neV (S : St) (x y k : Int32) : Nat → Nat → Int32
  | 0, _ => -1
  | n + 1, p => if S.1 0 p = 0 then neV S x y k n (p + 1) else if nrI S (nI p) x y 40 = k then nI p else neV S x y k n (p + 1)
theorem neV_s {S : St} {x y k : Int32} {n p : Nat} : neV S x y k (n + 1) p = if S.1 0 p = 0 then neV S x y k n (p + 1) else if nrI S (nI p) x y 40 = k then nI p else neV S x y k n (p + 1) := rfl
def neR (S : St) (x y k : Int32) : Int32 := if plcI x y = 0 then -2 else if 0 ≤ k then neV S x y k 40 0 else -2
def bxR (S : St) (l i j q : Int32) : Int32 := if thrI S l i j = 0 then -2 else if q = 0 then S.1 7 (bixN l.toNatClampNeg i.toNatClampNeg j.toNatClampNeg) else if q = 1 then (gatS S l i j).1 9 0 else if q = 2 then splI S l.toNatClampNeg i.toNatClampNeg j.toNatClampNeg else -2
def bxT (S : St) (l i j q : Int32) : St := if thrI S l i j = 0 then S else if q = 1 then gatS S l i j else S
def moR (S : St) (l i j a b : Int32) : Int64 := if thrI S l i j = 0 then -9000000000000000000 else if pwrI a b = 0 then -9000000000000000000 else (gatS S l i j).2 0 (a.toNatClampNeg * 5 + b.toNatClampNeg)
def moT (S : St) (l i j a b : Int32) : St := if thrI S l i j = 0 then S else if pwrI a b = 0 then S else gatS S l i j
def cnI (S : St) (q : Int32) : Int32 := if q = 0 then S.1 6 0 else if q = 1 then 1 + 4 * spbI S 341 else if q = 2 then spbI S 341 else if q = 3 then grI S 5 else if q = 4 then S.1 19 0 else if q = 5 then blkI S 40 else -2
theorem cn_out {S : St} {q : Int32} (h : q < 0 ∨ 5 < q) : cnI S q = -2 := by
  unfold cnI
  rw [if_neg, if_neg, if_neg, if_neg, if_neg, if_neg] <;> (intro z; subst z; revert h; decide)
theorem q3_out {q : Int32} (h : q < 0 ∨ 2 < q) : ¬ q = 0 ∧ ¬ q = 1 ∧ ¬ q = 2 := by
  refine ⟨?_, ?_, ?_⟩ <;> (intro z; subst z; revert h; decide)
theorem spl_01 (S : St) (l i j : Nat) : splI S l i j = 0 ∨ splI S l i j = 1 := by
  unfold splI
  split
  · exact Or.inl rfl
  · split
    · exact Or.inl rfl
    · exact Or.inr rfl
theorem mX0_leafLevelI (l : Launch) (w : Fx) (S : St) (x y : Int32) (hx : vp_in x 64) (hy : vp_in y 64) : Ct l yX0_leafLevel cX0_leafLevel 4 (some .int) 2 w [.ref (aD w 8), .int x, .int y] S (fun v S' => v = some (.int (lvI S x.toNatClampNeg y.toNatClampNeg 5 0)) ∧ S' = S) := by
  obtain ⟨a, ha, rfl⟩ := vp_in_of hx (by decide)
  obtain ⟨b, hb, rfl⟩ := vp_in_of hy (by decide)
  rw [ncl (by omega), ncl (by omega)]
  exact mX0_leafLevel l w S a b ha hb
set_option maxRecDepth 100000 in
set_option maxHeartbeats 4000000 in
theorem mX6_point (l : Launch) (w : Fx) (S : St) (x y q : Int32) : Ct l yX6_point cX6_point 5 (some .int) 3 w [.ref (aD w 0), .int x, .int y, .int q] S (fun v S' => v = some (.int (ptR S x y q)) ∧ S' = ptT S x y q) := by
  refine Ct.of (by decide) (Nat.le_of_ble_eq_true rfl) (fun X h hr hl hw => ?_)
  subst hl hw
  have h : Ok X cX6_point RX6 3 := h
  show Wx X S 0 [.ref (aD (xw X) 0), .int x, .int y, .int q, .null] []
  refine r_iload_n 1 h dX6_point_0 rfl rfl ?_
  refine r_iload_n 2 h dX6_point_1 rfl rfl ?_
  refine cS2 h (mX6_isPlace _ _ _ x y) kX6_isPlace lm_X6_63 (by decide) (Nat.le_of_ble_eq_true rfl) dX6_point_2 ?_
  refine r_if_eq 15 h dX6_point_5 (by decide) (fun c5 => ?_) (fun c5 => ?_)
  · refine r_bipush (-2) h dX6_point_15 (by decide) ?_
    exact r_iret h hr dX6_point_17 ⟨by simp only [ptR, c5, ite_true, ite_false, if_true, if_false, not_true, not_false_iff], by simp only [ptT, c5, ite_true, ite_false, if_true, if_false, not_true, not_false_iff]⟩
  · refine r_iload_n 3 h dX6_point_8 rfl rfl ?_
    refine cS1 h (mX6_isWeight _ _ _ q) kX6_isWeight lm_X6_67 (by decide) (Nat.le_of_ble_eq_true rfl) dX6_point_9 ?_
    refine r_if_ne 18 h dX6_point_12 (by decide) (fun c12 => ?_) (fun c12 => ?_)
    · refine r_aload_n 0 h dX6_point_18 rfl rfl ?_
      refine g0_0 h lf_X6_10 dX6_point_19 ?_
      refine cV0 h (mX2_leastFree _ _ _) kX2_leastFree lm_X6_71 (by decide) 1 (pl_1 _ _) rfl (Nat.le_of_ble_eq_true rfl) dX6_point_22 ?_
      refine r_istore h dX6_point_25 (Nat.le_of_ble_eq_true rfl) ?_
      show Wx _ _ _ [_, _, _, _, _] _
      refine r_iload h dX6_point_27 rfl ?_
      show Wx _ _ 29 _ _
      refine r_iconst (-1) h dX6_point_29 (by decide) ?_
      refine r_icmp_ne 36 h dX6_point_30 (by decide) (fun c30 => ?_) (fun c30 => ?_)
      · refine r_aload_n 0 h dX6_point_36 rfl rfl ?_
        refine g0_0 h lf_X6_10 dX6_point_37 ?_
        refine r_iload h dX6_point_40 rfl ?_
        refine r_iload_n 1 h dX6_point_42 rfl rfl ?_
        refine r_iload_n 2 h dX6_point_43 rfl rfl ?_
        show Wx _ _ 44 _ _
        refine r_iload_n 3 h dX6_point_44 rfl rfl ?_
        refine cV4v h (mX2_add _ _ _ _ x y q (lf_in c30)) kX2_add lm_X6_75 (by decide) 1 (pl_1 _ _) rfl (Nat.le_of_ble_eq_true rfl) dX6_point_45 ?_
        refine r_aload_n 0 h dX6_point_48 rfl rfl ?_
        refine g0_1 h lf_X6_21 dX6_point_49 ?_
        refine r_iload_n 1 h dX6_point_52 rfl rfl ?_
        refine r_iload_n 2 h dX6_point_53 rfl rfl ?_
        show Wx _ _ 54 _ _
        refine cV2v h (mX0_enterI _ _ _ x y (plc_in c5).1 (plc_in c5).2) kX0_enter lm_X6_79 (by decide) 8 (pl_8 _ _) rfl (Nat.le_of_ble_eq_true rfl) dX6_point_54 ?_
        refine r_iload h dX6_point_57 rfl ?_
        exact r_iret h hr dX6_point_59 ⟨by simp only [ptR, c5, c12, c30, ite_true, ite_false, if_true, if_false, not_true, not_false_iff], by simp only [ptT, c5, c12, c30, ite_true, ite_false, if_true, if_false, not_true, not_false_iff]⟩
      · refine r_bipush (-4) h dX6_point_33 (by decide) ?_
        exact r_iret h hr dX6_point_35 ⟨by simp only [ptR, c5, c12, c30, ite_true, ite_false, if_true, if_false, not_true, not_false_iff], by simp only [ptT, c5, c12, c30, ite_true, ite_false, if_true, if_false, not_true, not_false_iff]⟩
    · refine r_bipush (-2) h dX6_point_15 (by decide) ?_
      exact r_iret h hr dX6_point_17 ⟨by simp only [ptR, c5, c12, ite_true, ite_false, if_true, if_false, not_true, not_false_iff], by simp only [ptT, c5, c12, ite_true, ite_false, if_true, if_false, not_true, not_false_iff]⟩
set_option maxRecDepth 100000 in
set_option maxHeartbeats 4000000 in
theorem mX6_take (l : Launch) (w : Fx) (S : St) (p : Int32) (hpl : plOk S) : Ct l yX6_take cX6_take 2 (some .int) 3 w [.ref (aD w 0), .int p] S (fun v S' => v = some (.int (tkR S p)) ∧ S' = tkT S p) := by
  refine Ct.of (by decide) (Nat.le_of_ble_eq_true rfl) (fun X h hr hl hw => ?_)
  subst hl hw
  have h : Ok X cX6_take RX6 3 := h
  show Wx X S 0 [.ref (aD (xw X) 0), .int p] []
  refine r_aload_n 0 h dX6_take_0 rfl rfl ?_
  refine g0_0 h lf_X6_10 dX6_take_1 ?_
  refine r_iload_n 1 h dX6_take_4 rfl rfl ?_
  refine cV1 h (mX2_has _ _ _ p) kX2_has lm_X6_83 (by decide) 1 (pl_1 _ _) rfl (Nat.le_of_ble_eq_true rfl) dX6_take_5 ?_
  refine r_if_ne 14 h dX6_take_8 (by decide) (fun c8 => ?_) (fun c8 => ?_)
  · have hix := has_in c8
    have hpp : vp_in (S.1 1 p.toNatClampNeg) 64 ∧ vp_in (S.1 2 p.toNatClampNeg) 64 := by
      obtain ⟨k, hk, rfl, hn⟩ := has_at c8
      rw [ncl (by omega)]
      exact hpl k hk hn
    refine r_aload_n 0 h dX6_take_14 rfl rfl ?_
    refine g0_1 h lf_X6_21 dX6_take_15 ?_
    refine r_aload_n 0 h dX6_take_18 rfl rfl ?_
    refine g0_0 h lf_X6_10 dX6_take_19 ?_
    refine g1_1 h lf_X6_86 dX6_take_22 ?_
    show Wx _ _ 25 _ _
    refine r_iload_n 1 h dX6_take_25 rfl rfl ?_
    refine al_3 h hix dX6_take_26 ?_
    refine r_aload_n 0 h dX6_take_27 rfl rfl ?_
    refine g0_0 h lf_X6_10 dX6_take_28 ?_
    refine g1_2 h lf_X6_90 dX6_take_31 ?_
    refine r_iload_n 1 h dX6_take_34 rfl rfl ?_
    show Wx _ _ 35 _ _
    refine al_4 h hix dX6_take_35 ?_
    refine cV2v h (mX0_leaveI _ _ _ _ _ hpp.1 hpp.2) kX0_leave lm_X6_93 (by decide) 8 (pl_8 _ _) rfl (Nat.le_of_ble_eq_true rfl) dX6_take_36 ?_
    refine r_aload_n 0 h dX6_take_39 rfl rfl ?_
    refine g0_0 h lf_X6_10 dX6_take_40 ?_
    refine r_iload_n 1 h dX6_take_43 rfl rfl ?_
    refine cV1v h (mX2_remove _ _ _ p hix) kX2_remove lm_X6_96 (by decide) 1 (pl_1 _ _) rfl (Nat.le_of_ble_eq_true rfl) dX6_take_44 ?_
    show Wx _ _ 47 _ _
    refine r_aload_n 0 h dX6_take_47 rfl rfl ?_
    refine g0_0 h lf_X6_10 dX6_take_48 ?_
    refine g1_6 h lf_X6_100 dX6_take_51 ?_
    exact r_iret h hr dX6_take_54 ⟨by rw [tkR, if_neg c8]; rfl, by rw [tkT, if_neg c8]; rfl⟩
  · refine r_bipush (-2) h dX6_take_11 (by decide) ?_
    exact r_iret h hr dX6_take_13 ⟨by simp only [tkR, c8, ite_true, ite_false, if_true, if_false, not_true, not_false_iff], by simp only [tkT, c8, ite_true, ite_false, if_true, if_false, not_true, not_false_iff]⟩
set_option maxRecDepth 100000 in
set_option maxHeartbeats 4000000 in
theorem mX6_move (l : Launch) (w : Fx) (S : St) (p x y : Int32) (hpl : plOk S) : Ct l yX6_move cX6_move 4 (some .int) 3 w [.ref (aD w 0), .int p, .int x, .int y] S (fun v S' => v = some (.int (mvR S p x y)) ∧ S' = mvT S p x y) := by
  refine Ct.of (by decide) (Nat.le_of_ble_eq_true rfl) (fun X h hr hl hw => ?_)
  subst hl hw
  have h : Ok X cX6_move RX6 3 := h
  show Wx X S 0 [.ref (aD (xw X) 0), .int p, .int x, .int y] []
  refine r_aload_n 0 h dX6_move_0 rfl rfl ?_
  refine g0_0 h lf_X6_10 dX6_move_1 ?_
  refine r_iload_n 1 h dX6_move_4 rfl rfl ?_
  refine cV1 h (mX2_has _ _ _ p) kX2_has lm_X6_83 (by decide) 1 (pl_1 _ _) rfl (Nat.le_of_ble_eq_true rfl) dX6_move_5 ?_
  refine r_if_eq 19 h dX6_move_8 (by decide) (fun c8 => ?_) (fun c8 => ?_)
  · refine r_bipush (-2) h dX6_move_19 (by decide) ?_
    exact r_iret h hr dX6_move_21 ⟨by simp only [mvR, c8, ite_true, ite_false, if_true, if_false, not_true, not_false_iff], by simp only [mvT, c8, ite_true, ite_false, if_true, if_false, not_true, not_false_iff]⟩
  · refine r_iload_n 2 h dX6_move_11 rfl rfl ?_
    refine r_iload_n 3 h dX6_move_12 rfl rfl ?_
    refine cS2 h (mX6_isPlace _ _ _ x y) kX6_isPlace lm_X6_63 (by decide) (Nat.le_of_ble_eq_true rfl) dX6_move_13 ?_
    refine r_if_ne 22 h dX6_move_16 (by decide) (fun c16 => ?_) (fun c16 => ?_)
    · have hix := has_in c8
      have hpp : vp_in (S.1 1 p.toNatClampNeg) 64 ∧ vp_in (S.1 2 p.toNatClampNeg) 64 := by
        obtain ⟨k, hk, rfl, hn⟩ := has_at c8
        rw [ncl (by omega)]
        exact hpl k hk hn
      refine r_aload_n 0 h dX6_move_22 rfl rfl ?_
      refine g0_1 h lf_X6_21 dX6_move_23 ?_
      refine r_aload_n 0 h dX6_move_26 rfl rfl ?_
      refine g0_0 h lf_X6_10 dX6_move_27 ?_
      refine g1_1 h lf_X6_86 dX6_move_30 ?_
      show Wx _ _ 33 _ _
      refine r_iload_n 1 h dX6_move_33 rfl rfl ?_
      refine al_3 h hix dX6_move_34 ?_
      refine r_aload_n 0 h dX6_move_35 rfl rfl ?_
      refine g0_0 h lf_X6_10 dX6_move_36 ?_
      refine g1_2 h lf_X6_90 dX6_move_39 ?_
      refine r_iload_n 1 h dX6_move_42 rfl rfl ?_
      show Wx _ _ 43 _ _
      refine al_4 h hix dX6_move_43 ?_
      refine cV2v h (mX0_leaveI _ _ _ _ _ hpp.1 hpp.2) kX0_leave lm_X6_93 (by decide) 8 (pl_8 _ _) rfl (Nat.le_of_ble_eq_true rfl) dX6_move_44 ?_
      refine r_aload_n 0 h dX6_move_47 rfl rfl ?_
      refine g0_0 h lf_X6_10 dX6_move_48 ?_
      refine r_iload_n 1 h dX6_move_51 rfl rfl ?_
      refine r_iload_n 2 h dX6_move_52 rfl rfl ?_
      show Wx _ _ 53 _ _
      refine r_iload_n 3 h dX6_move_53 rfl rfl ?_
      refine cV3v h (mX2_put _ _ _ p x y hix) kX2_put lm_X6_104 (by decide) 1 (pl_1 _ _) rfl (Nat.le_of_ble_eq_true rfl) dX6_move_54 ?_
      refine r_aload_n 0 h dX6_move_57 rfl rfl ?_
      refine g0_1 h lf_X6_21 dX6_move_58 ?_
      refine r_iload_n 2 h dX6_move_61 rfl rfl ?_
      refine r_iload_n 3 h dX6_move_62 rfl rfl ?_
      show Wx _ _ 63 _ _
      refine cV2v h (mX0_enterI _ _ _ x y (plc_in c16).1 (plc_in c16).2) kX0_enter lm_X6_79 (by decide) 8 (pl_8 _ _) rfl (Nat.le_of_ble_eq_true rfl) dX6_move_63 ?_
      refine r_iconst 1 h dX6_move_66 (by decide) ?_
      exact r_iret h hr dX6_move_67 ⟨by simp only [mvR, c8, c16, ite_true, ite_false, if_true, if_false, not_true, not_false_iff], by simp only [mvT, c8, c16, ite_true, ite_false, if_true, if_false, not_true, not_false_iff]⟩
    · refine r_bipush (-2) h dX6_move_19 (by decide) ?_
      exact r_iret h hr dX6_move_21 ⟨by simp only [mvR, c8, c16, ite_true, ite_false, if_true, if_false, not_true, not_false_iff], by simp only [mvT, c8, c16, ite_true, ite_false, if_true, if_false, not_true, not_false_iff]⟩
set_option maxRecDepth 100000 in
set_option maxHeartbeats 4000000 in
theorem mX6_weigh (l : Launch) (w : Fx) (S : St) (p q : Int32) : Ct l yX6_weigh cX6_weigh 4 (some .int) 1 w [.ref (aD w 0), .int p, .int q] S (fun v S' => v = some (.int (wgR S p q)) ∧ S' = wgT S p q) := by
  refine Ct.of (by decide) (Nat.le_of_ble_eq_true rfl) (fun X h hr hl hw => ?_)
  subst hl hw
  have h : Ok X cX6_weigh RX6 1 := h
  show Wx X S 0 [.ref (aD (xw X) 0), .int p, .int q, .null] []
  refine r_aload_n 0 h dX6_weigh_0 rfl rfl ?_
  refine g0_0 h lf_X6_10 dX6_weigh_1 ?_
  refine r_iload_n 1 h dX6_weigh_4 rfl rfl ?_
  refine cV1 h (mX2_has _ _ _ p) kX2_has lm_X6_83 (by decide) 1 (pl_1 _ _) rfl (Nat.le_of_ble_eq_true rfl) dX6_weigh_5 ?_
  refine r_if_eq 18 h dX6_weigh_8 (by decide) (fun c8 => ?_) (fun c8 => ?_)
  · refine r_sipush (-2000) h dX6_weigh_18 (by decide) ?_
    exact r_iret h hr dX6_weigh_21 ⟨by simp only [wgR, c8, ite_true, ite_false, if_true, if_false, not_true, not_false_iff], by simp only [wgT, c8, ite_true, ite_false, if_true, if_false, not_true, not_false_iff]⟩
  · refine r_iload_n 2 h dX6_weigh_11 rfl rfl ?_
    refine cS1 h (mX6_isWeight _ _ _ q) kX6_isWeight lm_X6_67 (by decide) (Nat.le_of_ble_eq_true rfl) dX6_weigh_12 ?_
    refine r_if_ne 22 h dX6_weigh_15 (by decide) (fun c15 => ?_) (fun c15 => ?_)
    · refine r_aload_n 0 h dX6_weigh_22 rfl rfl ?_
      refine g0_0 h lf_X6_10 dX6_weigh_23 ?_
      refine g1_3 h lf_X6_108 dX6_weigh_26 ?_
      refine r_iload_n 1 h dX6_weigh_29 rfl rfl ?_
      refine al_5 h (has_in c8) dX6_weigh_30 ?_
      show Wx _ _ 31 _ _
      refine r_istore_n 3 h dX6_weigh_31 rfl (Nat.le_of_ble_eq_true rfl) ?_
      show Wx _ _ _ [_, _, _, _] _
      refine r_aload_n 0 h dX6_weigh_32 rfl rfl ?_
      refine g0_0 h lf_X6_10 dX6_weigh_33 ?_
      refine g1_3 h lf_X6_108 dX6_weigh_36 ?_
      refine r_iload_n 1 h dX6_weigh_39 rfl rfl ?_
      refine r_iload_n 2 h dX6_weigh_40 rfl rfl ?_
      show Wx _ _ 41 _ _
      refine as_5 h (has_in c8) dX6_weigh_41 ?_
      refine r_iload_n 3 h dX6_weigh_42 rfl rfl ?_
      exact r_iret h hr dX6_weigh_43 ⟨by simp only [wgR, c8, c15, ite_true, ite_false, if_true, if_false, not_true, not_false_iff], by simp only [wgT, c8, c15, ite_true, ite_false, if_true, if_false, not_true, not_false_iff]⟩
    · refine r_sipush (-2000) h dX6_weigh_18 (by decide) ?_
      exact r_iret h hr dX6_weigh_21 ⟨by simp only [wgR, c8, c15, ite_true, ite_false, if_true, if_false, not_true, not_false_iff], by simp only [wgT, c8, c15, ite_true, ite_false, if_true, if_false, not_true, not_false_iff]⟩
set_option maxRecDepth 100000 in
set_option maxHeartbeats 4000000 in
theorem mX6_pace (l : Launch) (w : Fx) (S : St) (p x y : Int32) : Ct l yX6_pace cX6_pace 4 (some .int) 1 w [.ref (aD w 0), .int p, .int x, .int y] S (fun v S' => v = some (.int (pcR S p x y)) ∧ S' = pcT S p x y) := by
  refine Ct.of (by decide) (Nat.le_of_ble_eq_true rfl) (fun X h hr hl hw => ?_)
  subst hl hw
  have h : Ok X cX6_pace RX6 1 := h
  show Wx X S 0 [.ref (aD (xw X) 0), .int p, .int x, .int y] []
  refine r_aload_n 0 h dX6_pace_0 rfl rfl ?_
  refine g0_0 h lf_X6_10 dX6_pace_1 ?_
  refine r_iload_n 1 h dX6_pace_4 rfl rfl ?_
  refine cV1 h (mX2_has _ _ _ p) kX2_has lm_X6_83 (by decide) 1 (pl_1 _ _) rfl (Nat.le_of_ble_eq_true rfl) dX6_pace_5 ?_
  refine r_if_eq 25 h dX6_pace_8 (by decide) (fun c8 => ?_) (fun c8 => ?_)
  · refine r_bipush (-2) h dX6_pace_25 (by decide) ?_
    exact r_iret h hr dX6_pace_27 ⟨by simp only [pcR, c8, ite_true, ite_false, if_true, if_false, not_true, not_false_iff], by simp only [pcT, c8, ite_true, ite_false, if_true, if_false, not_true, not_false_iff]⟩
  · refine r_iload_n 2 h dX6_pace_11 rfl rfl ?_
    refine cS1 h (mX6_isPaceNumber _ _ _ x) kX6_isPaceNumber lm_X6_111 (by decide) (Nat.le_of_ble_eq_true rfl) dX6_pace_12 ?_
    refine r_if_eq 25 h dX6_pace_15 (by decide) (fun c15 => ?_) (fun c15 => ?_)
    · refine r_bipush (-2) h dX6_pace_25 (by decide) ?_
      exact r_iret h hr dX6_pace_27 ⟨by simp only [pcR, c8, c15, ite_true, ite_false, if_true, if_false, not_true, not_false_iff], by simp only [pcT, c8, c15, ite_true, ite_false, if_true, if_false, not_true, not_false_iff]⟩
    · refine r_iload_n 3 h dX6_pace_18 rfl rfl ?_
      refine cS1 h (mX6_isPaceNumber _ _ _ y) kX6_isPaceNumber lm_X6_111 (by decide) (Nat.le_of_ble_eq_true rfl) dX6_pace_19 ?_
      refine r_if_ne 28 h dX6_pace_22 (by decide) (fun c22 => ?_) (fun c22 => ?_)
      · refine r_aload_n 0 h dX6_pace_28 rfl rfl ?_
        refine g0_0 h lf_X6_10 dX6_pace_29 ?_
        refine r_iload_n 1 h dX6_pace_32 rfl rfl ?_
        refine r_iload_n 2 h dX6_pace_33 rfl rfl ?_
        refine r_iload_n 3 h dX6_pace_34 rfl rfl ?_
        show Wx _ _ 35 _ _
        refine cV3v h (mX2_setPace _ _ _ p x y (has_in c8)) kX2_setPace lm_X6_114 (by decide) 1 (pl_1 _ _) rfl (Nat.le_of_ble_eq_true rfl) dX6_pace_35 ?_
        refine r_iconst 1 h dX6_pace_38 (by decide) ?_
        exact r_iret h hr dX6_pace_39 ⟨by simp only [pcR, c8, c15, c22, ite_true, ite_false, if_true, if_false, not_true, not_false_iff], by simp only [pcT, c8, c15, c22, ite_true, ite_false, if_true, if_false, not_true, not_false_iff]⟩
      · refine r_bipush (-2) h dX6_pace_25 (by decide) ?_
        exact r_iret h hr dX6_pace_27 ⟨by simp only [pcR, c8, c15, c22, ite_true, ite_false, if_true, if_false, not_true, not_false_iff], by simp only [pcT, c8, c15, c22, ite_true, ite_false, if_true, if_false, not_true, not_false_iff]⟩
set_option maxRecDepth 100000 in
set_option maxHeartbeats 4000000 in
theorem mX6_at (l : Launch) (w : Fx) (S : St) (p q : Int32) : Ct l yX6_at cX6_at 3 (some .int) 1 w [.ref (aD w 0), .int p, .int q] S (fun v S' => v = some (.int (aqR S p q)) ∧ S' = S) := by
  refine Ct.of (by decide) (Nat.le_of_ble_eq_true rfl) (fun X h hr hl hw => ?_)
  subst hl hw
  have h : Ok X cX6_at RX6 1 := h
  show Wx X S 0 [.ref (aD (xw X) 0), .int p, .int q] []
  refine r_aload_n 0 h dX6_at_0 rfl rfl ?_
  refine g0_0 h lf_X6_10 dX6_at_1 ?_
  refine r_iload_n 1 h dX6_at_4 rfl rfl ?_
  refine cV1 h (mX2_has _ _ _ p) kX2_has lm_X6_83 (by decide) 1 (pl_1 _ _) rfl (Nat.le_of_ble_eq_true rfl) dX6_at_5 ?_
  refine r_if_ne 15 h dX6_at_8 (by decide) (fun c8 => ?_) (fun c8 => ?_)
  · refine r_aload_n 0 h dX6_at_15 rfl rfl ?_
    refine g0_0 h lf_X6_10 dX6_at_16 ?_
    refine r_iload_n 1 h dX6_at_19 rfl rfl ?_
    refine r_iload_n 2 h dX6_at_20 rfl rfl ?_
    refine cV2 h (mX2_read _ _ _ p q (has_in c8)) kX2_read lm_X6_117 (by decide) 1 (pl_1 _ _) rfl (Nat.le_of_ble_eq_true rfl) dX6_at_21 ?_
    show Wx _ _ 24 _ _
    exact r_iret h hr dX6_at_24 ⟨by simp only [aqR, c8, ite_true, ite_false, if_true, if_false, not_true, not_false_iff], rfl⟩
  · refine r_sipush (-2000) h dX6_at_11 (by decide) ?_
    exact r_iret h hr dX6_at_14 ⟨by simp only [aqR, c8, ite_true, ite_false, if_true, if_false, not_true, not_false_iff], rfl⟩
set_option maxRecDepth 100000 in
set_option maxHeartbeats 4000000 in
theorem mX6_kernel (l : Launch) (w : Fx) (S : St) (a b c : Int32) : Ct l yX6_kernel cX6_kernel 5 (some .int) 2 w [.ref (aD w 0), .int a, .int b, .int c] S (fun v S' => v = some (.int (knR S a b c)) ∧ S' = knT S a b c) := by
  refine Ct.of (by decide) (Nat.le_of_ble_eq_true rfl) (fun X h hr hl hw => ?_)
  subst hl hw
  have h : Ok X cX6_kernel RX6 2 := h
  show Wx X S 0 [.ref (aD (xw X) 0), .int a, .int b, .int c, .null] []
  refine r_iload_n 1 h dX6_kernel_0 rfl rfl ?_
  refine r_iload_n 2 h dX6_kernel_1 rfl rfl ?_
  refine cS2 h (mX6_isPowers _ _ _ a b) kX6_isPowers lm_X6_121 (by decide) (Nat.le_of_ble_eq_true rfl) dX6_kernel_2 ?_
  refine r_if_eq 20 h dX6_kernel_5 (by decide) (fun c5 => ?_) (fun c5 => ?_)
  · refine r_sipush (-2000) h dX6_kernel_20 (by decide) ?_
    exact r_iret h hr dX6_kernel_23 ⟨by simp only [knR, c5, ite_true, ite_false, if_true, if_false, not_true, not_false_iff], by simp only [knT, c5, ite_true, ite_false, if_true, if_false, not_true, not_false_iff]⟩
  · refine r_iload_n 3 h dX6_kernel_8 rfl rfl ?_
    refine r_bipush (-9) h dX6_kernel_9 (by decide) ?_
    refine r_icmp_lt 20 h dX6_kernel_11 (by decide) (fun c11 => ?_) (fun c11 => ?_)
    · refine r_sipush (-2000) h dX6_kernel_20 (by decide) ?_
      exact r_iret h hr dX6_kernel_23 ⟨by simp only [knR, c5, c11, ite_true, ite_false, if_true, if_false, not_true, not_false_iff], by simp only [knT, c5, c11, ite_true, ite_false, if_true, if_false, not_true, not_false_iff]⟩
    · refine r_iload_n 3 h dX6_kernel_14 rfl rfl ?_
      refine r_bipush 9 h dX6_kernel_15 (by decide) ?_
      refine r_icmp_le 24 h dX6_kernel_17 (by decide) (fun c17 => ?_) (fun c17 => ?_)
      · obtain ⟨i, j, hij, rfl, rfl⟩ := pwr_at c5
        refine r_aload_n 0 h dX6_kernel_24 rfl rfl ?_
        refine g0_2 h lf_X6_28 dX6_kernel_25 ?_
        refine r_iload_n 1 h dX6_kernel_28 rfl rfl ?_
        refine r_iload_n 2 h dX6_kernel_29 rfl rfl ?_
        refine cV2 h (mX3_get _ _ _ i j (by omega)) kX3_get lm_X6_124 (by decide) 11 (pl_11 _ _) rfl (Nat.le_of_ble_eq_true rfl) dX6_kernel_30 ?_
        show Wx _ _ 33 _ _
        refine r_l2i h dX6_kernel_33 ?_
        refine r_istore h dX6_kernel_34 (Nat.le_of_ble_eq_true rfl) ?_
        show Wx _ _ _ [_, _, _, _, _] _
        refine r_aload_n 0 h dX6_kernel_36 rfl rfl ?_
        refine g0_2 h lf_X6_28 dX6_kernel_37 ?_
        refine r_iload_n 1 h dX6_kernel_40 rfl rfl ?_
        refine r_iload_n 2 h dX6_kernel_41 rfl rfl ?_
        show Wx _ _ 42 _ _
        refine r_iload_n 3 h dX6_kernel_42 rfl rfl ?_
        refine r_i2l h dX6_kernel_43 ?_
        refine cV3v h (mX3_set _ _ _ i j _ (by omega)) kX3_set lm_X6_32 (by decide) 11 (pl_11 _ _) rfl (Nat.le_of_ble_eq_true rfl) dX6_kernel_44 ?_
        refine r_iload h dX6_kernel_47 rfl ?_
        exact r_iret h hr dX6_kernel_49 ⟨by rw [knR, if_neg c5, if_neg c11, if_pos c17, ncl (by omega), ncl (by omega)], by rw [knT, if_neg c5, if_neg c11, if_pos c17, ncl (by omega), ncl (by omega)]⟩
      · refine r_sipush (-2000) h dX6_kernel_20 (by decide) ?_
        exact r_iret h hr dX6_kernel_23 ⟨by simp only [knR, c5, c11, c17, ite_true, ite_false, if_true, if_false, not_true, not_false_iff], by simp only [knT, c5, c11, c17, ite_true, ite_false, if_true, if_false, not_true, not_false_iff]⟩
set_option maxRecDepth 100000 in
set_option maxHeartbeats 4000000 in
theorem mX6_capacity (l : Launch) (w : Fx) (S : St) (m : Int32) : Ct l yX6_capacity cX6_capacity 3 (some .int) 0 w [.ref (aD w 0), .int m] S (fun v S' => v = some (.int (cpR S m)) ∧ S' = cpT S m) := by
  refine Ct.of (by decide) (Nat.le_of_ble_eq_true rfl) (fun X h hr hl hw => ?_)
  subst hl hw
  have h : Ok X cX6_capacity RX6 0 := h
  show Wx X S 0 [.ref (aD (xw X) 0), .int m, .null] []
  refine r_iload_n 1 h dX6_capacity_0 rfl rfl ?_
  refine r_iconst 1 h dX6_capacity_1 (by decide) ?_
  refine r_icmp_lt 11 h dX6_capacity_2 (by decide) (fun c2 => ?_) (fun c2 => ?_)
  · refine r_bipush (-2) h dX6_capacity_11 (by decide) ?_
    exact r_iret h hr dX6_capacity_13 ⟨by simp only [cpR, c2, ite_true, ite_false, if_true, if_false, not_true, not_false_iff], by simp only [cpT, c2, ite_true, ite_false, if_true, if_false, not_true, not_false_iff]⟩
  · refine r_iload_n 1 h dX6_capacity_5 rfl rfl ?_
    refine r_bipush 8 h dX6_capacity_6 (by decide) ?_
    refine r_icmp_le 14 h dX6_capacity_8 (by decide) (fun c8 => ?_) (fun c8 => ?_)
    · refine r_aload_n 0 h dX6_capacity_14 rfl rfl ?_
      refine g0_1 h lf_X6_21 dX6_capacity_15 ?_
      refine g8_2 h lf_X6_128 dX6_capacity_18 ?_
      refine r_istore_n 2 h dX6_capacity_21 rfl (Nat.le_of_ble_eq_true rfl) ?_
      show Wx _ _ _ [_, _, _] _
      refine r_aload_n 0 h dX6_capacity_22 rfl rfl ?_
      show Wx _ _ 23 _ _
      refine g0_1 h lf_X6_21 dX6_capacity_23 ?_
      refine r_iload_n 1 h dX6_capacity_26 rfl rfl ?_
      refine p8_2 h lf_X6_128 dX6_capacity_27 ?_
      refine r_iload_n 2 h dX6_capacity_30 rfl rfl ?_
      exact r_iret h hr dX6_capacity_31 ⟨by simp only [cpR, c2, c8, ite_true, ite_false, if_true, if_false, not_true, not_false_iff], by simp only [cpT, c2, c8, ite_true, ite_false, if_true, if_false, not_true, not_false_iff]⟩
    · refine r_bipush (-2) h dX6_capacity_11 (by decide) ?_
      exact r_iret h hr dX6_capacity_13 ⟨by simp only [cpR, c2, c8, ite_true, ite_false, if_true, if_false, not_true, not_false_iff], by simp only [cpT, c2, c8, ite_true, ite_false, if_true, if_false, not_true, not_false_iff]⟩
set_option maxRecDepth 100000 in
set_option maxHeartbeats 4000000 in
theorem mX6_pullOf (l : Launch) (w : Fx) (S : St) (p x y : Int32) (hp : vp_in p 40) : Ct l yX6_pullOf cX6_pullOf 6 (some .long) 2 w [.ref (aD w 0), .int p, .int x, .int y] S (fun v S' => v = some (.long (pulL S p x y)) ∧ S' = S) := by
  refine Ct.of (by decide) (Nat.le_of_ble_eq_true rfl) (fun X h hr hl hw => ?_)
  subst hl hw
  have h : Ok X cX6_pullOf RX6 2 := h
  show Wx X S 0 [.ref (aD (xw X) 0), .int p, .int x, .int y, .null, .null] []
  refine r_aload_n 0 h dX6_pullOf_0 rfl rfl ?_
  refine g0_2 h lf_X6_28 dX6_pullOf_1 ?_
  refine r_iload_n 2 h dX6_pullOf_4 rfl rfl ?_
  refine r_aload_n 0 h dX6_pullOf_5 rfl rfl ?_
  refine g0_0 h lf_X6_10 dX6_pullOf_6 ?_
  show Wx _ _ 9 _ _
  refine g1_1 h lf_X6_86 dX6_pullOf_9 ?_
  refine r_iload_n 1 h dX6_pullOf_12 rfl rfl ?_
  refine al_3 h hp dX6_pullOf_13 ?_
  refine r_isub h dX6_pullOf_14 ?_
  refine r_i2l h dX6_pullOf_15 ?_
  refine r_iload_n 3 h dX6_pullOf_16 rfl rfl ?_
  show Wx _ _ 17 _ _
  refine r_aload_n 0 h dX6_pullOf_17 rfl rfl ?_
  refine g0_0 h lf_X6_10 dX6_pullOf_18 ?_
  refine g1_2 h lf_X6_90 dX6_pullOf_21 ?_
  refine r_iload_n 1 h dX6_pullOf_24 rfl rfl ?_
  refine al_4 h hp dX6_pullOf_25 ?_
  refine r_isub h dX6_pullOf_26 ?_
  show Wx _ _ 27 _ _
  refine r_i2l h dX6_pullOf_27 ?_
  refine cV2 h (mX3_valueAt11 _ _ _ _ _) kX3_valueAt lm_X6_227 (by decide) 11 (pl_11 _ _) rfl (Nat.le_of_ble_eq_true rfl) dX6_pullOf_28 ?_
  refine r_lstore h dX6_pullOf_31 (Nat.le_of_ble_eq_true rfl) ?_
  show Wx _ _ _ [_, _, _, _, _, _] _
  refine r_bipush 16 h dX6_pullOf_33 (by decide) ?_
  refine r_aload_n 0 h dX6_pullOf_35 rfl rfl ?_
  refine g0_0 h lf_X6_10 dX6_pullOf_36 ?_
  show Wx _ _ 39 _ _
  refine g1_3 h lf_X6_108 dX6_pullOf_39 ?_
  refine r_iload_n 1 h dX6_pullOf_42 rfl rfl ?_
  refine al_5 h hp dX6_pullOf_43 ?_
  refine r_imul h dX6_pullOf_44 ?_
  refine r_i2l h dX6_pullOf_45 ?_
  refine r_lload h dX6_pullOf_46 rfl ?_
  show Wx _ _ 48 _ _
  refine r_lmul h dX6_pullOf_48 ?_
  exact r_lret h hr dX6_pullOf_49 ⟨rfl, rfl⟩
set_option maxRecDepth 100000 in
set_option maxHeartbeats 4000000 in
theorem mX6_sum (l : Launch) (w : Fx) (S : St) (x y : Int32) : Ct l yX6_sum cX6_sum 6 (some .long) 3 w [.ref (aD w 0), .int x, .int y] S (fun v S' => v = some (.long (suR S x y)) ∧ S' = S) := by
  refine Ct.of (by decide) (Nat.le_of_ble_eq_true rfl) (fun X h hr hl hw => ?_)
  subst hl hw
  have h : Ok X cX6_sum RX6 3 := h
  show Wx X S 0 [.ref (aD (xw X) 0), .int x, .int y, .null, .null, .null] []
  have loop : ¬ plcI x y = 0 → ∀ n i : Nat, i + n = 40 → Wx X (S) 17 [.ref (aD (xw X) 0), .int x, .int y, .long (suV S x y i), .null, .int (nI i)] [] := by
    intro hpl n
    induction n with
    | zero =>
      intro i hi
      have hi : i = 40 := by omega
      subst hi
      refine r_iload h dX6_sum_17 rfl ?_
      refine r_bipush 40 h dX6_sum_19 (by decide) ?_
      refine r_icmp_ge_t 54 h dX6_sum_21 (by decide) (bigT (a := 40) (by omega) (by omega)) ?_
      refine r_lload_n 3 h dX6_sum_54 rfl rfl ?_
      exact r_lret h hr dX6_sum_55 ⟨by rw [suR, if_neg hpl], rfl⟩
    | succ n ih =>
      intro i hi
      have hq := ih (i + 1) (by omega)
      rw [suV_s] at hq
      refine r_iload h dX6_sum_17 rfl ?_
      refine r_bipush 40 h dX6_sum_19 (by decide) ?_
      refine r_icmp_ge_f 54 h dX6_sum_21 (by decide) (bigF (a := 40) (by omega) (by omega)) ?_
      refine r_aload_n 0 h dX6_sum_24 rfl rfl ?_
      refine g0_0 h lf_X6_10 dX6_sum_25 ?_
      show Wx _ _ 28 _ _
      refine g1_0 h lf_X6_133 dX6_sum_28 ?_
      refine r_iload h dX6_sum_31 rfl ?_
      refine alN_2 h (by omega) dX6_sum_33 ?_
      refine r_if_eq 48 h dX6_sum_34 (by decide) (fun c34 => ?_) (fun c34 => ?_)
      · refine r_iincN h dX6_sum_48 rfl ?_
        show Wx _ _ _ [_, _, _, _, _, _] _
        refine r_goto 17 h dX6_sum_51 (by decide) ?_
        first | (rw [if_pos c34] at hq; exact hq) | (rw [if_neg c34] at hq; exact hq)
      · refine r_lload_n 3 h dX6_sum_37 rfl rfl ?_
        refine r_aload_n 0 h dX6_sum_38 rfl rfl ?_
        refine r_iload h dX6_sum_39 rfl ?_
        refine r_iload_n 1 h dX6_sum_41 rfl rfl ?_
        refine r_iload_n 2 h dX6_sum_42 rfl rfl ?_
        show Wx _ _ 43 _ _
        refine cV3 h (mX6_pullOf _ _ _ (nI i) x y (vin (by omega))) kX6_pullOf lm_X6_137 (by decide) 0 (pl_0 _ _) rfl (Nat.le_of_ble_eq_true rfl) dX6_sum_43 ?_
        refine r_ladd h dX6_sum_46 ?_
        refine r_lstore_n 3 h dX6_sum_47 rfl (Nat.le_of_ble_eq_true rfl) ?_
        show Wx _ _ _ [_, _, _, _, _, _] _
        refine r_iincN h dX6_sum_48 rfl ?_
        show Wx _ _ _ [_, _, _, _, _, _] _
        refine r_goto 17 h dX6_sum_51 (by decide) ?_
        first | (rw [if_pos c34] at hq; exact hq) | (rw [if_neg c34] at hq; exact hq)
  refine r_iload_n 1 h dX6_sum_0 rfl rfl ?_
  refine r_iload_n 2 h dX6_sum_1 rfl rfl ?_
  refine cS2 h (mX6_isPlace _ _ _ x y) kX6_isPlace lm_X6_63 (by decide) (Nat.le_of_ble_eq_true rfl) dX6_sum_2 ?_
  refine r_if_ne 12 h dX6_sum_5 (by decide) (fun c5 => ?_) (fun c5 => ?_)
  · refine r_lconst 0 h dX6_sum_12 (by decide) ?_
    refine r_lstore_n 3 h dX6_sum_13 rfl (Nat.le_of_ble_eq_true rfl) ?_
    show Wx _ _ _ [_, _, _, _, _, _] _
    refine r_iconst 0 h dX6_sum_14 (by decide) ?_
    refine r_istore h dX6_sum_15 (Nat.le_of_ble_eq_true rfl) ?_
    show Wx _ _ _ [_, _, _, _, _, _] _
    exact loop c5 40 0 rfl
  · refine r_ldc2 h lc_X6_131 dX6_sum_8 ?_
    exact r_lret h hr dX6_sum_11 ⟨by simp only [suR, c5, ite_true, ite_false, if_true, if_false, not_true, not_false_iff], rfl⟩
set_option maxRecDepth 100000 in
set_option maxHeartbeats 4000000 in
theorem mX6_leaf (l : Launch) (w : Fx) (S : St) (x y : Int32) : Ct l yX6_leaf cX6_leaf 3 (some .int) 3 w [.ref (aD w 0), .int x, .int y] S (fun v S' => v = some (.int (lfyR S x y)) ∧ S' = S) := by
  refine Ct.of (by decide) (Nat.le_of_ble_eq_true rfl) (fun X h hr hl hw => ?_)
  subst hl hw
  have h : Ok X cX6_leaf RX6 3 := h
  show Wx X S 0 [.ref (aD (xw X) 0), .int x, .int y] []
  refine r_iload_n 1 h dX6_leaf_0 rfl rfl ?_
  refine r_iload_n 2 h dX6_leaf_1 rfl rfl ?_
  refine cS2 h (mX6_isPlace _ _ _ x y) kX6_isPlace lm_X6_63 (by decide) (Nat.le_of_ble_eq_true rfl) dX6_leaf_2 ?_
  refine r_if_ne 11 h dX6_leaf_5 (by decide) (fun c5 => ?_) (fun c5 => ?_)
  · refine r_aload_n 0 h dX6_leaf_11 rfl rfl ?_
    refine g0_1 h lf_X6_21 dX6_leaf_12 ?_
    refine r_iload_n 1 h dX6_leaf_15 rfl rfl ?_
    refine r_iload_n 2 h dX6_leaf_16 rfl rfl ?_
    refine cV2 h (mX0_leafLevelI _ _ _ x y (plc_in c5).1 (plc_in c5).2) kX0_leafLevel lm_X6_181 (by decide) 8 (pl_8 _ _) rfl (Nat.le_of_ble_eq_true rfl) dX6_leaf_17 ?_
    show Wx _ _ 20 _ _
    exact r_iret h hr dX6_leaf_20 ⟨by simp only [lfyR, c5, ite_true, ite_false, if_true, if_false, not_true, not_false_iff], rfl⟩
  · refine r_bipush (-2) h dX6_leaf_8 (by decide) ?_
    exact r_iret h hr dX6_leaf_10 ⟨by simp only [lfyR, c5, ite_true, ite_false, if_true, if_false, not_true, not_false_iff], rfl⟩
set_option maxRecDepth 100000 in
set_option maxHeartbeats 4000000 in
theorem mX6_nearest (l : Launch) (w : Fx) (S : St) (x y k : Int32) : Ct l yX6_nearest cX6_nearest 5 (some .int) 2 w [.ref (aD w 0), .int x, .int y, .int k] S (fun v S' => v = some (.int (neR S x y k)) ∧ S' = S) := by
  refine Ct.of (by decide) (Nat.le_of_ble_eq_true rfl) (fun X h hr hl hw => ?_)
  subst hl hw
  have h : Ok X cX6_nearest RX6 2 := h
  show Wx X S 0 [.ref (aD (xw X) 0), .int x, .int y, .int k, .null] []
  have loop : ¬ plcI x y = 0 → 0 ≤ k → ∀ n p : Nat, p + n = 40 → neV S x y k n p = neV S x y k 40 0 → Wx X (S) 18 [.ref (aD (xw X) 0), .int x, .int y, .int k, .int (nI p)] [] := by
    intro h1 h2 n
    induction n with
    | zero =>
      intro p hi he
      have hi : p = 40 := by omega
      refine r_iload h dX6_nearest_18 rfl ?_
      refine r_bipush 40 h dX6_nearest_20 (by decide) ?_
      refine r_icmp_ge_t 62 h dX6_nearest_22 (by decide) (bigT (a := 40) (by omega) (by omega)) ?_
      refine r_iconst (-1) h dX6_nearest_62 (by decide) ?_
      exact r_iret h hr dX6_nearest_63 ⟨by rw [neR, if_neg h1, if_pos h2, ← he]; rfl, rfl⟩
    | succ n ih =>
      intro p hi he
      rw [neV_s (n := n) (p := p)] at he
      refine r_iload h dX6_nearest_18 rfl ?_
      refine r_bipush 40 h dX6_nearest_20 (by decide) ?_
      refine r_icmp_ge_f 62 h dX6_nearest_22 (by decide) (bigF (a := 40) (by omega) (by omega)) ?_
      refine r_aload_n 0 h dX6_nearest_25 rfl rfl ?_
      refine g0_0 h lf_X6_10 dX6_nearest_26 ?_
      show Wx _ _ 29 _ _
      refine g1_0 h lf_X6_133 dX6_nearest_29 ?_
      refine r_iload h dX6_nearest_32 rfl ?_
      refine alN_2 h (by omega) dX6_nearest_34 ?_
      refine r_if_eq 56 h dX6_nearest_35 (by decide) (fun c35 => ?_) (fun c35 => ?_)
      · refine r_iincN h dX6_nearest_56 rfl ?_
        show Wx _ _ _ [_, _, _, _, _] _
        refine r_goto 18 h dX6_nearest_59 (by decide) ?_
        refine ih (p + 1) (by omega) ?_
        rw [← he]
        first | (rw [if_pos c35]; done) | (rw [if_neg c35, if_neg c50]; done)
      · refine r_aload_n 0 h dX6_nearest_38 rfl rfl ?_
        refine g0_0 h lf_X6_10 dX6_nearest_39 ?_
        refine r_iload h dX6_nearest_42 rfl ?_
        refine r_iload_n 1 h dX6_nearest_44 rfl rfl ?_
        refine r_iload_n 2 h dX6_nearest_45 rfl rfl ?_
        show Wx _ _ 46 _ _
        refine cV3 h (mX2_nearerThan _ _ _ (nI p) x y (vin (by omega))) kX2_nearerThan lm_X6_184 (by decide) 1 (pl_1 _ _) rfl (Nat.le_of_ble_eq_true rfl) dX6_nearest_46 ?_
        refine r_iload_n 3 h dX6_nearest_49 rfl rfl ?_
        refine r_icmp_ne 56 h dX6_nearest_50 (by decide) (fun c50 => ?_) (fun c50 => ?_)
        · refine r_iincN h dX6_nearest_56 rfl ?_
          show Wx _ _ _ [_, _, _, _, _] _
          refine r_goto 18 h dX6_nearest_59 (by decide) ?_
          refine ih (p + 1) (by omega) ?_
          rw [← he]
          first | (rw [if_pos c35]; done) | (rw [if_neg c35, if_neg c50]; done)
        · refine r_iload h dX6_nearest_53 rfl ?_
          exact r_iret h hr dX6_nearest_55 ⟨by rw [neR, if_neg h1, if_pos h2, ← he, if_neg c35, if_pos c50], rfl⟩
  refine r_iload_n 1 h dX6_nearest_0 rfl rfl ?_
  refine r_iload_n 2 h dX6_nearest_1 rfl rfl ?_
  refine cS2 h (mX6_isPlace _ _ _ x y) kX6_isPlace lm_X6_63 (by decide) (Nat.le_of_ble_eq_true rfl) dX6_nearest_2 ?_
  refine r_if_eq 12 h dX6_nearest_5 (by decide) (fun c5 => ?_) (fun c5 => ?_)
  · refine r_bipush (-2) h dX6_nearest_12 (by decide) ?_
    exact r_iret h hr dX6_nearest_14 ⟨by simp only [neR, c5, ite_true, ite_false, if_true, if_false, not_true, not_false_iff], rfl⟩
  · refine r_iload_n 3 h dX6_nearest_8 rfl rfl ?_
    refine r_if_ge 15 h dX6_nearest_9 (by decide) (fun c9 => ?_) (fun c9 => ?_)
    · refine r_iconst 0 h dX6_nearest_15 (by decide) ?_
      refine r_istore h dX6_nearest_16 (Nat.le_of_ble_eq_true rfl) ?_
      show Wx _ _ _ [_, _, _, _, _] _
      exact loop c5 c9 40 0 rfl rfl
    · refine r_bipush (-2) h dX6_nearest_12 (by decide) ?_
      exact r_iret h hr dX6_nearest_14 ⟨by simp only [neR, c5, c9, ite_true, ite_false, if_true, if_false, not_true, not_false_iff], rfl⟩
set_option maxRecDepth 100000 in
set_option maxHeartbeats 4000000 in
theorem mX6_box (l : Launch) (w : Fx) (S : St) (q i j z : Int32) : Ct l yX6_box cX6_box 5 (some .int) 3 w [.ref (aD w 0), .int q, .int i, .int j, .int z] S (fun v S' => v = some (.int (bxR S q i j z)) ∧ S' = bxT S q i j z) := by
  refine Ct.of (by decide) (Nat.le_of_ble_eq_true rfl) (fun X h hr hl hw => ?_)
  subst hl hw
  have h : Ok X cX6_box RX6 3 := h
  show Wx X S 0 [.ref (aD (xw X) 0), .int q, .int i, .int j, .int z] []
  refine r_aload_n 0 h dX6_box_0 rfl rfl ?_
  refine g0_1 h lf_X6_21 dX6_box_1 ?_
  refine r_iload_n 1 h dX6_box_4 rfl rfl ?_
  refine r_iload_n 2 h dX6_box_5 rfl rfl ?_
  refine r_iload_n 3 h dX6_box_6 rfl rfl ?_
  show Wx _ _ 7 _ _
  refine cV3 h (mX0_isThere _ _ _ q i j) kX0_isThere lm_X6_157 (by decide) 8 (pl_8 _ _) rfl (Nat.le_of_ble_eq_true rfl) dX6_box_7 ?_
  refine r_if_ne 16 h dX6_box_10 (by decide) (fun c10 => ?_) (fun c10 => ?_)
  · refine r_iload h dX6_box_16 rfl ?_
    refine r_sw3 92 44 55 73 h dX6_box_18 (by decide) (by decide) (by decide) (by decide)  (fun c18 => ?_) (fun c18 => ?_) (fun c18 => ?_) (fun c18 => ?_) 
    · refine r_bipush (-2) h dX6_box_92 (by decide) ?_
      exact r_iret h hr dX6_box_94 ⟨by rw [bxR, if_neg c10, if_neg (q3_out c18).1, if_neg (q3_out c18).2.1, if_neg (q3_out c18).2.2], by rw [bxT, if_neg c10, if_neg (q3_out c18).2.1]⟩
    · obtain ⟨k, a, b, hk, ha, hb, rfl, rfl, rfl⟩ := thr_at c10
      have hp2 := p2_lt hk
      subst c18
      refine r_aload_n 0 h dX6_box_44 rfl rfl ?_
      refine g0_1 h lf_X6_21 dX6_box_45 ?_
      refine r_iload_n 1 h dX6_box_48 rfl rfl ?_
      refine r_iload_n 2 h dX6_box_49 rfl rfl ?_
      refine r_iload_n 3 h dX6_box_50 rfl rfl ?_
      show Wx _ _ 51 _ _
      refine cV3 h (mX0_pointsIn _ _ _ k a b hk ha hb) kX0_pointsIn lm_X6_161 (by decide) 8 (pl_8 _ _) rfl (Nat.le_of_ble_eq_true rfl) dX6_box_51 ?_
      exact r_iret h hr dX6_box_54 ⟨by rw [bxR, if_neg c10, if_pos rfl, ncl (by omega), ncl (by omega), ncl (by omega)], by rw [bxT, if_neg c10, if_neg (by decide)]⟩
    · subst c18
      refine r_aload_n 0 h dX6_box_55 rfl rfl ?_
      refine g0_1 h lf_X6_21 dX6_box_56 ?_
      refine r_iload_n 1 h dX6_box_59 rfl rfl ?_
      refine r_iload_n 2 h dX6_box_60 rfl rfl ?_
      refine r_iload_n 3 h dX6_box_61 rfl rfl ?_
      show Wx _ _ 62 _ _
      refine cV3v h (mX0_gather _ _ _ q i j) kX0_gather lm_X6_165 (by decide) 8 (pl_8 _ _) rfl (Nat.le_of_ble_eq_true rfl) dX6_box_62 ?_
      refine r_aload_n 0 h dX6_box_65 rfl rfl ?_
      refine g0_1 h lf_X6_21 dX6_box_66 ?_
      refine g8_4 h lf_X6_168 dX6_box_69 ?_
      exact r_iret h hr dX6_box_72 ⟨by rw [bxR, if_neg c10, if_neg (by decide), if_pos rfl], by rw [bxT, if_neg c10, if_pos rfl]⟩
    · obtain ⟨k, a, b, hk, ha, hb, rfl, rfl, rfl⟩ := thr_at c10
      have hp2 := p2_lt hk
      subst c18
      refine r_aload_n 0 h dX6_box_73 rfl rfl ?_
      refine g0_1 h lf_X6_21 dX6_box_74 ?_
      refine r_iload_n 1 h dX6_box_77 rfl rfl ?_
      refine r_iload_n 2 h dX6_box_78 rfl rfl ?_
      refine r_iload_n 3 h dX6_box_79 rfl rfl ?_
      show Wx _ _ 80 _ _
      refine cV3 h (mX0_isSplit _ _ _ k a b hk ha hb) kX0_isSplit lm_X6_171 (by decide) 8 (pl_8 _ _) rfl (Nat.le_of_ble_eq_true rfl) dX6_box_80 ?_
      refine r_if_eq 90 h dX6_box_83 (by decide) (fun c83 => ?_) (fun c83 => ?_)
      · refine r_iconst 0 h dX6_box_90 (by decide) ?_
        exact r_iret h hr dX6_box_91 ⟨by rw [bxR, if_neg c10, if_neg (by decide), if_neg (by decide), if_pos rfl, ncl (by omega), ncl (by omega), ncl (by omega)]; rcases spl_01 S k a b with z | z <;> first | (rw [z]; done) | exact absurd z c83 | (rw [z] at c83; exact absurd c83 (by decide)), by rw [bxT, if_neg c10, if_neg (by decide)]⟩
      · refine r_iconst 1 h dX6_box_86 (by decide) ?_
        refine r_goto 91 h dX6_box_87 (by decide) ?_
        exact r_iret h hr dX6_box_91 ⟨by rw [bxR, if_neg c10, if_neg (by decide), if_neg (by decide), if_pos rfl, ncl (by omega), ncl (by omega), ncl (by omega)]; rcases spl_01 S k a b with z | z <;> first | (rw [z]; done) | exact absurd z c83 | (rw [z] at c83; exact absurd c83 (by decide)), by rw [bxT, if_neg c10, if_neg (by decide)]⟩
  · refine r_bipush (-2) h dX6_box_13 (by decide) ?_
    exact r_iret h hr dX6_box_15 ⟨by simp only [bxR, c10, ite_true, ite_false, if_true, if_false, not_true, not_false_iff], by simp only [bxT, c10, ite_true, ite_false, if_true, if_false, not_true, not_false_iff]⟩
set_option maxRecDepth 100000 in
set_option maxHeartbeats 4000000 in
theorem mX6_moment (l : Launch) (w : Fx) (S : St) (q i j a b : Int32) : Ct l yX6_moment cX6_moment 6 (some .long) 3 w [.ref (aD w 0), .int q, .int i, .int j, .int a, .int b] S (fun v S' => v = some (.long (moR S q i j a b)) ∧ S' = moT S q i j a b) := by
  refine Ct.of (by decide) (Nat.le_of_ble_eq_true rfl) (fun X h hr hl hw => ?_)
  subst hl hw
  have h : Ok X cX6_moment RX6 3 := h
  show Wx X S 0 [.ref (aD (xw X) 0), .int q, .int i, .int j, .int a, .int b] []
  refine r_aload_n 0 h dX6_moment_0 rfl rfl ?_
  refine g0_1 h lf_X6_21 dX6_moment_1 ?_
  refine r_iload_n 1 h dX6_moment_4 rfl rfl ?_
  refine r_iload_n 2 h dX6_moment_5 rfl rfl ?_
  refine r_iload_n 3 h dX6_moment_6 rfl rfl ?_
  show Wx _ _ 7 _ _
  refine cV3 h (mX0_isThere _ _ _ q i j) kX0_isThere lm_X6_157 (by decide) 8 (pl_8 _ _) rfl (Nat.le_of_ble_eq_true rfl) dX6_moment_7 ?_
  refine r_if_eq 23 h dX6_moment_10 (by decide) (fun c10 => ?_) (fun c10 => ?_)
  · refine r_ldc2 h lc_X6_131 dX6_moment_23 ?_
    exact r_lret h hr dX6_moment_26 ⟨by simp only [moR, c10, ite_true, ite_false, if_true, if_false, not_true, not_false_iff], by simp only [moT, c10, ite_true, ite_false, if_true, if_false, not_true, not_false_iff]⟩
  · refine r_iload h dX6_moment_13 rfl ?_
    refine r_iload h dX6_moment_15 rfl ?_
    refine cS2 h (mX6_isPowers _ _ _ a b) kX6_isPowers lm_X6_121 (by decide) (Nat.le_of_ble_eq_true rfl) dX6_moment_17 ?_
    refine r_if_ne 27 h dX6_moment_20 (by decide) (fun c20 => ?_) (fun c20 => ?_)
    · obtain ⟨u, t, hut, rfl, rfl⟩ := pwr_at c20
      refine r_aload_n 0 h dX6_moment_27 rfl rfl ?_
      refine g0_1 h lf_X6_21 dX6_moment_28 ?_
      refine r_iload_n 1 h dX6_moment_31 rfl rfl ?_
      refine r_iload_n 2 h dX6_moment_32 rfl rfl ?_
      refine r_iload_n 3 h dX6_moment_33 rfl rfl ?_
      show Wx _ _ 34 _ _
      refine cV3v h (mX0_gather _ _ _ q i j) kX0_gather lm_X6_165 (by decide) 8 (pl_8 _ _) rfl (Nat.le_of_ble_eq_true rfl) dX6_moment_34 ?_
      refine r_aload_n 0 h dX6_moment_37 rfl rfl ?_
      refine g0_1 h lf_X6_21 dX6_moment_38 ?_
      refine g8_3 h lf_X6_174 dX6_moment_41 ?_
      refine r_iload h dX6_moment_44 rfl ?_
      refine r_iload h dX6_moment_46 rfl ?_
      show Wx _ _ 48 _ _
      refine cS2 h (mX6_slotN _ _ _ u t) kX6_slot lm_X6_178 (by decide) (Nat.le_of_ble_eq_true rfl) dX6_moment_48 ?_
      refine alN_10 h (by omega) dX6_moment_51 ?_
      exact r_lret h hr dX6_moment_52 ⟨by rw [moR, if_neg c10, if_neg c20, ncl (by omega), ncl (by omega)], by rw [moT, if_neg c10, if_neg c20]⟩
    · refine r_ldc2 h lc_X6_131 dX6_moment_23 ?_
      exact r_lret h hr dX6_moment_26 ⟨by simp only [moR, c10, c20, ite_true, ite_false, if_true, if_false, not_true, not_false_iff], by simp only [moT, c10, c20, ite_true, ite_false, if_true, if_false, not_true, not_false_iff]⟩
set_option maxRecDepth 100000 in
set_option maxHeartbeats 4000000 in
theorem mX6_count (l : Launch) (w : Fx) (S : St) (q : Int32) : Ct l yX6_count cX6_count 2 (some .int) 2 w [.ref (aD w 0), .int q] S (fun v S' => v = some (.int (cnI S q)) ∧ S' = S) := by
  refine Ct.of (by decide) (Nat.le_of_ble_eq_true rfl) (fun X h hr hl hw => ?_)
  subst hl hw
  have h : Ok X cX6_count RX6 2 := h
  show Wx X S 0 [.ref (aD (xw X) 0), .int q] []
  refine r_iload_n 1 h dX6_count_0 rfl rfl ?_
  refine r_sw6 92 40 48 60 68 76 84 h dX6_count_1 (by decide) (by decide) (by decide) (by decide) (by decide) (by decide) (by decide)  (fun c1 => ?_) (fun c1 => ?_) (fun c1 => ?_) (fun c1 => ?_) (fun c1 => ?_) (fun c1 => ?_) (fun c1 => ?_) 
  · refine r_bipush (-2) h dX6_count_92 (by decide) ?_
    exact r_iret h hr dX6_count_94 ⟨by rw [cn_out c1], rfl⟩
  · refine r_aload_n 0 h dX6_count_40 rfl rfl ?_
    refine g0_0 h lf_X6_10 dX6_count_41 ?_
    refine g1_6 h lf_X6_100 dX6_count_44 ?_
    exact r_iret h hr dX6_count_47 ⟨by subst c1; rfl, rfl⟩
  · refine r_iconst 1 h dX6_count_48 (by decide) ?_
    refine r_iconst 4 h dX6_count_49 (by decide) ?_
    refine r_aload_n 0 h dX6_count_50 rfl rfl ?_
    refine g0_1 h lf_X6_21 dX6_count_51 ?_
    refine cV0 h (mX0_splitBoxes _ _ _) kX0_splitBoxes lm_X6_196 (by decide) 8 (pl_8 _ _) rfl (Nat.le_of_ble_eq_true rfl) dX6_count_54 ?_
    show Wx _ _ 57 _ _
    refine r_imul h dX6_count_57 ?_
    refine r_iadd h dX6_count_58 ?_
    exact r_iret h hr dX6_count_59 ⟨by subst c1; rfl, rfl⟩
  · refine r_aload_n 0 h dX6_count_60 rfl rfl ?_
    refine g0_1 h lf_X6_21 dX6_count_61 ?_
    refine cV0 h (mX0_splitBoxes _ _ _) kX0_splitBoxes lm_X6_196 (by decide) 8 (pl_8 _ _) rfl (Nat.le_of_ble_eq_true rfl) dX6_count_64 ?_
    exact r_iret h hr dX6_count_67 ⟨by subst c1; rfl, rfl⟩
  · refine r_aload_n 0 h dX6_count_68 rfl rfl ?_
    refine g0_1 h lf_X6_21 dX6_count_69 ?_
    refine cV0 h (mX0_greatestLevel _ _ _) kX0_greatestLevel lm_X6_199 (by decide) 8 (pl_8 _ _) rfl (Nat.le_of_ble_eq_true rfl) dX6_count_72 ?_
    exact r_iret h hr dX6_count_75 ⟨by subst c1; rfl, rfl⟩
  · refine r_aload_n 0 h dX6_count_76 rfl rfl ?_
    refine g0_5 h lf_X6_59 dX6_count_77 ?_
    refine g20_5 h lf_X6_193 dX6_count_80 ?_
    exact r_iret h hr dX6_count_83 ⟨by subst c1; rfl, rfl⟩
  · refine r_aload_n 0 h dX6_count_84 rfl rfl ?_
    refine g0_0 h lf_X6_10 dX6_count_85 ?_
    refine cV0 h (mX2_wholeBulk _ _ _) kX2_wholeBulk lm_X6_202 (by decide) 1 (pl_1 _ _) rfl (Nat.le_of_ble_eq_true rfl) dX6_count_88 ?_
    exact r_iret h hr dX6_count_91 ⟨by subst c1; rfl, rfl⟩
end
