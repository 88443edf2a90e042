-- ===== PART A: goes FIRST, ahead of the names: the tables' words, and 'selects' of the private methods out of them =====
/-- a private method of a class that the tables say can be made, by its rows of tables_1 -/
def lw_okq (q : MethodName × Nat) : Prop := (q.1.cls ≠ "java/lang/invoke/MethodHandle" ∧ q.1.cls ≠ "java/lang/invoke/VarHandle") ∧ Cond.instantiable q.1.cls q.2 ∈ tables_1 ∧ Cond.privateMethod q.1 ∈ tables_1 ∧ Cond.instanceMethod q.1 ∈ tables_1
theorem lw_p0 : lw_okq (⟨"FarSums", "pullOf", "(III)J"⟩, 6) := ⟨⟨by decide +kernel, by decide +kernel⟩, List.mem_of_getElem? (i := 11) (by decide +kernel), List.mem_of_getElem? (i := 309) (by decide +kernel), List.mem_of_getElem? (i := 310) (by decide +kernel)⟩
theorem lw_p1 : lw_okq (⟨"FarSums$Trail", "visit", "(III)V"⟩, 9) := ⟨⟨by decide +kernel, by decide +kernel⟩, List.mem_of_getElem? (i := 124) (by decide +kernel), List.mem_of_getElem? (i := 328) (by decide +kernel), List.mem_of_getElem? (i := 329) (by decide +kernel)⟩
theorem lw_p2 : lw_okq (⟨"FarSums$Trail", "isFar", "(III)Z"⟩, 9) := ⟨⟨by decide +kernel, by decide +kernel⟩, List.mem_of_getElem? (i := 124) (by decide +kernel), List.mem_of_getElem? (i := 336) (by decide +kernel), List.mem_of_getElem? (i := 337) (by decide +kernel)⟩
theorem lw_p3 : lw_okq (⟨"FarSums$Trail", "note", "(III)V"⟩, 9) := ⟨⟨by decide +kernel, by decide +kernel⟩, List.mem_of_getElem? (i := 124) (by decide +kernel), List.mem_of_getElem? (i := 350) (by decide +kernel), List.mem_of_getElem? (i := 351) (by decide +kernel)⟩
theorem lw_p4 : lw_okq (⟨"FarSums$Trail", "notePoints", "(III)V"⟩, 9) := ⟨⟨by decide +kernel, by decide +kernel⟩, List.mem_of_getElem? (i := 124) (by decide +kernel), List.mem_of_getElem? (i := 359) (by decide +kernel), List.mem_of_getElem? (i := 360) (by decide +kernel)⟩
theorem lw_p5 : lw_okq (⟨"FarSums", "about", "(III)J"⟩, 6) := ⟨⟨by decide +kernel, by decide +kernel⟩, List.mem_of_getElem? (i := 11) (by decide +kernel), List.mem_of_getElem? (i := 367) (by decide +kernel), List.mem_of_getElem? (i := 368) (by decide +kernel)⟩
theorem lw_p6 : lw_okq (⟨"FarSums", "termOf", "(IIII)J"⟩, 6) := ⟨⟨by decide +kernel, by decide +kernel⟩, List.mem_of_getElem? (i := 11) (by decide +kernel), List.mem_of_getElem? (i := 371) (by decide +kernel), List.mem_of_getElem? (i := 372) (by decide +kernel)⟩
theorem lw_p7 : lw_okq (⟨"FarSums$Boxes", "addMoments", "(III)V"⟩, 5) := ⟨⟨by decide +kernel, by decide +kernel⟩, List.mem_of_getElem? (i := 63) (by decide +kernel), List.mem_of_getElem? (i := 381) (by decide +kernel), List.mem_of_getElem? (i := 382) (by decide +kernel)⟩
theorem lw_p8 : lw_okq (⟨"FarSums$Series", "addTermParts", "(IIJ[JI)V"⟩, 2) := ⟨⟨by decide +kernel, by decide +kernel⟩, List.mem_of_getElem? (i := 107) (by decide +kernel), List.mem_of_getElem? (i := 396) (by decide +kernel), List.mem_of_getElem? (i := 397) (by decide +kernel)⟩
theorem lw_p9 : lw_okq (⟨"FarSums", "wholeEnd", "(III)J"⟩, 6) := ⟨⟨by decide +kernel, by decide +kernel⟩, List.mem_of_getElem? (i := 11) (by decide +kernel), List.mem_of_getElem? (i := 411) (by decide +kernel), List.mem_of_getElem? (i := 412) (by decide +kernel)⟩
theorem lw_p10 : lw_okq (⟨"FarSums", "endOf", "(IIII)J"⟩, 6) := ⟨⟨by decide +kernel, by decide +kernel⟩, List.mem_of_getElem? (i := 11) (by decide +kernel), List.mem_of_getElem? (i := 415) (by decide +kernel), List.mem_of_getElem? (i := 416) (by decide +kernel)⟩
theorem lw_p11 : lw_okq (⟨"FarSums$Series", "addEndParts", "(IIJII)V"⟩, 2) := ⟨⟨by decide +kernel, by decide +kernel⟩, List.mem_of_getElem? (i := 107) (by decide +kernel), List.mem_of_getElem? (i := 426) (by decide +kernel), List.mem_of_getElem? (i := 427) (by decide +kernel)⟩
theorem lw_p12 : lw_okq (⟨"FarSums$Points", "rankKey", "(III)I"⟩, 7) := ⟨⟨by decide +kernel, by decide +kernel⟩, List.mem_of_getElem? (i := 19) (by decide +kernel), List.mem_of_getElem? (i := 480) (by decide +kernel), List.mem_of_getElem? (i := 481) (by decide +kernel)⟩
theorem lw_p13 : lw_okq (⟨"FarSums$Motion", "findPushes", "()V"⟩, 6) := ⟨⟨by decide +kernel, by decide +kernel⟩, List.mem_of_getElem? (i := 162) (by decide +kernel), List.mem_of_getElem? (i := 492) (by decide +kernel), List.mem_of_getElem? (i := 493) (by decide +kernel)⟩
theorem lw_p14 : lw_okq (⟨"FarSums$Motion", "wholeSum", "(II)J"⟩, 6) := ⟨⟨by decide +kernel, by decide +kernel⟩, List.mem_of_getElem? (i := 162) (by decide +kernel), List.mem_of_getElem? (i := 498) (by decide +kernel), List.mem_of_getElem? (i := 499) (by decide +kernel)⟩
theorem lw_p15 : lw_okq (⟨"FarSums$Motion", "addPushes", "(I)V"⟩, 6) := ⟨⟨by decide +kernel, by decide +kernel⟩, List.mem_of_getElem? (i := 162) (by decide +kernel), List.mem_of_getElem? (i := 512) (by decide +kernel), List.mem_of_getElem? (i := 513) (by decide +kernel)⟩
def lw_privs_1 : List (MethodName × Nat) := [(⟨"FarSums", "pullOf", "(III)J"⟩, 6), (⟨"FarSums$Trail", "visit", "(III)V"⟩, 9), (⟨"FarSums$Trail", "isFar", "(III)Z"⟩, 9), (⟨"FarSums$Trail", "note", "(III)V"⟩, 9), (⟨"FarSums$Trail", "notePoints", "(III)V"⟩, 9), (⟨"FarSums", "about", "(III)J"⟩, 6), (⟨"FarSums", "termOf", "(IIII)J"⟩, 6), (⟨"FarSums$Boxes", "addMoments", "(III)V"⟩, 5), (⟨"FarSums$Series", "addTermParts", "(IIJ[JI)V"⟩, 2), (⟨"FarSums", "wholeEnd", "(III)J"⟩, 6), (⟨"FarSums", "endOf", "(IIII)J"⟩, 6), (⟨"FarSums$Series", "addEndParts", "(IIJII)V"⟩, 2), (⟨"FarSums$Points", "rankKey", "(III)I"⟩, 7), (⟨"FarSums$Motion", "findPushes", "()V"⟩, 6), (⟨"FarSums$Motion", "wholeSum", "(II)J"⟩, 6), (⟨"FarSums$Motion", "addPushes", "(I)V"⟩, 6)]
theorem lw_r1 : ∀ q ∈ lw_privs_1, lw_okq q := List.forall_mem_cons.mpr ⟨lw_p0, List.forall_mem_cons.mpr ⟨lw_p1, List.forall_mem_cons.mpr ⟨lw_p2, List.forall_mem_cons.mpr ⟨lw_p3, List.forall_mem_cons.mpr ⟨lw_p4, List.forall_mem_cons.mpr ⟨lw_p5, List.forall_mem_cons.mpr ⟨lw_p6, List.forall_mem_cons.mpr ⟨lw_p7, List.forall_mem_cons.mpr ⟨lw_p8, List.forall_mem_cons.mpr ⟨lw_p9, List.forall_mem_cons.mpr ⟨lw_p10, List.forall_mem_cons.mpr ⟨lw_p11, List.forall_mem_cons.mpr ⟨lw_p12, List.forall_mem_cons.mpr ⟨lw_p13, List.forall_mem_cons.mpr ⟨lw_p14, List.forall_mem_cons.mpr ⟨lw_p15, fun _ h => absurd h List.not_mem_nil⟩⟩⟩⟩⟩⟩⟩⟩⟩⟩⟩⟩⟩⟩⟩⟩
theorem lw_p16 : lw_okq (⟨"FarSums$Motion", "shiftPlaces", "(I)V"⟩, 6) := ⟨⟨by decide +kernel, by decide +kernel⟩, List.mem_of_getElem? (i := 162) (by decide +kernel), List.mem_of_getElem? (i := 517) (by decide +kernel), List.mem_of_getElem? (i := 518) (by decide +kernel)⟩
theorem lw_p17 : lw_okq (⟨"FarSums", "digestPoints", "(J)J"⟩, 6) := ⟨⟨by decide +kernel, by decide +kernel⟩, List.mem_of_getElem? (i := 11) (by decide +kernel), List.mem_of_getElem? (i := 555) (by decide +kernel), List.mem_of_getElem? (i := 556) (by decide +kernel)⟩
theorem lw_p18 : lw_okq (⟨"FarSums", "digestFactors", "(J)J"⟩, 6) := ⟨⟨by decide +kernel, by decide +kernel⟩, List.mem_of_getElem? (i := 11) (by decide +kernel), List.mem_of_getElem? (i := 559) (by decide +kernel), List.mem_of_getElem? (i := 560) (by decide +kernel)⟩
theorem lw_p19 : lw_okq (⟨"FarSums", "digestBoxes", "(J)J"⟩, 6) := ⟨⟨by decide +kernel, by decide +kernel⟩, List.mem_of_getElem? (i := 11) (by decide +kernel), List.mem_of_getElem? (i := 563) (by decide +kernel), List.mem_of_getElem? (i := 564) (by decide +kernel)⟩
theorem lw_p20 : lw_okq (⟨"FarSums", "digestMoments", "(JIII)J"⟩, 6) := ⟨⟨by decide +kernel, by decide +kernel⟩, List.mem_of_getElem? (i := 11) (by decide +kernel), List.mem_of_getElem? (i := 567) (by decide +kernel), List.mem_of_getElem? (i := 568) (by decide +kernel)⟩
theorem lw_p21 : lw_okq (⟨"FarSumsModel", "isPoint", "(I)Z"⟩, 20) := ⟨⟨by decide +kernel, by decide +kernel⟩, List.mem_of_getElem? (i := 571) (by decide +kernel), List.mem_of_getElem? (i := 655) (by decide +kernel), List.mem_of_getElem? (i := 656) (by decide +kernel)⟩
theorem lw_p22 : lw_okq (⟨"FarSumsModel", "many", "()I"⟩, 20) := ⟨⟨by decide +kernel, by decide +kernel⟩, List.mem_of_getElem? (i := 571) (by decide +kernel), List.mem_of_getElem? (i := 660) (by decide +kernel), List.mem_of_getElem? (i := 661) (by decide +kernel)⟩
theorem lw_p23 : lw_okq (⟨"FarSumsModel", "sumAt", "(II)J"⟩, 20) := ⟨⟨by decide +kernel, by decide +kernel⟩, List.mem_of_getElem? (i := 571) (by decide +kernel), List.mem_of_getElem? (i := 700) (by decide +kernel), List.mem_of_getElem? (i := 701) (by decide +kernel)⟩
theorem lw_p24 : lw_okq (⟨"FarSumsModel", "pull", "(III)J"⟩, 20) := ⟨⟨by decide +kernel, by decide +kernel⟩, List.mem_of_getElem? (i := 571) (by decide +kernel), List.mem_of_getElem? (i := 704) (by decide +kernel), List.mem_of_getElem? (i := 705) (by decide +kernel)⟩
theorem lw_p25 : lw_okq (⟨"FarSumsModel", "isBox", "(III)Z"⟩, 20) := ⟨⟨by decide +kernel, by decide +kernel⟩, List.mem_of_getElem? (i := 571) (by decide +kernel), List.mem_of_getElem? (i := 717) (by decide +kernel), List.mem_of_getElem? (i := 718) (by decide +kernel)⟩
theorem lw_p26 : lw_okq (⟨"FarSumsModel", "isSplit", "(III)Z"⟩, 20) := ⟨⟨by decide +kernel, by decide +kernel⟩, List.mem_of_getElem? (i := 571) (by decide +kernel), List.mem_of_getElem? (i := 722) (by decide +kernel), List.mem_of_getElem? (i := 723) (by decide +kernel)⟩
theorem lw_p27 : lw_okq (⟨"FarSumsModel", "pointsIn", "(III)I"⟩, 20) := ⟨⟨by decide +kernel, by decide +kernel⟩, List.mem_of_getElem? (i := 571) (by decide +kernel), List.mem_of_getElem? (i := 726) (by decide +kernel), List.mem_of_getElem? (i := 727) (by decide +kernel)⟩
theorem lw_p28 : lw_okq (⟨"FarSumsModel", "isIn", "(IIII)Z"⟩, 20) := ⟨⟨by decide +kernel, by decide +kernel⟩, List.mem_of_getElem? (i := 571) (by decide +kernel), List.mem_of_getElem? (i := 730) (by decide +kernel), List.mem_of_getElem? (i := 731) (by decide +kernel)⟩
theorem lw_p29 : lw_okq (⟨"FarSumsModel", "bulk", "(III)J"⟩, 20) := ⟨⟨by decide +kernel, by decide +kernel⟩, List.mem_of_getElem? (i := 571) (by decide +kernel), List.mem_of_getElem? (i := 735) (by decide +kernel), List.mem_of_getElem? (i := 736) (by decide +kernel)⟩
theorem lw_p30 : lw_okq (⟨"FarSumsModel", "momentOf", "(IIIII)J"⟩, 20) := ⟨⟨by decide +kernel, by decide +kernel⟩, List.mem_of_getElem? (i := 571) (by decide +kernel), List.mem_of_getElem? (i := 743) (by decide +kernel), List.mem_of_getElem? (i := 744) (by decide +kernel)⟩
theorem lw_p31 : lw_okq (⟨"FarSumsModel", "goAcross", "(IIII)V"⟩, 20) := ⟨⟨by decide +kernel, by decide +kernel⟩, List.mem_of_getElem? (i := 571) (by decide +kernel), List.mem_of_getElem? (i := 759) (by decide +kernel), List.mem_of_getElem? (i := 760) (by decide +kernel)⟩
def lw_privs_2 : List (MethodName × Nat) := [(⟨"FarSums$Motion", "shiftPlaces", "(I)V"⟩, 6), (⟨"FarSums", "digestPoints", "(J)J"⟩, 6), (⟨"FarSums", "digestFactors", "(J)J"⟩, 6), (⟨"FarSums", "digestBoxes", "(J)J"⟩, 6), (⟨"FarSums", "digestMoments", "(JIII)J"⟩, 6), (⟨"FarSumsModel", "isPoint", "(I)Z"⟩, 20), (⟨"FarSumsModel", "many", "()I"⟩, 20), (⟨"FarSumsModel", "sumAt", "(II)J"⟩, 20), (⟨"FarSumsModel", "pull", "(III)J"⟩, 20), (⟨"FarSumsModel", "isBox", "(III)Z"⟩, 20), (⟨"FarSumsModel", "isSplit", "(III)Z"⟩, 20), (⟨"FarSumsModel", "pointsIn", "(III)I"⟩, 20), (⟨"FarSumsModel", "isIn", "(IIII)Z"⟩, 20), (⟨"FarSumsModel", "bulk", "(III)J"⟩, 20), (⟨"FarSumsModel", "momentOf", "(IIIII)J"⟩, 20), (⟨"FarSumsModel", "goAcross", "(IIII)V"⟩, 20)]
theorem lw_r2 : ∀ q ∈ lw_privs_2, lw_okq q := List.forall_mem_cons.mpr ⟨lw_p16, List.forall_mem_cons.mpr ⟨lw_p17, List.forall_mem_cons.mpr ⟨lw_p18, List.forall_mem_cons.mpr ⟨lw_p19, List.forall_mem_cons.mpr ⟨lw_p20, List.forall_mem_cons.mpr ⟨lw_p21, List.forall_mem_cons.mpr ⟨lw_p22, List.forall_mem_cons.mpr ⟨lw_p23, List.forall_mem_cons.mpr ⟨lw_p24, List.forall_mem_cons.mpr ⟨lw_p25, List.forall_mem_cons.mpr ⟨lw_p26, List.forall_mem_cons.mpr ⟨lw_p27, List.forall_mem_cons.mpr ⟨lw_p28, List.forall_mem_cons.mpr ⟨lw_p29, List.forall_mem_cons.mpr ⟨lw_p30, List.forall_mem_cons.mpr ⟨lw_p31, fun _ h => absurd h List.not_mem_nil⟩⟩⟩⟩⟩⟩⟩⟩⟩⟩⟩⟩⟩⟩⟩⟩
theorem lw_p32 : lw_okq (⟨"FarSumsModel", "term", "(IIIIII)J"⟩, 20) := ⟨⟨by decide +kernel, by decide +kernel⟩, List.mem_of_getElem? (i := 571) (by decide +kernel), List.mem_of_getElem? (i := 766) (by decide +kernel), List.mem_of_getElem? (i := 767) (by decide +kernel)⟩
theorem lw_p33 : lw_okq (⟨"FarSumsModel", "endOf", "(IIIIII)J"⟩, 20) := ⟨⟨by decide +kernel, by decide +kernel⟩, List.mem_of_getElem? (i := 571) (by decide +kernel), List.mem_of_getElem? (i := 773) (by decide +kernel), List.mem_of_getElem? (i := 774) (by decide +kernel)⟩
theorem lw_p34 : lw_okq (⟨"FarSumsModel", "goes", "(III)V"⟩, 20) := ⟨⟨by decide +kernel, by decide +kernel⟩, List.mem_of_getElem? (i := 571) (by decide +kernel), List.mem_of_getElem? (i := 777) (by decide +kernel), List.mem_of_getElem? (i := 778) (by decide +kernel)⟩
theorem lw_p35 : lw_okq (⟨"FarSumsModel", "farOf", "(III)I"⟩, 20) := ⟨⟨by decide +kernel, by decide +kernel⟩, List.mem_of_getElem? (i := 571) (by decide +kernel), List.mem_of_getElem? (i := 793) (by decide +kernel), List.mem_of_getElem? (i := 794) (by decide +kernel)⟩
theorem lw_p36 : lw_okq (⟨"FarSumsModel", "goOn", "()V"⟩, 20) := ⟨⟨by decide +kernel, by decide +kernel⟩, List.mem_of_getElem? (i := 571) (by decide +kernel), List.mem_of_getElem? (i := 802) (by decide +kernel), List.mem_of_getElem? (i := 803) (by decide +kernel)⟩
theorem lw_p37 : lw_okq (⟨"FarSumsModel", "findPushes", "()V"⟩, 20) := ⟨⟨by decide +kernel, by decide +kernel⟩, List.mem_of_getElem? (i := 571) (by decide +kernel), List.mem_of_getElem? (i := 806) (by decide +kernel), List.mem_of_getElem? (i := 807) (by decide +kernel)⟩
theorem lw_p38 : lw_okq (⟨"FarSumsModel", "goBack", "()V"⟩, 20) := ⟨⟨by decide +kernel, by decide +kernel⟩, List.mem_of_getElem? (i := 571) (by decide +kernel), List.mem_of_getElem? (i := 817) (by decide +kernel), List.mem_of_getElem? (i := 818) (by decide +kernel)⟩
def lw_privs_3 : List (MethodName × Nat) := [(⟨"FarSumsModel", "term", "(IIIIII)J"⟩, 20), (⟨"FarSumsModel", "endOf", "(IIIIII)J"⟩, 20), (⟨"FarSumsModel", "goes", "(III)V"⟩, 20), (⟨"FarSumsModel", "farOf", "(III)I"⟩, 20), (⟨"FarSumsModel", "goOn", "()V"⟩, 20), (⟨"FarSumsModel", "findPushes", "()V"⟩, 20), (⟨"FarSumsModel", "goBack", "()V"⟩, 20)]
theorem lw_r3 : ∀ q ∈ lw_privs_3, lw_okq q := List.forall_mem_cons.mpr ⟨lw_p32, List.forall_mem_cons.mpr ⟨lw_p33, List.forall_mem_cons.mpr ⟨lw_p34, List.forall_mem_cons.mpr ⟨lw_p35, List.forall_mem_cons.mpr ⟨lw_p36, List.forall_mem_cons.mpr ⟨lw_p37, List.forall_mem_cons.mpr ⟨lw_p38, fun _ h => absurd h List.not_mem_nil⟩⟩⟩⟩⟩⟩⟩
def lw_privs : List (MethodName × Nat) := lw_privs_1 ++ (lw_privs_2 ++ (lw_privs_3))
def lw_tbl : List Cond := k2_sels lw_privs ++ tables_1
theorem lw_privs_ok : ∀ q ∈ lw_privs, lw_okq q := by
  show ∀ q ∈ lw_privs_1 ++ (lw_privs_2 ++ (lw_privs_3)), lw_okq q
  exact List.forall_mem_append.mpr ⟨lw_r1, List.forall_mem_append.mpr ⟨lw_r2, lw_r3⟩⟩
def RX0 : String := "FarSums$Boxes"
def TX0 : u_T := fun k => match k with
  | 0 => ("FarSums$Boxes", "points", "LFarSums$Points;", true)
  | 1 => ("FarSums$Boxes", "tally", "[I", true)
  | 2 => ("FarSums$Boxes", "room", "I", false)
  | 3 => ("FarSums$Boxes", "moments", "[J", true)
  | _ => ("FarSums$Boxes", "bulk", "I", false)
def tyX0 : Nat → FieldType := fun k => match k with
  | 0 => .object "FarSums$Points"
  | 1 => .array .int
  | 2 => .int
  | 3 => .array .long
  | _ => .int
abbrev wsX00 : List Cond := u_ws RX0 TX0 5
theorem nmX0 : ∀ a, a < 5 → ∀ b, b < 5 → a ≠ b → (TX0 a).2.1 ≠ (TX0 b).2.1 := by decide +kernel
theorem tyX0_ok : ∀ k, k < 5 → parseFieldDescriptor (TX0 k).2.2.1 = some (tyX0 k) := by decide +kernel
abbrev cX0_init : ByteArray := prog_2_method_1_code
def yX0_init : MethodName := ⟨RX0, "<init>", "(LFarSums$Points;)V"⟩
abbrev cX0_enter : ByteArray := prog_2_method_2_code
def yX0_enter : MethodName := ⟨RX0, "enter", "(II)V"⟩
abbrev cX0_leave : ByteArray := prog_2_method_3_code
def yX0_leave : MethodName := ⟨RX0, "leave", "(II)V"⟩
abbrev cX0_pointsIn : ByteArray := prog_2_method_4_code
def yX0_pointsIn : MethodName := ⟨RX0, "pointsIn", "(III)I"⟩
abbrev cX0_isThere : ByteArray := prog_2_method_5_code
def yX0_isThere : MethodName := ⟨RX0, "isThere", "(III)Z"⟩
abbrev cX0_isSplit : ByteArray := prog_2_method_6_code
def yX0_isSplit : MethodName := ⟨RX0, "isSplit", "(III)Z"⟩
abbrev cX0_splitBoxes : ByteArray := prog_2_method_7_code
def yX0_splitBoxes : MethodName := ⟨RX0, "splitBoxes", "()I"⟩
abbrev cX0_greatestLevel : ByteArray := prog_2_method_8_code
def yX0_greatestLevel : MethodName := ⟨RX0, "greatestLevel", "()I"⟩
abbrev cX0_leafLevel : ByteArray := prog_2_method_9_code
def yX0_leafLevel : MethodName := ⟨RX0, "leafLevel", "(II)I"⟩
abbrev cX0_holds : ByteArray := prog_2_method_10_code
def yX0_holds : MethodName := ⟨RX0, "holds", "(IIII)Z"⟩
abbrev cX0_gather : ByteArray := prog_2_method_11_code
def yX0_gather : MethodName := ⟨RX0, "gather", "(III)V"⟩
abbrev cX0_addMoments : ByteArray := prog_2_method_12_code
def yX0_addMoments : MethodName := ⟨RX0, "addMoments", "(III)V"⟩
abbrev cX0_numberAt : ByteArray := prog_2_method_13_code
def yX0_numberAt : MethodName := ⟨RX0, "numberAt", "(II)I"⟩
abbrev cX0_placeIndex : ByteArray := prog_2_method_14_code
def yX0_placeIndex : MethodName := ⟨RX0, "placeIndex", "(III)I"⟩
abbrev cX0_boxIndex : ByteArray := prog_2_method_15_code
def yX0_boxIndex : MethodName := ⟨RX0, "boxIndex", "(III)I"⟩
def RX1 : String := "FarSums$Motion"
def TX1 : u_T := fun k => match k with
  | 0 => ("FarSums$Motion", "points", "LFarSums$Points;", true)
  | 1 => ("FarSums$Motion", "boxes", "LFarSums$Boxes;", true)
  | 2 => ("FarSums$Motion", "series", "LFarSums$Series;", true)
  | 3 => ("FarSums$Motion", "pushX", "[I", true)
  | 4 => ("FarSums$Motion", "pushY", "[I", true)
  | _ => ("FarSums$Motion", "steps", "I", false)
def tyX1 : Nat → FieldType := fun k => match k with
  | 0 => .object "FarSums$Points"
  | 1 => .object "FarSums$Boxes"
  | 2 => .object "FarSums$Series"
  | 3 => .array .int
  | 4 => .array .int
  | _ => .int
abbrev wsX10 : List Cond := u_ws RX1 TX1 6
theorem nmX1 : ∀ a, a < 6 → ∀ b, b < 6 → a ≠ b → (TX1 a).2.1 ≠ (TX1 b).2.1 := by decide +kernel
theorem tyX1_ok : ∀ k, k < 6 → parseFieldDescriptor (TX1 k).2.2.1 = some (tyX1 k) := by decide +kernel
abbrev cX1_init : ByteArray := prog_3_method_1_code
def yX1_init : MethodName := ⟨RX1, "<init>", "(LFarSums$Points;LFarSums$Boxes;LFarSums$Series;)V"⟩
abbrev cX1_forth : ByteArray := prog_3_method_2_code
def yX1_forth : MethodName := ⟨RX1, "forth", "()V"⟩
abbrev cX1_back : ByteArray := prog_3_method_3_code
def yX1_back : MethodName := ⟨RX1, "back", "()V"⟩
abbrev cX1_findPushes : ByteArray := prog_3_method_4_code
def yX1_findPushes : MethodName := ⟨RX1, "findPushes", "()V"⟩
abbrev cX1_wholeSum : ByteArray := prog_3_method_5_code
def yX1_wholeSum : MethodName := ⟨RX1, "wholeSum", "(II)J"⟩
abbrev cX1_pushOf : ByteArray := prog_3_method_6_code
def yX1_pushOf : MethodName := ⟨RX1, "pushOf", "(J)I"⟩
abbrev cX1_addPushes : ByteArray := prog_3_method_7_code
def yX1_addPushes : MethodName := ⟨RX1, "addPushes", "(I)V"⟩
abbrev cX1_shiftPlaces : ByteArray := prog_3_method_8_code
def yX1_shiftPlaces : MethodName := ⟨RX1, "shiftPlaces", "(I)V"⟩
def RX2 : String := "FarSums$Points"
def TX2 : u_T := fun k => match k with
  | 0 => ("FarSums$Points", "here", "[Z", true)
  | 1 => ("FarSums$Points", "x", "[I", true)
  | 2 => ("FarSums$Points", "y", "[I", true)
  | 3 => ("FarSums$Points", "weight", "[I", true)
  | 4 => ("FarSums$Points", "paceX", "[I", true)
  | 5 => ("FarSums$Points", "paceY", "[I", true)
  | _ => ("FarSums$Points", "number", "I", false)
def tyX2 : Nat → FieldType := fun k => match k with
  | 0 => .array .boolean
  | 1 => .array .int
  | 2 => .array .int
  | 3 => .array .int
  | 4 => .array .int
  | 5 => .array .int
  | _ => .int
abbrev wsX20 : List Cond := u_ws RX2 TX2 7
theorem nmX2 : ∀ a, a < 7 → ∀ b, b < 7 → a ≠ b → (TX2 a).2.1 ≠ (TX2 b).2.1 := by decide +kernel
theorem tyX2_ok : ∀ k, k < 7 → parseFieldDescriptor (TX2 k).2.2.1 = some (tyX2 k) := by decide +kernel
abbrev cX2_init : ByteArray := prog_4_method_1_code
def yX2_init : MethodName := ⟨RX2, "<init>", "()V"⟩
abbrev cX2_has : ByteArray := prog_4_method_2_code
def yX2_has : MethodName := ⟨RX2, "has", "(I)Z"⟩
abbrev cX2_leastFree : ByteArray := prog_4_method_3_code
def yX2_leastFree : MethodName := ⟨RX2, "leastFree", "()I"⟩
abbrev cX2_add : ByteArray := prog_4_method_4_code
def yX2_add : MethodName := ⟨RX2, "add", "(IIII)V"⟩
abbrev cX2_remove : ByteArray := prog_4_method_5_code
def yX2_remove : MethodName := ⟨RX2, "remove", "(I)V"⟩
abbrev cX2_put : ByteArray := prog_4_method_6_code
def yX2_put : MethodName := ⟨RX2, "put", "(III)V"⟩
abbrev cX2_setPace : ByteArray := prog_4_method_7_code
def yX2_setPace : MethodName := ⟨RX2, "setPace", "(III)V"⟩
abbrev cX2_read : ByteArray := prog_4_method_8_code
def yX2_read : MethodName := ⟨RX2, "read", "(II)I"⟩
abbrev cX2_wholeBulk : ByteArray := prog_4_method_9_code
def yX2_wholeBulk : MethodName := ⟨RX2, "wholeBulk", "()I"⟩
abbrev cX2_nearerThan : ByteArray := prog_4_method_10_code
def yX2_nearerThan : MethodName := ⟨RX2, "nearerThan", "(III)I"⟩
abbrev cX2_rankKey : ByteArray := prog_4_method_11_code
def yX2_rankKey : MethodName := ⟨RX2, "rankKey", "(III)I"⟩
def RX3 : String := "FarSums$Polynomial"
def TX3 : u_T := fun k => match k with
  | _ => ("FarSums$Polynomial", "numbers", "[J", true)
def tyX3 : Nat → FieldType := fun k => match k with
  | _ => .array .long
abbrev wsX30 : List Cond := u_ws RX3 TX3 1
theorem nmX3 : ∀ a, a < 1 → ∀ b, b < 1 → a ≠ b → (TX3 a).2.1 ≠ (TX3 b).2.1 := by decide +kernel
theorem tyX3_ok : ∀ k, k < 1 → parseFieldDescriptor (TX3 k).2.2.1 = some (tyX3 k) := by decide +kernel
abbrev cX3_init : ByteArray := prog_5_method_1_code
def yX3_init : MethodName := ⟨RX3, "<init>", "()V"⟩
abbrev cX3_get : ByteArray := prog_5_method_2_code
def yX3_get : MethodName := ⟨RX3, "get", "(II)J"⟩
abbrev cX3_set : ByteArray := prog_5_method_3_code
def yX3_set : MethodName := ⟨RX3, "set", "(IIJ)V"⟩
abbrev cX3_add : ByteArray := prog_5_method_4_code
def yX3_add : MethodName := ⟨RX3, "add", "(IIJ)V"⟩
abbrev cX3_clear : ByteArray := prog_5_method_5_code
def yX3_clear : MethodName := ⟨RX3, "clear", "()V"⟩
abbrev cX3_valueAt : ByteArray := prog_5_method_6_code
def yX3_valueAt : MethodName := ⟨RX3, "valueAt", "(JJ)J"⟩
def RX4 : String := "FarSums$Series"
def TX4 : u_T := fun k => match k with
  | 0 => ("FarSums$Series", "factors", "LFarSums$Polynomial;", true)
  | _ => ("FarSums$Series", "result", "LFarSums$Polynomial;", true)
def tyX4 : Nat → FieldType := fun k => match k with
  | 0 => .object "FarSums$Polynomial"
  | _ => .object "FarSums$Polynomial"
abbrev wsX40 : List Cond := u_ws RX4 TX4 2
theorem nmX4 : ∀ a, a < 2 → ∀ b, b < 2 → a ≠ b → (TX4 a).2.1 ≠ (TX4 b).2.1 := by decide +kernel
theorem tyX4_ok : ∀ k, k < 2 → parseFieldDescriptor (TX4 k).2.2.1 = some (tyX4 k) := by decide +kernel
abbrev cX4_init : ByteArray := prog_6_method_1_code
def yX4_init : MethodName := ⟨RX4, "<init>", "(LFarSums$Polynomial;)V"⟩
abbrev cX4_expandTerm : ByteArray := prog_6_method_2_code
def yX4_expandTerm : MethodName := ⟨RX4, "expandTerm", "([JI)V"⟩
abbrev cX4_expandEnd : ByteArray := prog_6_method_3_code
def yX4_expandEnd : MethodName := ⟨RX4, "expandEnd", "(JII)V"⟩
abbrev cX4_addTermParts : ByteArray := prog_6_method_4_code
def yX4_addTermParts : MethodName := ⟨RX4, "addTermParts", "(IIJ[JI)V"⟩
abbrev cX4_addEndParts : ByteArray := prog_6_method_5_code
def yX4_addEndParts : MethodName := ⟨RX4, "addEndParts", "(IIJII)V"⟩
abbrev cX4_waysToChoose : ByteArray := prog_6_method_6_code
def yX4_waysToChoose : MethodName := ⟨RX4, "waysToChoose", "(IIII)J"⟩
abbrev cX4_power : ByteArray := prog_6_method_7_code
def yX4_power : MethodName := ⟨RX4, "power", "(JI)J"⟩
def RX5 : String := "FarSums$Trail"
def TX5 : u_T := fun k => match k with
  | 0 => ("FarSums$Trail", "points", "LFarSums$Points;", true)
  | 1 => ("FarSums$Trail", "boxes", "LFarSums$Boxes;", true)
  | 2 => ("FarSums$Trail", "level", "[I", true)
  | 3 => ("FarSums$Trail", "first", "[I", true)
  | 4 => ("FarSums$Trail", "second", "[I", true)
  | 5 => ("FarSums$Trail", "length", "I", false)
  | 6 => ("FarSums$Trail", "placeX", "I", false)
  | 7 => ("FarSums$Trail", "placeY", "I", false)
  | _ => ("FarSums$Trail", "distance", "I", false)
def tyX5 : Nat → FieldType := fun k => match k with
  | 0 => .object "FarSums$Points"
  | 1 => .object "FarSums$Boxes"
  | 2 => .array .int
  | 3 => .array .int
  | 4 => .array .int
  | 5 => .int
  | 6 => .int
  | 7 => .int
  | _ => .int
abbrev wsX50 : List Cond := u_ws RX5 TX5 9
theorem nmX5 : ∀ a, a < 9 → ∀ b, b < 9 → a ≠ b → (TX5 a).2.1 ≠ (TX5 b).2.1 := by decide +kernel
theorem tyX5_ok : ∀ k, k < 9 → parseFieldDescriptor (TX5 k).2.2.1 = some (tyX5 k) := by decide +kernel
abbrev cX5_init : ByteArray := prog_7_method_1_code
def yX5_init : MethodName := ⟨RX5, "<init>", "(LFarSums$Points;LFarSums$Boxes;)V"⟩
abbrev cX5_trace : ByteArray := prog_7_method_2_code
def yX5_trace : MethodName := ⟨RX5, "trace", "(III)V"⟩
abbrev cX5_read : ByteArray := prog_7_method_3_code
def yX5_read : MethodName := ⟨RX5, "read", "(II)I"⟩
abbrev cX5_visit : ByteArray := prog_7_method_4_code
def yX5_visit : MethodName := ⟨RX5, "visit", "(III)V"⟩
abbrev cX5_isFar : ByteArray := prog_7_method_5_code
def yX5_isFar : MethodName := ⟨RX5, "isFar", "(III)Z"⟩
abbrev cX5_notePoints : ByteArray := prog_7_method_6_code
def yX5_notePoints : MethodName := ⟨RX5, "notePoints", "(III)V"⟩
abbrev cX5_note : ByteArray := prog_7_method_7_code
def yX5_note : MethodName := ⟨RX5, "note", "(III)V"⟩
def RX6 : String := "FarSums"
def TX6 : u_T := fun k => match k with
  | 0 => ("FarSums", "points", "LFarSums$Points;", true)
  | 1 => ("FarSums", "boxes", "LFarSums$Boxes;", true)
  | 2 => ("FarSums", "factors", "LFarSums$Polynomial;", true)
  | 3 => ("FarSums", "series", "LFarSums$Series;", true)
  | 4 => ("FarSums", "trail", "LFarSums$Trail;", true)
  | _ => ("FarSums", "motion", "LFarSums$Motion;", true)
def tyX6 : Nat → FieldType := fun k => match k with
  | 0 => .object "FarSums$Points"
  | 1 => .object "FarSums$Boxes"
  | 2 => .object "FarSums$Polynomial"
  | 3 => .object "FarSums$Series"
  | 4 => .object "FarSums$Trail"
  | _ => .object "FarSums$Motion"
abbrev wsX60 : List Cond := u_ws RX6 TX6 6
theorem nmX6 : ∀ a, a < 6 → ∀ b, b < 6 → a ≠ b → (TX6 a).2.1 ≠ (TX6 b).2.1 := by decide +kernel
theorem tyX6_ok : ∀ k, k < 6 → parseFieldDescriptor (TX6 k).2.2.1 = some (tyX6 k) := by decide +kernel
abbrev cX6_init : ByteArray := prog_1_method_1_code
def yX6_init : MethodName := ⟨RX6, "<init>", "()V"⟩
abbrev cX6_point : ByteArray := prog_1_method_2_code
def yX6_point : MethodName := ⟨RX6, "point", "(III)I"⟩
abbrev cX6_take : ByteArray := prog_1_method_3_code
def yX6_take : MethodName := ⟨RX6, "take", "(I)I"⟩
abbrev cX6_move : ByteArray := prog_1_method_4_code
def yX6_move : MethodName := ⟨RX6, "move", "(III)I"⟩
abbrev cX6_weigh : ByteArray := prog_1_method_5_code
def yX6_weigh : MethodName := ⟨RX6, "weigh", "(II)I"⟩
abbrev cX6_pace : ByteArray := prog_1_method_6_code
def yX6_pace : MethodName := ⟨RX6, "pace", "(III)I"⟩
abbrev cX6_at : ByteArray := prog_1_method_7_code
def yX6_at : MethodName := ⟨RX6, "at", "(II)I"⟩
abbrev cX6_kernel : ByteArray := prog_1_method_8_code
def yX6_kernel : MethodName := ⟨RX6, "kernel", "(III)I"⟩
abbrev cX6_capacity : ByteArray := prog_1_method_9_code
def yX6_capacity : MethodName := ⟨RX6, "capacity", "(I)I"⟩
abbrev cX6_sum : ByteArray := prog_1_method_10_code
def yX6_sum : MethodName := ⟨RX6, "sum", "(II)J"⟩
abbrev cX6_across : ByteArray := prog_1_method_11_code
def yX6_across : MethodName := ⟨RX6, "across", "(IIIII)J"⟩
abbrev cX6_order : ByteArray := prog_1_method_12_code
def yX6_order : MethodName := ⟨RX6, "order", "(IIIJ)I"⟩
abbrev cX6_way : ByteArray := prog_1_method_13_code
def yX6_way : MethodName := ⟨RX6, "way", "(IIIII)I"⟩
abbrev cX6_box : ByteArray := prog_1_method_14_code
def yX6_box : MethodName := ⟨RX6, "box", "(IIII)I"⟩
abbrev cX6_moment : ByteArray := prog_1_method_15_code
def yX6_moment : MethodName := ⟨RX6, "moment", "(IIIII)J"⟩
abbrev cX6_leaf : ByteArray := prog_1_method_16_code
def yX6_leaf : MethodName := ⟨RX6, "leaf", "(II)I"⟩
abbrev cX6_nearest : ByteArray := prog_1_method_17_code
def yX6_nearest : MethodName := ⟨RX6, "nearest", "(III)I"⟩
abbrev cX6_step : ByteArray := prog_1_method_18_code
def yX6_step : MethodName := ⟨RX6, "step", "(I)I"⟩
abbrev cX6_count : ByteArray := prog_1_method_19_code
def yX6_count : MethodName := ⟨RX6, "count", "(I)I"⟩
abbrev cX6_digest : ByteArray := prog_1_method_20_code
def yX6_digest : MethodName := ⟨RX6, "digest", "()J"⟩
abbrev cX6_digestPoints : ByteArray := prog_1_method_21_code
def yX6_digestPoints : MethodName := ⟨RX6, "digestPoints", "(J)J"⟩
abbrev cX6_digestFactors : ByteArray := prog_1_method_22_code
def yX6_digestFactors : MethodName := ⟨RX6, "digestFactors", "(J)J"⟩
abbrev cX6_digestBoxes : ByteArray := prog_1_method_23_code
def yX6_digestBoxes : MethodName := ⟨RX6, "digestBoxes", "(J)J"⟩
abbrev cX6_digestMoments : ByteArray := prog_1_method_24_code
def yX6_digestMoments : MethodName := ⟨RX6, "digestMoments", "(JIII)J"⟩
abbrev cX6_pullOf : ByteArray := prog_1_method_25_code
def yX6_pullOf : MethodName := ⟨RX6, "pullOf", "(III)J"⟩
abbrev cX6_about : ByteArray := prog_1_method_26_code
def yX6_about : MethodName := ⟨RX6, "about", "(III)J"⟩
abbrev cX6_wholeEnd : ByteArray := prog_1_method_27_code
def yX6_wholeEnd : MethodName := ⟨RX6, "wholeEnd", "(III)J"⟩
abbrev cX6_termOf : ByteArray := prog_1_method_28_code
def yX6_termOf : MethodName := ⟨RX6, "termOf", "(IIII)J"⟩
abbrev cX6_endOf : ByteArray := prog_1_method_29_code
def yX6_endOf : MethodName := ⟨RX6, "endOf", "(IIII)J"⟩
abbrev cX6_isPlace : ByteArray := prog_1_method_30_code
def yX6_isPlace : MethodName := ⟨RX6, "isPlace", "(II)Z"⟩
abbrev cX6_isWeight : ByteArray := prog_1_method_31_code
def yX6_isWeight : MethodName := ⟨RX6, "isWeight", "(I)Z"⟩
abbrev cX6_isPaceNumber : ByteArray := prog_1_method_32_code
def yX6_isPaceNumber : MethodName := ⟨RX6, "isPaceNumber", "(I)Z"⟩
abbrev cX6_isDistance : ByteArray := prog_1_method_33_code
def yX6_isDistance : MethodName := ⟨RX6, "isDistance", "(I)Z"⟩
abbrev cX6_isPowers : ByteArray := prog_1_method_34_code
def yX6_isPowers : MethodName := ⟨RX6, "isPowers", "(II)Z"⟩
abbrev cX6_slot : ByteArray := prog_1_method_35_code
def yX6_slot : MethodName := ⟨RX6, "slot", "(II)I"⟩
abbrev cX6_sideOf : ByteArray := prog_1_method_36_code
def yX6_sideOf : MethodName := ⟨RX6, "sideOf", "(I)I"⟩
abbrev cX6_fromMiddle : ByteArray := prog_1_method_37_code
def yX6_fromMiddle : MethodName := ⟨RX6, "fromMiddle", "(III)I"⟩
abbrev cX6_wrapPace : ByteArray := prog_1_method_38_code
def yX6_wrapPace : MethodName := ⟨RX6, "wrapPace", "(J)I"⟩
abbrev cX6_wrapPlace : ByteArray := prog_1_method_39_code
def yX6_wrapPlace : MethodName := ⟨RX6, "wrapPlace", "(I)I"⟩
def RX7 : String := "FarSumsModel"
def TX7 : u_T := fun k => match k with
  | 0 => ("FarSumsModel", "there", "[Z", true)
  | 1 => ("FarSumsModel", "px", "[I", true)
  | 2 => ("FarSumsModel", "py", "[I", true)
  | 3 => ("FarSumsModel", "weight", "[I", true)
  | 4 => ("FarSumsModel", "vx", "[I", true)
  | 5 => ("FarSumsModel", "vy", "[I", true)
  | 6 => ("FarSumsModel", "kernel", "[I", true)
  | 7 => ("FarSumsModel", "most", "I", false)
  | 8 => ("FarSumsModel", "steps", "I", false)
  | 9 => ("FarSumsModel", "stackLevel", "[I", true)
  | 10 => ("FarSumsModel", "stackI", "[I", true)
  | 11 => ("FarSumsModel", "stackJ", "[I", true)
  | 12 => ("FarSumsModel", "wayLevel", "[I", true)
  | 13 => ("FarSumsModel", "wayI", "[I", true)
  | 14 => ("FarSumsModel", "wayJ", "[I", true)
  | 15 => ("FarSumsModel", "wayMany", "I", false)
  | 16 => ("FarSumsModel", "about", "J", false)
  | 17 => ("FarSumsModel", "end", "J", false)
  | 18 => ("FarSumsModel", "pushX", "[I", true)
  | _ => ("FarSumsModel", "pushY", "[I", true)
def tyX7 : Nat → FieldType := fun k => match k with
  | 0 => .array .boolean
  | 1 => .array .int
  | 2 => .array .int
  | 3 => .array .int
  | 4 => .array .int
  | 5 => .array .int
  | 6 => .array .int
  | 7 => .int
  | 8 => .int
  | 9 => .array .int
  | 10 => .array .int
  | 11 => .array .int
  | 12 => .array .int
  | 13 => .array .int
  | 14 => .array .int
  | 15 => .int
  | 16 => .long
  | 17 => .long
  | 18 => .array .int
  | _ => .array .int
abbrev wsX70 : List Cond := u_ws RX7 TX7 20
theorem nmX7 : ∀ a, a < 20 → ∀ b, b < 20 → a ≠ b → (TX7 a).2.1 ≠ (TX7 b).2.1 := by decide +kernel
theorem tyX7_ok : ∀ k, k < 20 → parseFieldDescriptor (TX7 k).2.2.1 = some (tyX7 k) := by decide +kernel
abbrev cX7_init : ByteArray := prog_9_method_1_code
def yX7_init : MethodName := ⟨RX7, "<init>", "()V"⟩
abbrev cX7_in : ByteArray := prog_9_method_3_code
def yX7_in : MethodName := ⟨RX7, "in", "(JJJ)Z"⟩
abbrev cX7_isPlace : ByteArray := prog_9_method_4_code
def yX7_isPlace : MethodName := ⟨RX7, "isPlace", "(II)Z"⟩
abbrev cX7_isPoint : ByteArray := prog_9_method_5_code
def yX7_isPoint : MethodName := ⟨RX7, "isPoint", "(I)Z"⟩
abbrev cX7_many : ByteArray := prog_9_method_6_code
def yX7_many : MethodName := ⟨RX7, "many", "()I"⟩
abbrev cX7_point : ByteArray := prog_9_method_7_code
def yX7_point : MethodName := ⟨RX7, "point", "(III)I"⟩
abbrev cX7_take : ByteArray := prog_9_method_8_code
def yX7_take : MethodName := ⟨RX7, "take", "(I)I"⟩
abbrev cX7_move : ByteArray := prog_9_method_9_code
def yX7_move : MethodName := ⟨RX7, "move", "(III)I"⟩
abbrev cX7_weigh : ByteArray := prog_9_method_10_code
def yX7_weigh : MethodName := ⟨RX7, "weigh", "(II)I"⟩
abbrev cX7_pace : ByteArray := prog_9_method_11_code
def yX7_pace : MethodName := ⟨RX7, "pace", "(III)I"⟩
abbrev cX7_at : ByteArray := prog_9_method_12_code
def yX7_at : MethodName := ⟨RX7, "at", "(II)I"⟩
abbrev cX7_isPair : ByteArray := prog_9_method_13_code
def yX7_isPair : MethodName := ⟨RX7, "isPair", "(II)Z"⟩
abbrev cX7_kernel : ByteArray := prog_9_method_14_code
def yX7_kernel : MethodName := ⟨RX7, "kernel", "(III)I"⟩
abbrev cX7_capacity : ByteArray := prog_9_method_15_code
def yX7_capacity : MethodName := ⟨RX7, "capacity", "(I)I"⟩
abbrev cX7_power : ByteArray := prog_9_method_16_code
def yX7_power : MethodName := ⟨RX7, "power", "(JI)J"⟩
abbrev cX7_pull : ByteArray := prog_9_method_17_code
def yX7_pull : MethodName := ⟨RX7, "pull", "(III)J"⟩
abbrev cX7_sumAt : ByteArray := prog_9_method_18_code
def yX7_sumAt : MethodName := ⟨RX7, "sumAt", "(II)J"⟩
abbrev cX7_sum : ByteArray := prog_9_method_19_code
def yX7_sum : MethodName := ⟨RX7, "sum", "(II)J"⟩
abbrev cX7_isIn : ByteArray := prog_9_method_20_code
def yX7_isIn : MethodName := ⟨RX7, "isIn", "(IIII)Z"⟩
abbrev cX7_pointsIn : ByteArray := prog_9_method_21_code
def yX7_pointsIn : MethodName := ⟨RX7, "pointsIn", "(III)I"⟩
abbrev cX7_bulk : ByteArray := prog_9_method_22_code
def yX7_bulk : MethodName := ⟨RX7, "bulk", "(III)J"⟩
abbrev cX7_isSplit : ByteArray := prog_9_method_23_code
def yX7_isSplit : MethodName := ⟨RX7, "isSplit", "(III)Z"⟩
abbrev cX7_isBox : ByteArray := prog_9_method_24_code
def yX7_isBox : MethodName := ⟨RX7, "isBox", "(III)Z"⟩
abbrev cX7_middle : ByteArray := prog_9_method_25_code
def yX7_middle : MethodName := ⟨RX7, "middle", "(II)I"⟩
abbrev cX7_momentOf : ByteArray := prog_9_method_26_code
def yX7_momentOf : MethodName := ⟨RX7, "momentOf", "(IIIII)J"⟩
abbrev cX7_box : ByteArray := prog_9_method_27_code
def yX7_box : MethodName := ⟨RX7, "box", "(IIII)I"⟩
abbrev cX7_moment : ByteArray := prog_9_method_28_code
def yX7_moment : MethodName := ⟨RX7, "moment", "(IIIII)J"⟩
abbrev cX7_leaf : ByteArray := prog_9_method_29_code
def yX7_leaf : MethodName := ⟨RX7, "leaf", "(II)I"⟩
abbrev cX7_choose : ByteArray := prog_9_method_30_code
def yX7_choose : MethodName := ⟨RX7, "choose", "(II)J"⟩
abbrev cX7_term : ByteArray := prog_9_method_31_code
def yX7_term : MethodName := ⟨RX7, "term", "(IIIIII)J"⟩
abbrev cX7_size : ByteArray := prog_9_method_32_code
def yX7_size : MethodName := ⟨RX7, "size", "(J)J"⟩
abbrev cX7_endOf : ByteArray := prog_9_method_33_code
def yX7_endOf : MethodName := ⟨RX7, "endOf", "(IIIIII)J"⟩
abbrev cX7_goes : ByteArray := prog_9_method_34_code
def yX7_goes : MethodName := ⟨RX7, "goes", "(III)V"⟩
abbrev cX7_goAcross : ByteArray := prog_9_method_35_code
def yX7_goAcross : MethodName := ⟨RX7, "goAcross", "(IIII)V"⟩
abbrev cX7_across : ByteArray := prog_9_method_36_code
def yX7_across : MethodName := ⟨RX7, "across", "(IIIII)J"⟩
abbrev cX7_order : ByteArray := prog_9_method_37_code
def yX7_order : MethodName := ⟨RX7, "order", "(IIIJ)I"⟩
abbrev cX7_way : ByteArray := prog_9_method_38_code
def yX7_way : MethodName := ⟨RX7, "way", "(IIIII)I"⟩
abbrev cX7_farOf : ByteArray := prog_9_method_39_code
def yX7_farOf : MethodName := ⟨RX7, "farOf", "(III)I"⟩
abbrev cX7_nearest : ByteArray := prog_9_method_40_code
def yX7_nearest : MethodName := ⟨RX7, "nearest", "(III)I"⟩
abbrev cX7_push : ByteArray := prog_9_method_41_code
def yX7_push : MethodName := ⟨RX7, "push", "(JJ)I"⟩
abbrev cX7_findPushes : ByteArray := prog_9_method_42_code
def yX7_findPushes : MethodName := ⟨RX7, "findPushes", "()V"⟩
abbrev cX7_brought : ByteArray := prog_9_method_43_code
def yX7_brought : MethodName := ⟨RX7, "brought", "(I)I"⟩
abbrev cX7_goOn : ByteArray := prog_9_method_44_code
def yX7_goOn : MethodName := ⟨RX7, "goOn", "()V"⟩
abbrev cX7_goBack : ByteArray := prog_9_method_45_code
def yX7_goBack : MethodName := ⟨RX7, "goBack", "()V"⟩
abbrev cX7_step : ByteArray := prog_9_method_46_code
def yX7_step : MethodName := ⟨RX7, "step", "(I)I"⟩
abbrev cX7_count : ByteArray := prog_9_method_47_code
def yX7_count : MethodName := ⟨RX7, "count", "(I)I"⟩
abbrev cX7_digest : ByteArray := prog_9_method_48_code
def yX7_digest : MethodName := ⟨RX7, "digest", "()J"⟩
def RJ9 : String := "java/lang/Math"
abbrev cJ9_abs_0f7a4 : ByteArray := prog_10_method_59_code
def yJ9_abs_0f7a4 : MethodName := ⟨RJ9, "abs", "(I)I"⟩
abbrev cJ9_abs_067f4 : ByteArray := prog_10_method_61_code
def yJ9_abs_067f4 : MethodName := ⟨RJ9, "abs", "(J)J"⟩
abbrev cJ9_max_7cf53 : ByteArray := prog_10_method_65_code
def yJ9_max_7cf53 : MethodName := ⟨RJ9, "max", "(II)I"⟩
def RL : String := "FarSumsLaw"
abbrev cL_law : ByteArray := code
def yL_law : MethodName := ⟨RL, "law", "([I)Z"⟩
abbrev vwCl : List vw_C := [(RX0, TX0, 5), (RX1, TX1, 6), (RX2, TX2, 7), (RX3, TX3, 1), (RX4, TX4, 2), (RX5, TX5, 9), (RX6, TX6, 6), (RX7, TX7, 20)]
