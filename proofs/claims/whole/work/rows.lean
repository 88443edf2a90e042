section
-- ===== PART A: goes FIRST, ahead of the names: the tables' words, and 'selects' of the private methods out of them =====
/-- a private method of a class that the tables say can be made, by its rows of tables_1 -/
def lw_okq (q : MethodName × Nat) : Prop := (q.1.cls ≠ "java/lang/invoke/MethodHandle" ∧ q.1.cls ≠ "java/lang/invoke/VarHandle") ∧ Cond.instantiable q.1.cls q.2 ∈ tables_1 ∧ Cond.privateMethod q.1 ∈ tables_1 ∧ Cond.instanceMethod q.1 ∈ tables_1
theorem lw_p0 : lw_okq (⟨"FarSums", "pullOf", "(III)J"⟩, 6) := ⟨⟨by decide +kernel, by decide +kernel⟩, List.mem_of_getElem? (i := 11) (by decide +kernel), List.mem_of_getElem? (i := 309) (by decide +kernel), List.mem_of_getElem? (i := 310) (by decide +kernel)⟩
theorem lw_p1 : lw_okq (⟨"FarSums$Trail", "visit", "(III)V"⟩, 9) := ⟨⟨by decide +kernel, by decide +kernel⟩, List.mem_of_getElem? (i := 124) (by decide +kernel), List.mem_of_getElem? (i := 328) (by decide +kernel), List.mem_of_getElem? (i := 329) (by decide +kernel)⟩
theorem lw_p2 : lw_okq (⟨"FarSums$Trail", "isFar", "(III)Z"⟩, 9) := ⟨⟨by decide +kernel, by decide +kernel⟩, List.mem_of_getElem? (i := 124) (by decide +kernel), List.mem_of_getElem? (i := 336) (by decide +kernel), List.mem_of_getElem? (i := 337) (by decide +kernel)⟩
theorem lw_p3 : lw_okq (⟨"FarSums$Trail", "note", "(III)V"⟩, 9) := ⟨⟨by decide +kernel, by decide +kernel⟩, List.mem_of_getElem? (i := 124) (by decide +kernel), List.mem_of_getElem? (i := 350) (by decide +kernel), List.mem_of_getElem? (i := 351) (by decide +kernel)⟩
theorem lw_p4 : lw_okq (⟨"FarSums$Trail", "notePoints", "(III)V"⟩, 9) := ⟨⟨by decide +kernel, by decide +kernel⟩, List.mem_of_getElem? (i := 124) (by decide +kernel), List.mem_of_getElem? (i := 359) (by decide +kernel), List.mem_of_getElem? (i := 360) (by decide +kernel)⟩
theorem lw_p5 : lw_okq (⟨"FarSums", "about", "(III)J"⟩, 6) := ⟨⟨by decide +kernel, by decide +kernel⟩, List.mem_of_getElem? (i := 11) (by decide +kernel), List.mem_of_getElem? (i := 367) (by decide +kernel), List.mem_of_getElem? (i := 368) (by decide +kernel)⟩
theorem lw_p6 : lw_okq (⟨"FarSums", "termOf", "(IIII)J"⟩, 6) := ⟨⟨by decide +kernel, by decide +kernel⟩, List.mem_of_getElem? (i := 11) (by decide +kernel), List.mem_of_getElem? (i := 371) (by decide +kernel), List.mem_of_getElem? (i := 372) (by decide +kernel)⟩
theorem lw_p7 : lw_okq (⟨"FarSums$Boxes", "addMoments", "(III)V"⟩, 5) := ⟨⟨by decide +kernel, by decide +kernel⟩, List.mem_of_getElem? (i := 63) (by decide +kernel), List.mem_of_getElem? (i := 381) (by decide +kernel), List.mem_of_getElem? (i := 382) (by decide +kernel)⟩
theorem lw_p8 : lw_okq (⟨"FarSums$Series", "addTermParts", "(IIJ[JI)V"⟩, 2) := ⟨⟨by decide +kernel, by decide +kernel⟩, List.mem_of_getElem? (i := 107) (by decide +kernel), List.mem_of_getElem? (i := 396) (by decide +kernel), List.mem_of_getElem? (i := 397) (by decide +kernel)⟩
theorem lw_p9 : lw_okq (⟨"FarSums", "wholeEnd", "(III)J"⟩, 6) := ⟨⟨by decide +kernel, by decide +kernel⟩, List.mem_of_getElem? (i := 11) (by decide +kernel), List.mem_of_getElem? (i := 411) (by decide +kernel), List.mem_of_getElem? (i := 412) (by decide +kernel)⟩
theorem lw_p10 : lw_okq (⟨"FarSums", "endOf", "(IIII)J"⟩, 6) := ⟨⟨by decide +kernel, by decide +kernel⟩, List.mem_of_getElem? (i := 11) (by decide +kernel), List.mem_of_getElem? (i := 415) (by decide +kernel), List.mem_of_getElem? (i := 416) (by decide +kernel)⟩
theorem lw_p11 : lw_okq (⟨"FarSums$Series", "addEndParts", "(IIJII)V"⟩, 2) := ⟨⟨by decide +kernel, by decide +kernel⟩, List.mem_of_getElem? (i := 107) (by decide +kernel), List.mem_of_getElem? (i := 426) (by decide +kernel), List.mem_of_getElem? (i := 427) (by decide +kernel)⟩
theorem lw_p12 : lw_okq (⟨"FarSums$Points", "rankKey", "(III)I"⟩, 7) := ⟨⟨by decide +kernel, by decide +kernel⟩, List.mem_of_getElem? (i := 19) (by decide +kernel), List.mem_of_getElem? (i := 480) (by decide +kernel), List.mem_of_getElem? (i := 481) (by decide +kernel)⟩
theorem lw_p13 : lw_okq (⟨"FarSums$Motion", "findPushes", "()V"⟩, 6) := ⟨⟨by decide +kernel, by decide +kernel⟩, List.mem_of_getElem? (i := 162) (by decide +kernel), List.mem_of_getElem? (i := 492) (by decide +kernel), List.mem_of_getElem? (i := 493) (by decide +kernel)⟩
theorem lw_p14 : lw_okq (⟨"FarSums$Motion", "wholeSum", "(II)J"⟩, 6) := ⟨⟨by decide +kernel, by decide +kernel⟩, List.mem_of_getElem? (i := 162) (by decide +kernel), List.mem_of_getElem? (i := 498) (by decide +kernel), List.mem_of_getElem? (i := 499) (by decide +kernel)⟩
theorem lw_p15 : lw_okq (⟨"FarSums$Motion", "addPushes", "(I)V"⟩, 6) := ⟨⟨by decide +kernel, by decide +kernel⟩, List.mem_of_getElem? (i := 162) (by decide +kernel), List.mem_of_getElem? (i := 512) (by decide +kernel), List.mem_of_getElem? (i := 513) (by decide +kernel)⟩
def lw_privs_1 : List (MethodName × Nat) := [(⟨"FarSums", "pullOf", "(III)J"⟩, 6), (⟨"FarSums$Trail", "visit", "(III)V"⟩, 9), (⟨"FarSums$Trail", "isFar", "(III)Z"⟩, 9), (⟨"FarSums$Trail", "note", "(III)V"⟩, 9), (⟨"FarSums$Trail", "notePoints", "(III)V"⟩, 9), (⟨"FarSums", "about", "(III)J"⟩, 6), (⟨"FarSums", "termOf", "(IIII)J"⟩, 6), (⟨"FarSums$Boxes", "addMoments", "(III)V"⟩, 5), (⟨"FarSums$Series", "addTermParts", "(IIJ[JI)V"⟩, 2), (⟨"FarSums", "wholeEnd", "(III)J"⟩, 6), (⟨"FarSums", "endOf", "(IIII)J"⟩, 6), (⟨"FarSums$Series", "addEndParts", "(IIJII)V"⟩, 2), (⟨"FarSums$Points", "rankKey", "(III)I"⟩, 7), (⟨"FarSums$Motion", "findPushes", "()V"⟩, 6), (⟨"FarSums$Motion", "wholeSum", "(II)J"⟩, 6), (⟨"FarSums$Motion", "addPushes", "(I)V"⟩, 6)]
theorem lw_r1 : ∀ q ∈ lw_privs_1, lw_okq q := List.forall_mem_cons.mpr ⟨lw_p0, List.forall_mem_cons.mpr ⟨lw_p1, List.forall_mem_cons.mpr ⟨lw_p2, List.forall_mem_cons.mpr ⟨lw_p3, List.forall_mem_cons.mpr ⟨lw_p4, List.forall_mem_cons.mpr ⟨lw_p5, List.forall_mem_cons.mpr ⟨lw_p6, List.forall_mem_cons.mpr ⟨lw_p7, List.forall_mem_cons.mpr ⟨lw_p8, List.forall_mem_cons.mpr ⟨lw_p9, List.forall_mem_cons.mpr ⟨lw_p10, List.forall_mem_cons.mpr ⟨lw_p11, List.forall_mem_cons.mpr ⟨lw_p12, List.forall_mem_cons.mpr ⟨lw_p13, List.forall_mem_cons.mpr ⟨lw_p14, List.forall_mem_cons.mpr ⟨lw_p15, fun _ h => absurd h List.not_mem_nil⟩⟩⟩⟩⟩⟩⟩⟩⟩⟩⟩⟩⟩⟩⟩⟩
theorem lw_p16 : lw_okq (⟨"FarSums$Motion", "shiftPlaces", "(I)V"⟩, 6) := ⟨⟨by decide +kernel, by decide +kernel⟩, List.mem_of_getElem? (i := 162) (by decide +kernel), List.mem_of_getElem? (i := 517) (by decide +kernel), List.mem_of_getElem? (i := 518) (by decide +kernel)⟩
theorem lw_p17 : lw_okq (⟨"FarSums", "digestPoints", "(J)J"⟩, 6) := ⟨⟨by decide +kernel, by decide +kernel⟩, List.mem_of_getElem? (i := 11) (by decide +kernel), List.mem_of_getElem? (i := 555) (by decide +kernel), List.mem_of_getElem? (i := 556) (by decide +kernel)⟩
theorem lw_p18 : lw_okq (⟨"FarSums", "digestFactors", "(J)J"⟩, 6) := ⟨⟨by decide +kernel, by decide +kernel⟩, List.mem_of_getElem? (i := 11) (by decide +kernel), List.mem_of_getElem? (i := 559) (by decide +kernel), List.mem_of_getElem? (i := 560) (by decide +kernel)⟩
theorem lw_p19 : lw_okq (⟨"FarSums", "digestBoxes", "(J)J"⟩, 6) := ⟨⟨by decide +kernel, by decide +kernel⟩, List.mem_of_getElem? (i := 11) (by decide +kernel), List.mem_of_getElem? (i := 563) (by decide +kernel), List.mem_of_getElem? (i := 564) (by decide +kernel)⟩
theorem lw_p20 : lw_okq (⟨"FarSums", "digestMoments", "(JIII)J"⟩, 6) := ⟨⟨by decide +kernel, by decide +kernel⟩, List.mem_of_getElem? (i := 11) (by decide +kernel), List.mem_of_getElem? (i := 567) (by decide +kernel), List.mem_of_getElem? (i := 568) (by decide +kernel)⟩
theorem lw_p21 : lw_okq (⟨"FarSumsModel", "isPoint", "(I)Z"⟩, 20) := ⟨⟨by decide +kernel, by decide +kernel⟩, List.mem_of_getElem? (i := 571) (by decide +kernel), List.mem_of_getElem? (i := 655) (by decide +kernel), List.mem_of_getElem? (i := 656) (by decide +kernel)⟩
theorem lw_p22 : lw_okq (⟨"FarSumsModel", "many", "()I"⟩, 20) := ⟨⟨by decide +kernel, by decide +kernel⟩, List.mem_of_getElem? (i := 571) (by decide +kernel), List.mem_of_getElem? (i := 660) (by decide +kernel), List.mem_of_getElem? (i := 661) (by decide +kernel)⟩
theorem lw_p23 : lw_okq (⟨"FarSumsModel", "sumAt", "(II)J"⟩, 20) := ⟨⟨by decide +kernel, by decide +kernel⟩, List.mem_of_getElem? (i := 571) (by decide +kernel), List.mem_of_getElem? (i := 700) (by decide +kernel), List.mem_of_getElem? (i := 701) (by decide +kernel)⟩
theorem lw_p24 : lw_okq (⟨"FarSumsModel", "pull", "(III)J"⟩, 20) := ⟨⟨by decide +kernel, by decide +kernel⟩, List.mem_of_getElem? (i := 571) (by decide +kernel), List.mem_of_getElem? (i := 704) (by decide +kernel), List.mem_of_getElem? (i := 705) (by decide +kernel)⟩
theorem lw_p25 : lw_okq (⟨"FarSumsModel", "isBox", "(III)Z"⟩, 20) := ⟨⟨by decide +kernel, by decide +kernel⟩, List.mem_of_getElem? (i := 571) (by decide +kernel), List.mem_of_getElem? (i := 717) (by decide +kernel), List.mem_of_getElem? (i := 718) (by decide +kernel)⟩
theorem lw_p26 : lw_okq (⟨"FarSumsModel", "isSplit", "(III)Z"⟩, 20) := ⟨⟨by decide +kernel, by decide +kernel⟩, List.mem_of_getElem? (i := 571) (by decide +kernel), List.mem_of_getElem? (i := 722) (by decide +kernel), List.mem_of_getElem? (i := 723) (by decide +kernel)⟩
theorem lw_p27 : lw_okq (⟨"FarSumsModel", "pointsIn", "(III)I"⟩, 20) := ⟨⟨by decide +kernel, by decide +kernel⟩, List.mem_of_getElem? (i := 571) (by decide +kernel), List.mem_of_getElem? (i := 726) (by decide +kernel), List.mem_of_getElem? (i := 727) (by decide +kernel)⟩
theorem lw_p28 : lw_okq (⟨"FarSumsModel", "isIn", "(IIII)Z"⟩, 20) := ⟨⟨by decide +kernel, by decide +kernel⟩, List.mem_of_getElem? (i := 571) (by decide +kernel), List.mem_of_getElem? (i := 730) (by decide +kernel), List.mem_of_getElem? (i := 731) (by decide +kernel)⟩
theorem lw_p29 : lw_okq (⟨"FarSumsModel", "bulk", "(III)J"⟩, 20) := ⟨⟨by decide +kernel, by decide +kernel⟩, List.mem_of_getElem? (i := 571) (by decide +kernel), List.mem_of_getElem? (i := 735) (by decide +kernel), List.mem_of_getElem? (i := 736) (by decide +kernel)⟩
theorem lw_p30 : lw_okq (⟨"FarSumsModel", "momentOf", "(IIIII)J"⟩, 20) := ⟨⟨by decide +kernel, by decide +kernel⟩, List.mem_of_getElem? (i := 571) (by decide +kernel), List.mem_of_getElem? (i := 743) (by decide +kernel), List.mem_of_getElem? (i := 744) (by decide +kernel)⟩
theorem lw_p31 : lw_okq (⟨"FarSumsModel", "goAcross", "(IIII)V"⟩, 20) := ⟨⟨by decide +kernel, by decide +kernel⟩, List.mem_of_getElem? (i := 571) (by decide +kernel), List.mem_of_getElem? (i := 759) (by decide +kernel), List.mem_of_getElem? (i := 760) (by decide +kernel)⟩
def lw_privs_2 : List (MethodName × Nat) := [(⟨"FarSums$Motion", "shiftPlaces", "(I)V"⟩, 6), (⟨"FarSums", "digestPoints", "(J)J"⟩, 6), (⟨"FarSums", "digestFactors", "(J)J"⟩, 6), (⟨"FarSums", "digestBoxes", "(J)J"⟩, 6), (⟨"FarSums", "digestMoments", "(JIII)J"⟩, 6), (⟨"FarSumsModel", "isPoint", "(I)Z"⟩, 20), (⟨"FarSumsModel", "many", "()I"⟩, 20), (⟨"FarSumsModel", "sumAt", "(II)J"⟩, 20), (⟨"FarSumsModel", "pull", "(III)J"⟩, 20), (⟨"FarSumsModel", "isBox", "(III)Z"⟩, 20), (⟨"FarSumsModel", "isSplit", "(III)Z"⟩, 20), (⟨"FarSumsModel", "pointsIn", "(III)I"⟩, 20), (⟨"FarSumsModel", "isIn", "(IIII)Z"⟩, 20), (⟨"FarSumsModel", "bulk", "(III)J"⟩, 20), (⟨"FarSumsModel", "momentOf", "(IIIII)J"⟩, 20), (⟨"FarSumsModel", "goAcross", "(IIII)V"⟩, 20)]
theorem lw_r2 : ∀ q ∈ lw_privs_2, lw_okq q := List.forall_mem_cons.mpr ⟨lw_p16, List.forall_mem_cons.mpr ⟨lw_p17, List.forall_mem_cons.mpr ⟨lw_p18, List.forall_mem_cons.mpr ⟨lw_p19, List.forall_mem_cons.mpr ⟨lw_p20, List.forall_mem_cons.mpr ⟨lw_p21, List.forall_mem_cons.mpr ⟨lw_p22, List.forall_mem_cons.mpr ⟨lw_p23, List.forall_mem_cons.mpr ⟨lw_p24, List.forall_mem_cons.mpr ⟨lw_p25, List.forall_mem_cons.mpr ⟨lw_p26, List.forall_mem_cons.mpr ⟨lw_p27, List.forall_mem_cons.mpr ⟨lw_p28, List.forall_mem_cons.mpr ⟨lw_p29, List.forall_mem_cons.mpr ⟨lw_p30, List.forall_mem_cons.mpr ⟨lw_p31, fun _ h => absurd h List.not_mem_nil⟩⟩⟩⟩⟩⟩⟩⟩⟩⟩⟩⟩⟩⟩⟩⟩
theorem lw_p32 : lw_okq (⟨"FarSumsModel", "term", "(IIIIII)J"⟩, 20) := ⟨⟨by decide +kernel, by decide +kernel⟩, List.mem_of_getElem? (i := 571) (by decide +kernel), List.mem_of_getElem? (i := 766) (by decide +kernel), List.mem_of_getElem? (i := 767) (by decide +kernel)⟩
theorem lw_p33 : lw_okq (⟨"FarSumsModel", "endOf", "(IIIIII)J"⟩, 20) := ⟨⟨by decide +kernel, by decide +kernel⟩, List.mem_of_getElem? (i := 571) (by decide +kernel), List.mem_of_getElem? (i := 773) (by decide +kernel), List.mem_of_getElem? (i := 774) (by decide +kernel)⟩
theorem lw_p34 : lw_okq (⟨"FarSumsModel", "goes", "(III)V"⟩, 20) := ⟨⟨by decide +kernel, by decide +kernel⟩, List.mem_of_getElem? (i := 571) (by decide +kernel), List.mem_of_getElem? (i := 777) (by decide +kernel), List.mem_of_getElem? (i := 778) (by decide +kernel)⟩
theorem lw_p35 : lw_okq (⟨"FarSumsModel", "farOf", "(III)I"⟩, 20) := ⟨⟨by decide +kernel, by decide +kernel⟩, List.mem_of_getElem? (i := 571) (by decide +kernel), List.mem_of_getElem? (i := 793) (by decide +kernel), List.mem_of_getElem? (i := 794) (by decide +kernel)⟩
theorem lw_p36 : lw_okq (⟨"FarSumsModel", "goOn", "()V"⟩, 20) := ⟨⟨by decide +kernel, by decide +kernel⟩, List.mem_of_getElem? (i := 571) (by decide +kernel), List.mem_of_getElem? (i := 802) (by decide +kernel), List.mem_of_getElem? (i := 803) (by decide +kernel)⟩
theorem lw_p37 : lw_okq (⟨"FarSumsModel", "findPushes", "()V"⟩, 20) := ⟨⟨by decide +kernel, by decide +kernel⟩, List.mem_of_getElem? (i := 571) (by decide +kernel), List.mem_of_getElem? (i := 806) (by decide +kernel), List.mem_of_getElem? (i := 807) (by decide +kernel)⟩
theorem lw_p38 : lw_okq (⟨"FarSumsModel", "goBack", "()V"⟩, 20) := ⟨⟨by decide +kernel, by decide +kernel⟩, List.mem_of_getElem? (i := 571) (by decide +kernel), List.mem_of_getElem? (i := 817) (by decide +kernel), List.mem_of_getElem? (i := 818) (by decide +kernel)⟩
def lw_privs_3 : List (MethodName × Nat) := [(⟨"FarSumsModel", "term", "(IIIIII)J"⟩, 20), (⟨"FarSumsModel", "endOf", "(IIIIII)J"⟩, 20), (⟨"FarSumsModel", "goes", "(III)V"⟩, 20), (⟨"FarSumsModel", "farOf", "(III)I"⟩, 20), (⟨"FarSumsModel", "goOn", "()V"⟩, 20), (⟨"FarSumsModel", "findPushes", "()V"⟩, 20), (⟨"FarSumsModel", "goBack", "()V"⟩, 20)]
theorem lw_r3 : ∀ q ∈ lw_privs_3, lw_okq q := List.forall_mem_cons.mpr ⟨lw_p32, List.forall_mem_cons.mpr ⟨lw_p33, List.forall_mem_cons.mpr ⟨lw_p34, List.forall_mem_cons.mpr ⟨lw_p35, List.forall_mem_cons.mpr ⟨lw_p36, List.forall_mem_cons.mpr ⟨lw_p37, List.forall_mem_cons.mpr ⟨lw_p38, fun _ h => absurd h List.not_mem_nil⟩⟩⟩⟩⟩⟩⟩
def lw_privs : List (MethodName × Nat) := lw_privs_1 ++ (lw_privs_2 ++ (lw_privs_3))
def lw_tbl : List Cond := k2_sels lw_privs ++ tables_1
theorem lw_privs_ok : ∀ q ∈ lw_privs, lw_okq q := by
  show ∀ q ∈ lw_privs_1 ++ (lw_privs_2 ++ (lw_privs_3)), lw_okq q
  exact List.forall_mem_append.mpr ⟨lw_r1, List.forall_mem_append.mpr ⟨lw_r2, lw_r3⟩⟩
def RX0 : String := "FarSums$Boxes"
def TX0 : u_T := fun k => match k with
  | 0 => ("FarSums$Boxes", "points", "LFarSums$Points;", true)
  | 1 => ("FarSums$Boxes", "tally", "[I", true)
  | 2 => ("FarSums$Boxes", "room", "I", false)
  | 3 => ("FarSums$Boxes", "moments", "[J", true)
  | _ => ("FarSums$Boxes", "bulk", "I", false)
def tyX0 : Nat → FieldType := fun k => match k with
  | 0 => .object "FarSums$Points"
  | 1 => .array .int
  | 2 => .int
  | 3 => .array .long
  | _ => .int
abbrev wsX00 : List Cond := u_ws RX0 TX0 5
theorem nmX0 : ∀ a, a < 5 → ∀ b, b < 5 → a ≠ b → (TX0 a).2.1 ≠ (TX0 b).2.1 := by decide +kernel
theorem tyX0_ok : ∀ k, k < 5 → parseFieldDescriptor (TX0 k).2.2.1 = some (tyX0 k) := by decide +kernel
abbrev cX0_init : ByteArray := prog_2_method_1_code
def yX0_init : MethodName := ⟨RX0, "<init>", "(LFarSums$Points;)V"⟩
abbrev cX0_enter : ByteArray := prog_2_method_2_code
def yX0_enter : MethodName := ⟨RX0, "enter", "(II)V"⟩
abbrev cX0_leave : ByteArray := prog_2_method_3_code
def yX0_leave : MethodName := ⟨RX0, "leave", "(II)V"⟩
abbrev cX0_pointsIn : ByteArray := prog_2_method_4_code
def yX0_pointsIn : MethodName := ⟨RX0, "pointsIn", "(III)I"⟩
abbrev cX0_isThere : ByteArray := prog_2_method_5_code
def yX0_isThere : MethodName := ⟨RX0, "isThere", "(III)Z"⟩
abbrev cX0_isSplit : ByteArray := prog_2_method_6_code
def yX0_isSplit : MethodName := ⟨RX0, "isSplit", "(III)Z"⟩
abbrev cX0_splitBoxes : ByteArray := prog_2_method_7_code
def yX0_splitBoxes : MethodName := ⟨RX0, "splitBoxes", "()I"⟩
abbrev cX0_greatestLevel : ByteArray := prog_2_method_8_code
def yX0_greatestLevel : MethodName := ⟨RX0, "greatestLevel", "()I"⟩
abbrev cX0_leafLevel : ByteArray := prog_2_method_9_code
def yX0_leafLevel : MethodName := ⟨RX0, "leafLevel", "(II)I"⟩
abbrev cX0_holds : ByteArray := prog_2_method_10_code
def yX0_holds : MethodName := ⟨RX0, "holds", "(IIII)Z"⟩
abbrev cX0_gather : ByteArray := prog_2_method_11_code
def yX0_gather : MethodName := ⟨RX0, "gather", "(III)V"⟩
abbrev cX0_addMoments : ByteArray := prog_2_method_12_code
def yX0_addMoments : MethodName := ⟨RX0, "addMoments", "(III)V"⟩
abbrev cX0_numberAt : ByteArray := prog_2_method_13_code
def yX0_numberAt : MethodName := ⟨RX0, "numberAt", "(II)I"⟩
abbrev cX0_placeIndex : ByteArray := prog_2_method_14_code
def yX0_placeIndex : MethodName := ⟨RX0, "placeIndex", "(III)I"⟩
abbrev cX0_boxIndex : ByteArray := prog_2_method_15_code
def yX0_boxIndex : MethodName := ⟨RX0, "boxIndex", "(III)I"⟩
def RX1 : String := "FarSums$Motion"
def TX1 : u_T := fun k => match k with
  | 0 => ("FarSums$Motion", "points", "LFarSums$Points;", true)
  | 1 => ("FarSums$Motion", "boxes", "LFarSums$Boxes;", true)
  | 2 => ("FarSums$Motion", "series", "LFarSums$Series;", true)
  | 3 => ("FarSums$Motion", "pushX", "[I", true)
  | 4 => ("FarSums$Motion", "pushY", "[I", true)
  | _ => ("FarSums$Motion", "steps", "I", false)
def tyX1 : Nat → FieldType := fun k => match k with
  | 0 => .object "FarSums$Points"
  | 1 => .object "FarSums$Boxes"
  | 2 => .object "FarSums$Series"
  | 3 => .array .int
  | 4 => .array .int
  | _ => .int
abbrev wsX10 : List Cond := u_ws RX1 TX1 6
theorem nmX1 : ∀ a, a < 6 → ∀ b, b < 6 → a ≠ b → (TX1 a).2.1 ≠ (TX1 b).2.1 := by decide +kernel
theorem tyX1_ok : ∀ k, k < 6 → parseFieldDescriptor (TX1 k).2.2.1 = some (tyX1 k) := by decide +kernel
abbrev cX1_init : ByteArray := prog_3_method_1_code
def yX1_init : MethodName := ⟨RX1, "<init>", "(LFarSums$Points;LFarSums$Boxes;LFarSums$Series;)V"⟩
abbrev cX1_forth : ByteArray := prog_3_method_2_code
def yX1_forth : MethodName := ⟨RX1, "forth", "()V"⟩
abbrev cX1_back : ByteArray := prog_3_method_3_code
def yX1_back : MethodName := ⟨RX1, "back", "()V"⟩
abbrev cX1_findPushes : ByteArray := prog_3_method_4_code
def yX1_findPushes : MethodName := ⟨RX1, "findPushes", "()V"⟩
abbrev cX1_wholeSum : ByteArray := prog_3_method_5_code
def yX1_wholeSum : MethodName := ⟨RX1, "wholeSum", "(II)J"⟩
abbrev cX1_pushOf : ByteArray := prog_3_method_6_code
def yX1_pushOf : MethodName := ⟨RX1, "pushOf", "(J)I"⟩
abbrev cX1_addPushes : ByteArray := prog_3_method_7_code
def yX1_addPushes : MethodName := ⟨RX1, "addPushes", "(I)V"⟩
abbrev cX1_shiftPlaces : ByteArray := prog_3_method_8_code
def yX1_shiftPlaces : MethodName := ⟨RX1, "shiftPlaces", "(I)V"⟩
def RX2 : String := "FarSums$Points"
def TX2 : u_T := fun k => match k with
  | 0 => ("FarSums$Points", "here", "[Z", true)
  | 1 => ("FarSums$Points", "x", "[I", true)
  | 2 => ("FarSums$Points", "y", "[I", true)
  | 3 => ("FarSums$Points", "weight", "[I", true)
  | 4 => ("FarSums$Points", "paceX", "[I", true)
  | 5 => ("FarSums$Points", "paceY", "[I", true)
  | _ => ("FarSums$Points", "number", "I", false)
def tyX2 : Nat → FieldType := fun k => match k with
  | 0 => .array .boolean
  | 1 => .array .int
  | 2 => .array .int
  | 3 => .array .int
  | 4 => .array .int
  | 5 => .array .int
  | _ => .int
abbrev wsX20 : List Cond := u_ws RX2 TX2 7
theorem nmX2 : ∀ a, a < 7 → ∀ b, b < 7 → a ≠ b → (TX2 a).2.1 ≠ (TX2 b).2.1 := by decide +kernel
theorem tyX2_ok : ∀ k, k < 7 → parseFieldDescriptor (TX2 k).2.2.1 = some (tyX2 k) := by decide +kernel
abbrev cX2_init : ByteArray := prog_4_method_1_code
def yX2_init : MethodName := ⟨RX2, "<init>", "()V"⟩
abbrev cX2_has : ByteArray := prog_4_method_2_code
def yX2_has : MethodName := ⟨RX2, "has", "(I)Z"⟩
abbrev cX2_leastFree : ByteArray := prog_4_method_3_code
def yX2_leastFree : MethodName := ⟨RX2, "leastFree", "()I"⟩
abbrev cX2_add : ByteArray := prog_4_method_4_code
def yX2_add : MethodName := ⟨RX2, "add", "(IIII)V"⟩
abbrev cX2_remove : ByteArray := prog_4_method_5_code
def yX2_remove : MethodName := ⟨RX2, "remove", "(I)V"⟩
abbrev cX2_put : ByteArray := prog_4_method_6_code
def yX2_put : MethodName := ⟨RX2, "put", "(III)V"⟩
abbrev cX2_setPace : ByteArray := prog_4_method_7_code
def yX2_setPace : MethodName := ⟨RX2, "setPace", "(III)V"⟩
abbrev cX2_read : ByteArray := prog_4_method_8_code
def yX2_read : MethodName := ⟨RX2, "read", "(II)I"⟩
abbrev cX2_wholeBulk : ByteArray := prog_4_method_9_code
def yX2_wholeBulk : MethodName := ⟨RX2, "wholeBulk", "()I"⟩
abbrev cX2_nearerThan : ByteArray := prog_4_method_10_code
def yX2_nearerThan : MethodName := ⟨RX2, "nearerThan", "(III)I"⟩
abbrev cX2_rankKey : ByteArray := prog_4_method_11_code
def yX2_rankKey : MethodName := ⟨RX2, "rankKey", "(III)I"⟩
def RX3 : String := "FarSums$Polynomial"
def TX3 : u_T := fun k => match k with
  | _ => ("FarSums$Polynomial", "numbers", "[J", true)
def tyX3 : Nat → FieldType := fun k => match k with
  | _ => .array .long
abbrev wsX30 : List Cond := u_ws RX3 TX3 1
theorem nmX3 : ∀ a, a < 1 → ∀ b, b < 1 → a ≠ b → (TX3 a).2.1 ≠ (TX3 b).2.1 := by decide +kernel
theorem tyX3_ok : ∀ k, k < 1 → parseFieldDescriptor (TX3 k).2.2.1 = some (tyX3 k) := by decide +kernel
abbrev cX3_init : ByteArray := prog_5_method_1_code
def yX3_init : MethodName := ⟨RX3, "<init>", "()V"⟩
abbrev cX3_get : ByteArray := prog_5_method_2_code
def yX3_get : MethodName := ⟨RX3, "get", "(II)J"⟩
abbrev cX3_set : ByteArray := prog_5_method_3_code
def yX3_set : MethodName := ⟨RX3, "set", "(IIJ)V"⟩
abbrev cX3_add : ByteArray := prog_5_method_4_code
def yX3_add : MethodName := ⟨RX3, "add", "(IIJ)V"⟩
abbrev cX3_clear : ByteArray := prog_5_method_5_code
def yX3_clear : MethodName := ⟨RX3, "clear", "()V"⟩
abbrev cX3_valueAt : ByteArray := prog_5_method_6_code
def yX3_valueAt : MethodName := ⟨RX3, "valueAt", "(JJ)J"⟩
def RX4 : String := "FarSums$Series"
def TX4 : u_T := fun k => match k with
  | 0 => ("FarSums$Series", "factors", "LFarSums$Polynomial;", true)
  | _ => ("FarSums$Series", "result", "LFarSums$Polynomial;", true)
def tyX4 : Nat → FieldType := fun k => match k with
  | 0 => .object "FarSums$Polynomial"
  | _ => .object "FarSums$Polynomial"
abbrev wsX40 : List Cond := u_ws RX4 TX4 2
theorem nmX4 : ∀ a, a < 2 → ∀ b, b < 2 → a ≠ b → (TX4 a).2.1 ≠ (TX4 b).2.1 := by decide +kernel
theorem tyX4_ok : ∀ k, k < 2 → parseFieldDescriptor (TX4 k).2.2.1 = some (tyX4 k) := by decide +kernel
abbrev cX4_init : ByteArray := prog_6_method_1_code
def yX4_init : MethodName := ⟨RX4, "<init>", "(LFarSums$Polynomial;)V"⟩
abbrev cX4_expandTerm : ByteArray := prog_6_method_2_code
def yX4_expandTerm : MethodName := ⟨RX4, "expandTerm", "([JI)V"⟩
abbrev cX4_expandEnd : ByteArray := prog_6_method_3_code
def yX4_expandEnd : MethodName := ⟨RX4, "expandEnd", "(JII)V"⟩
abbrev cX4_addTermParts : ByteArray := prog_6_method_4_code
def yX4_addTermParts : MethodName := ⟨RX4, "addTermParts", "(IIJ[JI)V"⟩
abbrev cX4_addEndParts : ByteArray := prog_6_method_5_code
def yX4_addEndParts : MethodName := ⟨RX4, "addEndParts", "(IIJII)V"⟩
abbrev cX4_waysToChoose : ByteArray := prog_6_method_6_code
def yX4_waysToChoose : MethodName := ⟨RX4, "waysToChoose", "(IIII)J"⟩
abbrev cX4_power : ByteArray := prog_6_method_7_code
def yX4_power : MethodName := ⟨RX4, "power", "(JI)J"⟩
def RX5 : String := "FarSums$Trail"
def TX5 : u_T := fun k => match k with
  | 0 => ("FarSums$Trail", "points", "LFarSums$Points;", true)
  | 1 => ("FarSums$Trail", "boxes", "LFarSums$Boxes;", true)
  | 2 => ("FarSums$Trail", "level", "[I", true)
  | 3 => ("FarSums$Trail", "first", "[I", true)
  | 4 => ("FarSums$Trail", "second", "[I", true)
  | 5 => ("FarSums$Trail", "length", "I", false)
  | 6 => ("FarSums$Trail", "placeX", "I", false)
  | 7 => ("FarSums$Trail", "placeY", "I", false)
  | _ => ("FarSums$Trail", "distance", "I", false)
def tyX5 : Nat → FieldType := fun k => match k with
  | 0 => .object "FarSums$Points"
  | 1 => .object "FarSums$Boxes"
  | 2 => .array .int
  | 3 => .array .int
  | 4 => .array .int
  | 5 => .int
  | 6 => .int
  | 7 => .int
  | _ => .int
abbrev wsX50 : List Cond := u_ws RX5 TX5 9
theorem nmX5 : ∀ a, a < 9 → ∀ b, b < 9 → a ≠ b → (TX5 a).2.1 ≠ (TX5 b).2.1 := by decide +kernel
theorem tyX5_ok : ∀ k, k < 9 → parseFieldDescriptor (TX5 k).2.2.1 = some (tyX5 k) := by decide +kernel
abbrev cX5_init : ByteArray := prog_7_method_1_code
def yX5_init : MethodName := ⟨RX5, "<init>", "(LFarSums$Points;LFarSums$Boxes;)V"⟩
abbrev cX5_trace : ByteArray := prog_7_method_2_code
def yX5_trace : MethodName := ⟨RX5, "trace", "(III)V"⟩
abbrev cX5_read : ByteArray := prog_7_method_3_code
def yX5_read : MethodName := ⟨RX5, "read", "(II)I"⟩
abbrev cX5_visit : ByteArray := prog_7_method_4_code
def yX5_visit : MethodName := ⟨RX5, "visit", "(III)V"⟩
abbrev cX5_isFar : ByteArray := prog_7_method_5_code
def yX5_isFar : MethodName := ⟨RX5, "isFar", "(III)Z"⟩
abbrev cX5_notePoints : ByteArray := prog_7_method_6_code
def yX5_notePoints : MethodName := ⟨RX5, "notePoints", "(III)V"⟩
abbrev cX5_note : ByteArray := prog_7_method_7_code
def yX5_note : MethodName := ⟨RX5, "note", "(III)V"⟩
def RX6 : String := "FarSums"
def TX6 : u_T := fun k => match k with
  | 0 => ("FarSums", "points", "LFarSums$Points;", true)
  | 1 => ("FarSums", "boxes", "LFarSums$Boxes;", true)
  | 2 => ("FarSums", "factors", "LFarSums$Polynomial;", true)
  | 3 => ("FarSums", "series", "LFarSums$Series;", true)
  | 4 => ("FarSums", "trail", "LFarSums$Trail;", true)
  | _ => ("FarSums", "motion", "LFarSums$Motion;", true)
def tyX6 : Nat → FieldType := fun k => match k with
  | 0 => .object "FarSums$Points"
  | 1 => .object "FarSums$Boxes"
  | 2 => .object "FarSums$Polynomial"
  | 3 => .object "FarSums$Series"
  | 4 => .object "FarSums$Trail"
  | _ => .object "FarSums$Motion"
abbrev wsX60 : List Cond := u_ws RX6 TX6 6
theorem nmX6 : ∀ a, a < 6 → ∀ b, b < 6 → a ≠ b → (TX6 a).2.1 ≠ (TX6 b).2.1 := by decide +kernel
theorem tyX6_ok : ∀ k, k < 6 → parseFieldDescriptor (TX6 k).2.2.1 = some (tyX6 k) := by decide +kernel
abbrev cX6_init : ByteArray := prog_1_method_1_code
def yX6_init : MethodName := ⟨RX6, "<init>", "()V"⟩
abbrev cX6_point : ByteArray := prog_1_method_2_code
def yX6_point : MethodName := ⟨RX6, "point", "(III)I"⟩
abbrev cX6_take : ByteArray := prog_1_method_3_code
def yX6_take : MethodName := ⟨RX6, "take", "(I)I"⟩
abbrev cX6_move : ByteArray := prog_1_method_4_code
def yX6_move : MethodName := ⟨RX6, "move", "(III)I"⟩
abbrev cX6_weigh : ByteArray := prog_1_method_5_code
def yX6_weigh : MethodName := ⟨RX6, "weigh", "(II)I"⟩
abbrev cX6_pace : ByteArray := prog_1_method_6_code
def yX6_pace : MethodName := ⟨RX6, "pace", "(III)I"⟩
abbrev cX6_at : ByteArray := prog_1_method_7_code
def yX6_at : MethodName := ⟨RX6, "at", "(II)I"⟩
abbrev cX6_kernel : ByteArray := prog_1_method_8_code
def yX6_kernel : MethodName := ⟨RX6, "kernel", "(III)I"⟩
abbrev cX6_capacity : ByteArray := prog_1_method_9_code
def yX6_capacity : MethodName := ⟨RX6, "capacity", "(I)I"⟩
abbrev cX6_sum : ByteArray := prog_1_method_10_code
def yX6_sum : MethodName := ⟨RX6, "sum", "(II)J"⟩
abbrev cX6_across : ByteArray := prog_1_method_11_code
def yX6_across : MethodName := ⟨RX6, "across", "(IIIII)J"⟩
abbrev cX6_order : ByteArray := prog_1_method_12_code
def yX6_order : MethodName := ⟨RX6, "order", "(IIIJ)I"⟩
abbrev cX6_way : ByteArray := prog_1_method_13_code
def yX6_way : MethodName := ⟨RX6, "way", "(IIIII)I"⟩
abbrev cX6_box : ByteArray := prog_1_method_14_code
def yX6_box : MethodName := ⟨RX6, "box", "(IIII)I"⟩
abbrev cX6_moment : ByteArray := prog_1_method_15_code
def yX6_moment : MethodName := ⟨RX6, "moment", "(IIIII)J"⟩
abbrev cX6_leaf : ByteArray := prog_1_method_16_code
def yX6_leaf : MethodName := ⟨RX6, "leaf", "(II)I"⟩
abbrev cX6_nearest : ByteArray := prog_1_method_17_code
def yX6_nearest : MethodName := ⟨RX6, "nearest", "(III)I"⟩
abbrev cX6_step : ByteArray := prog_1_method_18_code
def yX6_step : MethodName := ⟨RX6, "step", "(I)I"⟩
abbrev cX6_count : ByteArray := prog_1_method_19_code
def yX6_count : MethodName := ⟨RX6, "count", "(I)I"⟩
abbrev cX6_digest : ByteArray := prog_1_method_20_code
def yX6_digest : MethodName := ⟨RX6, "digest", "()J"⟩
abbrev cX6_digestPoints : ByteArray := prog_1_method_21_code
def yX6_digestPoints : MethodName := ⟨RX6, "digestPoints", "(J)J"⟩
abbrev cX6_digestFactors : ByteArray := prog_1_method_22_code
def yX6_digestFactors : MethodName := ⟨RX6, "digestFactors", "(J)J"⟩
abbrev cX6_digestBoxes : ByteArray := prog_1_method_23_code
def yX6_digestBoxes : MethodName := ⟨RX6, "digestBoxes", "(J)J"⟩
abbrev cX6_digestMoments : ByteArray := prog_1_method_24_code
def yX6_digestMoments : MethodName := ⟨RX6, "digestMoments", "(JIII)J"⟩
abbrev cX6_pullOf : ByteArray := prog_1_method_25_code
def yX6_pullOf : MethodName := ⟨RX6, "pullOf", "(III)J"⟩
abbrev cX6_about : ByteArray := prog_1_method_26_code
def yX6_about : MethodName := ⟨RX6, "about", "(III)J"⟩
abbrev cX6_wholeEnd : ByteArray := prog_1_method_27_code
def yX6_wholeEnd : MethodName := ⟨RX6, "wholeEnd", "(III)J"⟩
abbrev cX6_termOf : ByteArray := prog_1_method_28_code
def yX6_termOf : MethodName := ⟨RX6, "termOf", "(IIII)J"⟩
abbrev cX6_endOf : ByteArray := prog_1_method_29_code
def yX6_endOf : MethodName := ⟨RX6, "endOf", "(IIII)J"⟩
abbrev cX6_isPlace : ByteArray := prog_1_method_30_code
def yX6_isPlace : MethodName := ⟨RX6, "isPlace", "(II)Z"⟩
abbrev cX6_isWeight : ByteArray := prog_1_method_31_code
def yX6_isWeight : MethodName := ⟨RX6, "isWeight", "(I)Z"⟩
abbrev cX6_isPaceNumber : ByteArray := prog_1_method_32_code
def yX6_isPaceNumber : MethodName := ⟨RX6, "isPaceNumber", "(I)Z"⟩
abbrev cX6_isDistance : ByteArray := prog_1_method_33_code
def yX6_isDistance : MethodName := ⟨RX6, "isDistance", "(I)Z"⟩
abbrev cX6_isPowers : ByteArray := prog_1_method_34_code
def yX6_isPowers : MethodName := ⟨RX6, "isPowers", "(II)Z"⟩
abbrev cX6_slot : ByteArray := prog_1_method_35_code
def yX6_slot : MethodName := ⟨RX6, "slot", "(II)I"⟩
abbrev cX6_sideOf : ByteArray := prog_1_method_36_code
def yX6_sideOf : MethodName := ⟨RX6, "sideOf", "(I)I"⟩
abbrev cX6_fromMiddle : ByteArray := prog_1_method_37_code
def yX6_fromMiddle : MethodName := ⟨RX6, "fromMiddle", "(III)I"⟩
abbrev cX6_wrapPace : ByteArray := prog_1_method_38_code
def yX6_wrapPace : MethodName := ⟨RX6, "wrapPace", "(J)I"⟩
abbrev cX6_wrapPlace : ByteArray := prog_1_method_39_code
def yX6_wrapPlace : MethodName := ⟨RX6, "wrapPlace", "(I)I"⟩
def RX7 : String := "FarSumsModel"
def TX7 : u_T := fun k => match k with
  | 0 => ("FarSumsModel", "there", "[Z", true)
  | 1 => ("FarSumsModel", "px", "[I", true)
  | 2 => ("FarSumsModel", "py", "[I", true)
  | 3 => ("FarSumsModel", "weight", "[I", true)
  | 4 => ("FarSumsModel", "vx", "[I", true)
  | 5 => ("FarSumsModel", "vy", "[I", true)
  | 6 => ("FarSumsModel", "kernel", "[I", true)
  | 7 => ("FarSumsModel", "most", "I", false)
  | 8 => ("FarSumsModel", "steps", "I", false)
  | 9 => ("FarSumsModel", "stackLevel", "[I", true)
  | 10 => ("FarSumsModel", "stackI", "[I", true)
  | 11 => ("FarSumsModel", "stackJ", "[I", true)
  | 12 => ("FarSumsModel", "wayLevel", "[I", true)
  | 13 => ("FarSumsModel", "wayI", "[I", true)
  | 14 => ("FarSumsModel", "wayJ", "[I", true)
  | 15 => ("FarSumsModel", "wayMany", "I", false)
  | 16 => ("FarSumsModel", "about", "J", false)
  | 17 => ("FarSumsModel", "end", "J", false)
  | 18 => ("FarSumsModel", "pushX", "[I", true)
  | _ => ("FarSumsModel", "pushY", "[I", true)
def tyX7 : Nat → FieldType := fun k => match k with
  | 0 => .array .boolean
  | 1 => .array .int
  | 2 => .array .int
  | 3 => .array .int
  | 4 => .array .int
  | 5 => .array .int
  | 6 => .array .int
  | 7 => .int
  | 8 => .int
  | 9 => .array .int
  | 10 => .array .int
  | 11 => .array .int
  | 12 => .array .int
  | 13 => .array .int
  | 14 => .array .int
  | 15 => .int
  | 16 => .long
  | 17 => .long
  | 18 => .array .int
  | _ => .array .int
abbrev wsX70 : List Cond := u_ws RX7 TX7 20
theorem nmX7 : ∀ a, a < 20 → ∀ b, b < 20 → a ≠ b → (TX7 a).2.1 ≠ (TX7 b).2.1 := by decide +kernel
theorem tyX7_ok : ∀ k, k < 20 → parseFieldDescriptor (TX7 k).2.2.1 = some (tyX7 k) := by decide +kernel
abbrev cX7_init : ByteArray := prog_9_method_1_code
def yX7_init : MethodName := ⟨RX7, "<init>", "()V"⟩
abbrev cX7_in : ByteArray := prog_9_method_3_code
def yX7_in : MethodName := ⟨RX7, "in", "(JJJ)Z"⟩
abbrev cX7_isPlace : ByteArray := prog_9_method_4_code
def yX7_isPlace : MethodName := ⟨RX7, "isPlace", "(II)Z"⟩
abbrev cX7_isPoint : ByteArray := prog_9_method_5_code
def yX7_isPoint : MethodName := ⟨RX7, "isPoint", "(I)Z"⟩
abbrev cX7_many : ByteArray := prog_9_method_6_code
def yX7_many : MethodName := ⟨RX7, "many", "()I"⟩
abbrev cX7_point : ByteArray := prog_9_method_7_code
def yX7_point : MethodName := ⟨RX7, "point", "(III)I"⟩
abbrev cX7_take : ByteArray := prog_9_method_8_code
def yX7_take : MethodName := ⟨RX7, "take", "(I)I"⟩
abbrev cX7_move : ByteArray := prog_9_method_9_code
def yX7_move : MethodName := ⟨RX7, "move", "(III)I"⟩
abbrev cX7_weigh : ByteArray := prog_9_method_10_code
def yX7_weigh : MethodName := ⟨RX7, "weigh", "(II)I"⟩
abbrev cX7_pace : ByteArray := prog_9_method_11_code
def yX7_pace : MethodName := ⟨RX7, "pace", "(III)I"⟩
abbrev cX7_at : ByteArray := prog_9_method_12_code
def yX7_at : MethodName := ⟨RX7, "at", "(II)I"⟩
abbrev cX7_isPair : ByteArray := prog_9_method_13_code
def yX7_isPair : MethodName := ⟨RX7, "isPair", "(II)Z"⟩
abbrev cX7_kernel : ByteArray := prog_9_method_14_code
def yX7_kernel : MethodName := ⟨RX7, "kernel", "(III)I"⟩
abbrev cX7_capacity : ByteArray := prog_9_method_15_code
def yX7_capacity : MethodName := ⟨RX7, "capacity", "(I)I"⟩
abbrev cX7_power : ByteArray := prog_9_method_16_code
def yX7_power : MethodName := ⟨RX7, "power", "(JI)J"⟩
abbrev cX7_pull : ByteArray := prog_9_method_17_code
def yX7_pull : MethodName := ⟨RX7, "pull", "(III)J"⟩
abbrev cX7_sumAt : ByteArray := prog_9_method_18_code
def yX7_sumAt : MethodName := ⟨RX7, "sumAt", "(II)J"⟩
abbrev cX7_sum : ByteArray := prog_9_method_19_code
def yX7_sum : MethodName := ⟨RX7, "sum", "(II)J"⟩
abbrev cX7_isIn : ByteArray := prog_9_method_20_code
def yX7_isIn : MethodName := ⟨RX7, "isIn", "(IIII)Z"⟩
abbrev cX7_pointsIn : ByteArray := prog_9_method_21_code
def yX7_pointsIn : MethodName := ⟨RX7, "pointsIn", "(III)I"⟩
abbrev cX7_bulk : ByteArray := prog_9_method_22_code
def yX7_bulk : MethodName := ⟨RX7, "bulk", "(III)J"⟩
abbrev cX7_isSplit : ByteArray := prog_9_method_23_code
def yX7_isSplit : MethodName := ⟨RX7, "isSplit", "(III)Z"⟩
abbrev cX7_isBox : ByteArray := prog_9_method_24_code
def yX7_isBox : MethodName := ⟨RX7, "isBox", "(III)Z"⟩
abbrev cX7_middle : ByteArray := prog_9_method_25_code
def yX7_middle : MethodName := ⟨RX7, "middle", "(II)I"⟩
abbrev cX7_momentOf : ByteArray := prog_9_method_26_code
def yX7_momentOf : MethodName := ⟨RX7, "momentOf", "(IIIII)J"⟩
abbrev cX7_box : ByteArray := prog_9_method_27_code
def yX7_box : MethodName := ⟨RX7, "box", "(IIII)I"⟩
abbrev cX7_moment : ByteArray := prog_9_method_28_code
def yX7_moment : MethodName := ⟨RX7, "moment", "(IIIII)J"⟩
abbrev cX7_leaf : ByteArray := prog_9_method_29_code
def yX7_leaf : MethodName := ⟨RX7, "leaf", "(II)I"⟩
abbrev cX7_choose : ByteArray := prog_9_method_30_code
def yX7_choose : MethodName := ⟨RX7, "choose", "(II)J"⟩
abbrev cX7_term : ByteArray := prog_9_method_31_code
def yX7_term : MethodName := ⟨RX7, "term", "(IIIIII)J"⟩
abbrev cX7_size : ByteArray := prog_9_method_32_code
def yX7_size : MethodName := ⟨RX7, "size", "(J)J"⟩
abbrev cX7_endOf : ByteArray := prog_9_method_33_code
def yX7_endOf : MethodName := ⟨RX7, "endOf", "(IIIIII)J"⟩
abbrev cX7_goes : ByteArray := prog_9_method_34_code
def yX7_goes : MethodName := ⟨RX7, "goes", "(III)V"⟩
abbrev cX7_goAcross : ByteArray := prog_9_method_35_code
def yX7_goAcross : MethodName := ⟨RX7, "goAcross", "(IIII)V"⟩
abbrev cX7_across : ByteArray := prog_9_method_36_code
def yX7_across : MethodName := ⟨RX7, "across", "(IIIII)J"⟩
abbrev cX7_order : ByteArray := prog_9_method_37_code
def yX7_order : MethodName := ⟨RX7, "order", "(IIIJ)I"⟩
abbrev cX7_way : ByteArray := prog_9_method_38_code
def yX7_way : MethodName := ⟨RX7, "way", "(IIIII)I"⟩
abbrev cX7_farOf : ByteArray := prog_9_method_39_code
def yX7_farOf : MethodName := ⟨RX7, "farOf", "(III)I"⟩
abbrev cX7_nearest : ByteArray := prog_9_method_40_code
def yX7_nearest : MethodName := ⟨RX7, "nearest", "(III)I"⟩
abbrev cX7_push : ByteArray := prog_9_method_41_code
def yX7_push : MethodName := ⟨RX7, "push", "(JJ)I"⟩
abbrev cX7_findPushes : ByteArray := prog_9_method_42_code
def yX7_findPushes : MethodName := ⟨RX7, "findPushes", "()V"⟩
abbrev cX7_brought : ByteArray := prog_9_method_43_code
def yX7_brought : MethodName := ⟨RX7, "brought", "(I)I"⟩
abbrev cX7_goOn : ByteArray := prog_9_method_44_code
def yX7_goOn : MethodName := ⟨RX7, "goOn", "()V"⟩
abbrev cX7_goBack : ByteArray := prog_9_method_45_code
def yX7_goBack : MethodName := ⟨RX7, "goBack", "()V"⟩
abbrev cX7_step : ByteArray := prog_9_method_46_code
def yX7_step : MethodName := ⟨RX7, "step", "(I)I"⟩
abbrev cX7_count : ByteArray := prog_9_method_47_code
def yX7_count : MethodName := ⟨RX7, "count", "(I)I"⟩
abbrev cX7_digest : ByteArray := prog_9_method_48_code
def yX7_digest : MethodName := ⟨RX7, "digest", "()J"⟩
def RJ9 : String := "java/lang/Math"
abbrev cJ9_abs_0f7a4 : ByteArray := prog_10_method_59_code
def yJ9_abs_0f7a4 : MethodName := ⟨RJ9, "abs", "(I)I"⟩
abbrev cJ9_abs_067f4 : ByteArray := prog_10_method_61_code
def yJ9_abs_067f4 : MethodName := ⟨RJ9, "abs", "(J)J"⟩
abbrev cJ9_max_7cf53 : ByteArray := prog_10_method_65_code
def yJ9_max_7cf53 : MethodName := ⟨RJ9, "max", "(II)I"⟩
def RL : String := "FarSumsLaw"
abbrev cL_law : ByteArray := code
def yL_law : MethodName := ⟨RL, "law", "([I)Z"⟩
abbrev vwCl : List vw_C := [(RX0, TX0, 5), (RX1, TX1, 6), (RX2, TX2, 7), (RX3, TX3, 1), (RX4, TX4, 2), (RX5, TX5, 9), (RX6, TX6, 6), (RX7, TX7, 20)]
end
section
/-- the abstract state: rows of ints and of longs by their numbers (a lone field is place 0 of its row) -/
abbrev St : Type := (Nat → Nat → Int32) × (Nat → Nat → Int64)
def sI (S : St) (k i : Nat) (v : Int32) : St := (fun a => if a = k then upd (S.1 k) i v else S.1 a, S.2)
def sJ (S : St) (k i : Nat) (v : Int64) : St := (S.1, fun a => if a = k then vp_updL (S.2 k) i v else S.2 a)
/-- what is fixed of the world: class table, addresses, array classes, which cells may change, the two static tables -/
abbrev Fx : Type := va_G × (Nat → Nat) × (ClassId × ClassId × ClassId) × (Nat → Prop) × (Nat × Nat)
def aD (w : Fx) (k : Nat) : Nat := w.2.1 k
def cyI (w : Fx) : ClassId := w.2.2.1.1
def cyJ (w : Fx) : ClassId := w.2.2.1.2.1
def cyZ (w : Fx) : ClassId := w.2.2.1.2.2
def fA (w : Fx) : Nat → Prop := w.2.2.2.1
def fT1 (w : Fx) : Nat := w.2.2.2.2.1
def fT2 (w : Fx) : Nat := w.2.2.2.2.2
def fty (w : Fx) : List (ClassId × FieldType) := [(cyI w, .int), (cyJ w, .long), (cyZ w, .boolean)]
def wS (w : Fx) (S : St) : va_W := [
  (aD w 0, .inr (6, [.ref (aD w 1), .ref (aD w 8), .ref (aD w 11), .ref (aD w 13), .ref (aD w 16), .ref (aD w 20)])),
  (aD w 1, .inr (2, [.ref (aD w 2), .ref (aD w 3), .ref (aD w 4), .ref (aD w 5), .ref (aD w 6), .ref (aD w 7), .int (S.1 6 0)])),
  (aD w 2, .inl (cyZ w, 40, .inl (S.1 0))),
  (aD w 3, .inl (cyI w, 40, .inl (S.1 1))),
  (aD w 4, .inl (cyI w, 40, .inl (S.1 2))),
  (aD w 5, .inl (cyI w, 40, .inl (S.1 3))),
  (aD w 6, .inl (cyI w, 40, .inl (S.1 4))),
  (aD w 7, .inl (cyI w, 40, .inl (S.1 5))),
  (aD w 8, .inr (0, [.ref (aD w 1), .ref (aD w 9), .int (S.1 8 0), .ref (aD w 10), .int (S.1 9 0)])),
  (aD w 9, .inl (cyI w, 1365, .inl (S.1 7))),
  (aD w 10, .inl (cyJ w, 25, .inr (.inl (S.2 0)))),
  (aD w 11, .inr (3, [.ref (aD w 12)])),
  (aD w 12, .inl (cyJ w, 25, .inr (.inl (S.2 1)))),
  (aD w 13, .inr (4, [.ref (aD w 11), .ref (aD w 14)])),
  (aD w 14, .inr (3, [.ref (aD w 15)])),
  (aD w 15, .inl (cyJ w, 25, .inr (.inl (S.2 2)))),
  (aD w 16, .inr (5, [.ref (aD w 1), .ref (aD w 8), .ref (aD w 17), .ref (aD w 18), .ref (aD w 19), .int (S.1 13 0), .int (S.1 14 0), .int (S.1 15 0), .int (S.1 16 0)])),
  (aD w 17, .inl (cyI w, 40, .inl (S.1 10))),
  (aD w 18, .inl (cyI w, 40, .inl (S.1 11))),
  (aD w 19, .inl (cyI w, 40, .inl (S.1 12))),
  (aD w 20, .inr (1, [.ref (aD w 1), .ref (aD w 8), .ref (aD w 13), .ref (aD w 21), .ref (aD w 22), .int (S.1 19 0)])),
  (aD w 21, .inl (cyI w, 40, .inl (S.1 17))),
  (aD w 22, .inl (cyI w, 40, .inl (S.1 18))),
  (aD w 23, .inr (7, [.ref (aD w 24), .ref (aD w 25), .ref (aD w 26), .ref (aD w 27), .ref (aD w 28), .ref (aD w 29), .ref (aD w 30), .int (S.1 27 0), .int (S.1 28 0), .ref (aD w 31), .ref (aD w 32), .ref (aD w 33), .ref (aD w 34), .ref (aD w 35), .ref (aD w 36), .int (S.1 35 0), .long (S.2 3 0), .long (S.2 4 0), .ref (aD w 37), .ref (aD w 38)])),
  (aD w 24, .inl (cyZ w, 40, .inl (S.1 20))),
  (aD w 25, .inl (cyI w, 40, .inl (S.1 21))),
  (aD w 26, .inl (cyI w, 40, .inl (S.1 22))),
  (aD w 27, .inl (cyI w, 40, .inl (S.1 23))),
  (aD w 28, .inl (cyI w, 40, .inl (S.1 24))),
  (aD w 29, .inl (cyI w, 40, .inl (S.1 25))),
  (aD w 30, .inl (cyI w, 25, .inl (S.1 26))),
  (aD w 31, .inl (cyI w, 40, .inl (S.1 29))),
  (aD w 32, .inl (cyI w, 40, .inl (S.1 30))),
  (aD w 33, .inl (cyI w, 40, .inl (S.1 31))),
  (aD w 34, .inl (cyI w, 80, .inl (S.1 32))),
  (aD w 35, .inl (cyI w, 80, .inl (S.1 33))),
  (aD w 36, .inl (cyI w, 80, .inl (S.1 34))),
  (aD w 37, .inl (cyI w, 40, .inl (S.1 36))),
  (aD w 38, .inl (cyI w, 40, .inl (S.1 37)))]
theorem pl_0 (w : Fx) (S : St) : (wS w S)[0]? = some (aD w 0, .inr (6, [.ref (aD w 1), .ref (aD w 8), .ref (aD w 11), .ref (aD w 13), .ref (aD w 16), .ref (aD w 20)])) := rfl
theorem pl_1 (w : Fx) (S : St) : (wS w S)[1]? = some (aD w 1, .inr (2, [.ref (aD w 2), .ref (aD w 3), .ref (aD w 4), .ref (aD w 5), .ref (aD w 6), .ref (aD w 7), .int (S.1 6 0)])) := rfl
theorem pl_2 (w : Fx) (S : St) : (wS w S)[2]? = some (aD w 2, .inl (cyZ w, 40, .inl (S.1 0))) := rfl
theorem pl_3 (w : Fx) (S : St) : (wS w S)[3]? = some (aD w 3, .inl (cyI w, 40, .inl (S.1 1))) := rfl
theorem pl_4 (w : Fx) (S : St) : (wS w S)[4]? = some (aD w 4, .inl (cyI w, 40, .inl (S.1 2))) := rfl
theorem pl_5 (w : Fx) (S : St) : (wS w S)[5]? = some (aD w 5, .inl (cyI w, 40, .inl (S.1 3))) := rfl
theorem pl_6 (w : Fx) (S : St) : (wS w S)[6]? = some (aD w 6, .inl (cyI w, 40, .inl (S.1 4))) := rfl
theorem pl_7 (w : Fx) (S : St) : (wS w S)[7]? = some (aD w 7, .inl (cyI w, 40, .inl (S.1 5))) := rfl
theorem pl_8 (w : Fx) (S : St) : (wS w S)[8]? = some (aD w 8, .inr (0, [.ref (aD w 1), .ref (aD w 9), .int (S.1 8 0), .ref (aD w 10), .int (S.1 9 0)])) := rfl
theorem pl_9 (w : Fx) (S : St) : (wS w S)[9]? = some (aD w 9, .inl (cyI w, 1365, .inl (S.1 7))) := rfl
theorem pl_10 (w : Fx) (S : St) : (wS w S)[10]? = some (aD w 10, .inl (cyJ w, 25, .inr (.inl (S.2 0)))) := rfl
theorem pl_11 (w : Fx) (S : St) : (wS w S)[11]? = some (aD w 11, .inr (3, [.ref (aD w 12)])) := rfl
theorem pl_12 (w : Fx) (S : St) : (wS w S)[12]? = some (aD w 12, .inl (cyJ w, 25, .inr (.inl (S.2 1)))) := rfl
theorem pl_13 (w : Fx) (S : St) : (wS w S)[13]? = some (aD w 13, .inr (4, [.ref (aD w 11), .ref (aD w 14)])) := rfl
theorem pl_14 (w : Fx) (S : St) : (wS w S)[14]? = some (aD w 14, .inr (3, [.ref (aD w 15)])) := rfl
theorem pl_15 (w : Fx) (S : St) : (wS w S)[15]? = some (aD w 15, .inl (cyJ w, 25, .inr (.inl (S.2 2)))) := rfl
theorem pl_16 (w : Fx) (S : St) : (wS w S)[16]? = some (aD w 16, .inr (5, [.ref (aD w 1), .ref (aD w 8), .ref (aD w 17), .ref (aD w 18), .ref (aD w 19), .int (S.1 13 0), .int (S.1 14 0), .int (S.1 15 0), .int (S.1 16 0)])) := rfl
theorem pl_17 (w : Fx) (S : St) : (wS w S)[17]? = some (aD w 17, .inl (cyI w, 40, .inl (S.1 10))) := rfl
theorem pl_18 (w : Fx) (S : St) : (wS w S)[18]? = some (aD w 18, .inl (cyI w, 40, .inl (S.1 11))) := rfl
theorem pl_19 (w : Fx) (S : St) : (wS w S)[19]? = some (aD w 19, .inl (cyI w, 40, .inl (S.1 12))) := rfl
theorem pl_20 (w : Fx) (S : St) : (wS w S)[20]? = some (aD w 20, .inr (1, [.ref (aD w 1), .ref (aD w 8), .ref (aD w 13), .ref (aD w 21), .ref (aD w 22), .int (S.1 19 0)])) := rfl
theorem pl_21 (w : Fx) (S : St) : (wS w S)[21]? = some (aD w 21, .inl (cyI w, 40, .inl (S.1 17))) := rfl
theorem pl_22 (w : Fx) (S : St) : (wS w S)[22]? = some (aD w 22, .inl (cyI w, 40, .inl (S.1 18))) := rfl
theorem pl_23 (w : Fx) (S : St) : (wS w S)[23]? = some (aD w 23, .inr (7, [.ref (aD w 24), .ref (aD w 25), .ref (aD w 26), .ref (aD w 27), .ref (aD w 28), .ref (aD w 29), .ref (aD w 30), .int (S.1 27 0), .int (S.1 28 0), .ref (aD w 31), .ref (aD w 32), .ref (aD w 33), .ref (aD w 34), .ref (aD w 35), .ref (aD w 36), .int (S.1 35 0), .long (S.2 3 0), .long (S.2 4 0), .ref (aD w 37), .ref (aD w 38)])) := rfl
theorem pl_24 (w : Fx) (S : St) : (wS w S)[24]? = some (aD w 24, .inl (cyZ w, 40, .inl (S.1 20))) := rfl
theorem pl_25 (w : Fx) (S : St) : (wS w S)[25]? = some (aD w 25, .inl (cyI w, 40, .inl (S.1 21))) := rfl
theorem pl_26 (w : Fx) (S : St) : (wS w S)[26]? = some (aD w 26, .inl (cyI w, 40, .inl (S.1 22))) := rfl
theorem pl_27 (w : Fx) (S : St) : (wS w S)[27]? = some (aD w 27, .inl (cyI w, 40, .inl (S.1 23))) := rfl
theorem pl_28 (w : Fx) (S : St) : (wS w S)[28]? = some (aD w 28, .inl (cyI w, 40, .inl (S.1 24))) := rfl
theorem pl_29 (w : Fx) (S : St) : (wS w S)[29]? = some (aD w 29, .inl (cyI w, 40, .inl (S.1 25))) := rfl
theorem pl_30 (w : Fx) (S : St) : (wS w S)[30]? = some (aD w 30, .inl (cyI w, 25, .inl (S.1 26))) := rfl
theorem pl_31 (w : Fx) (S : St) : (wS w S)[31]? = some (aD w 31, .inl (cyI w, 40, .inl (S.1 29))) := rfl
theorem pl_32 (w : Fx) (S : St) : (wS w S)[32]? = some (aD w 32, .inl (cyI w, 40, .inl (S.1 30))) := rfl
theorem pl_33 (w : Fx) (S : St) : (wS w S)[33]? = some (aD w 33, .inl (cyI w, 40, .inl (S.1 31))) := rfl
theorem pl_34 (w : Fx) (S : St) : (wS w S)[34]? = some (aD w 34, .inl (cyI w, 80, .inl (S.1 32))) := rfl
theorem pl_35 (w : Fx) (S : St) : (wS w S)[35]? = some (aD w 35, .inl (cyI w, 80, .inl (S.1 33))) := rfl
theorem pl_36 (w : Fx) (S : St) : (wS w S)[36]? = some (aD w 36, .inl (cyI w, 80, .inl (S.1 34))) := rfl
theorem pl_37 (w : Fx) (S : St) : (wS w S)[37]? = some (aD w 37, .inl (cyI w, 40, .inl (S.1 36))) := rfl
theorem pl_38 (w : Fx) (S : St) : (wS w S)[38]? = some (aD w 38, .inl (cyI w, 40, .inl (S.1 37))) := rfl
def isNest : Cond → Bool
  | .fieldLinkNest .. => true
  | .methodLinkNest .. => true
  | _ => false
/-- the words that hold all along; the words across the nest -/
def tb : List Cond := lw_tbl.filter goodWord
def nw : List Cond := lw_tbl.filter isNest
def tabF (j : Nat) : Int32 := ([0, 1, 5, 21, 85, 341] : List Int32).getD j 0
def tabC (j : Nat) : Int32 := ([1, 0, 0, 0, 0, 1, 1, 0, 0, 0, 1, 2, 1, 0, 0, 1, 3, 3, 1, 0, 1, 4, 6, 4, 1] : List Int32).getD j 0
def Bs (w : Fx) (U : State) : Prop := va_K w.1 vwCl (fty w) U ∧ (∀ c ∈ nw, va_Nw c U) ∧ (va_Z "FarSums" "FIRST_OF_LEVEL" "[I" (.ref (fT1 w)) (fA w) U U.heap ∧ va_T .int (fT1 w) 6 (fun j => .int (tabF j)) (fA w) U U.heap) ∧ (va_Z "FarSums" "CHOOSE" "[I" (.ref (fT2 w)) (fA w) U U.heap ∧ va_T .int (fT2 w) 25 (fun j => .int (tabC j)) (fA w) U U.heap) ∧ ∀ S, va_D (fA w) (wS w S)
theorem nw_warm {s U : State} (hW : s.WarmedH U.vm) (h : ∀ c ∈ nw, va_Nw c s) : ∀ c ∈ nw, va_Nw c U := by
  intro c hc
  have h1 := (List.mem_filter.mp hc).2
  have h2 := h c hc
  cases c <;> first | exact va_Nw.warmF hW h2 | exact va_Nw.warmM hW h2 | (simp [isNest] at h1; done)
theorem nw_same {s U : State} (hv : s.vm = U.vm) (h : ∀ c ∈ nw, va_Nw c s) : ∀ c ∈ nw, va_Nw c U := by
  intro c hc
  have h1 := (List.mem_filter.mp hc).2
  have h2 := h c hc
  cases c <;> first | exact va_Nw.same rfl hv h2 | (simp [isNest] at h1; done)
theorem Bs_move {w : Fx} {s U : State} {H : Heap} {locs : List Loc} (hS : va_S (fA w) s.heap H locs) (hU : U.heap = H) (hW : s.WarmedH U.vm) (h : Bs w s) : Bs w U := by
  obtain ⟨h1, h2, ⟨h3, h4⟩, ⟨h5, h6⟩, h7⟩ := h
  have hk : ∀ a : Nat, a < s.heap.size → ¬ fA w a → U.heap[a]? = s.heap[a]? := fun a q1 q2 => by rw [hU]; exact hS.2.1 a q1 q2
  exact ⟨va_K.moved hW.alike h1, nw_warm hW h2, ⟨(va_Z.moved hW.alike h3).kept hk, (va_T.moved hW.alike h4).kept hk⟩, ⟨(va_Z.moved hW.alike h5).kept hk, (va_T.moved hW.alike h6).kept hk⟩, h7⟩
theorem Bs_calling {w : Fx} {U : State} {g : JFrame} {mk : MethodId} {a : Array Value} (h : Bs w U) : Bs w (U.calling g mk a) := by
  obtain ⟨h1, h2, ⟨h3, h4⟩, ⟨h5, h6⟩, h7⟩ := h
  exact ⟨va_K.moved (u := U) (U := U.calling g mk a) (Vm.Alike.refl U.vm) h1, nw_same (s := U) (U := U.calling g mk a) rfl h2, ⟨va_Z.moved (u := U) (U := U.calling g mk a) (Vm.Alike.refl U.vm) h3, va_T.moved (u := U) (U := U.calling g mk a) (Vm.Alike.refl U.vm) h4⟩, ⟨va_Z.moved (u := U) (U := U.calling g mk a) (Vm.Alike.refl U.vm) h5, va_T.moved (u := U) (U := U.calling g mk a) (Vm.Alike.refl U.vm) h6⟩, h7⟩
/-! locals by position, .null: not known -/
def hL (ls : Array Slot) (n : Nat) (lv : List Value) : Prop := (ls.size = n ∧ lv.length ≤ n) ∧ lv_wf ls ∧ ∀ (i : Nat) (v : Value), lv[i]? = some v → v ≠ .null → ls[i]? = some (.val v)
def hLp (lv : List Value) (n : Nat) : List (Nat × Value) := (List.range n).filterMap (fun i => match (lv[i]? : Option Value) with
  | some Value.null => none
  | some v => some (i, v)
  | none => none)
theorem hLp_mem {lv : List Value} {n i : Nat} {v : Value} : (i, v) ∈ hLp lv n ↔ i < n ∧ lv[i]? = some v ∧ v ≠ .null := by
  unfold hLp
  rw [List.mem_filterMap]
  constructor
  · rintro ⟨a, ha, hb⟩
    have ha := List.mem_range.mp ha
    cases hc : lv[a]? with
    | none => rw [hc] at hb; cases hb
    | some u =>
      rw [hc] at hb
      cases u <;> first | (cases hb; done) | (cases hb; exact ⟨ha, hc, fun q => by cases q⟩)
  · rintro ⟨h1, h2, h3⟩
    refine ⟨i, List.mem_range.mpr h1, ?_⟩
    rw [h2]
    cases v <;> first | rfl | exact absurd rfl h3
theorem hL_has {ls : Array Slot} {n : Nat} {lv : List Value} (h : hL ls n lv) : lv_has ls n (hLp lv n) := by
  refine ⟨h.1.1, h.2.1, ?_⟩
  rintro ⟨i, v⟩ hq
  obtain ⟨-, h2, h3⟩ := hLp_mem.mp hq
  exact h.2.2 i v h2 h3
theorem hL_at {ls : Array Slot} {n : Nat} {lv : List Value} (h : hL ls n lv) {i : Nat} {v : Value} (hi : lv[i]? = some v) (hv : v ≠ .null) : ls[i]? = some (.val v) := h.2.2 i v hi hv
def kilA (lv : List Value) (j : Nat) : List Value := match (lv[j]? : Option Value) with
  | some (Value.long _) => lv.set j Value.null
  | some (Value.double _) => lv.set j Value.null
  | _ => lv
def kil (lv : List Value) : Nat → List Value
  | 0 => lv
  | j + 1 => kilA lv j
def zp1 (lv : List Value) (i : Nat) (v : Value) : List Value := (kil lv i).set i v
def zp2 (lv : List Value) (i : Nat) (v : Value) : List Value := ((kil lv i).set i v).set (i + 1) .null
theorem kil_mem {lv : List Value} {i j : Nat} {w : Value} (h : (kil lv i)[j]? = some w) (hn : w ≠ .null) : lv[j]? = some w ∧ ¬ (j + 1 = i ∧ w.category = 2) := by
  cases i with
  | zero => exact ⟨h, fun q => by omega⟩
  | succ k =>
    have h : (kilA lv k)[j]? = some w := h
    unfold kilA at h
    have key : ∀ u, lv[k]? = some u → u.category = 2 → (lv.set k .null)[j]? = some w → lv[j]? = some w ∧ ¬ (j + 1 = k + 1 ∧ w.category = 2) := by
      intro u hu hc hs
      by_cases hjk : j = k
      · subst hjk
        rw [List.getElem?_set] at hs
        simp only [if_true] at hs
        split at hs
        · cases hs; exact absurd rfl hn
        · cases hs
      · rw [List.getElem?_set_ne (Ne.symm hjk)] at hs
        exact ⟨hs, fun q => hjk (by omega)⟩
    have oth : lv[j]? = some w → (∀ u, lv[k]? = some u → u.category ≠ 2) → lv[j]? = some w ∧ ¬ (j + 1 = k + 1 ∧ w.category = 2) := by
      intro h1 h2
      refine ⟨h1, fun q => ?_⟩
      have : j = k := by omega
      subst this
      exact h2 w h1 q.2
    split at h
    · rename_i x hx
      exact key _ hx rfl h
    · rename_i x hx
      exact key _ hx rfl h
    · rename_i hx1 hx2
      refine oth h (fun u hu hc => ?_)
      cases u <;> first | exact hx1 _ hu | exact hx2 _ hu | (simp [Value.category] at hc; done)
theorem hL_lt {ls : Array Slot} {n : Nat} {lv : List Value} (h : hL ls n lv) {j : Nat} {w : Value} (hj : lv[j]? = some w) (hw : w ≠ .null) : j < n := by
  have := lv_lt (h.2.2 j w hj hw)
  rw [h.1.1] at this
  exact this
theorem kil_len (lv : List Value) (i : Nat) : (kil lv i).length = lv.length := by
  cases i with
  | zero => rfl
  | succ k =>
    show (kilA lv k).length = lv.length
    unfold kilA
    split <;> simp
theorem hL_set1 {ls ls' : Array Slot} {n : Nat} {lv : List Value} {i : Nat} {v : Value} (h : hL ls n lv) (h' : lv_has ls' n ((i, v) :: (hLp lv n).filter (fun q => !(q.1 == i) && !(q.1 + 1 == i && q.2.category == 2)))) : hL ls' n (zp1 lv i v) := by
  refine ⟨⟨h'.1, by unfold zp1; rw [List.length_set, kil_len]; exact h.1.2⟩, h'.2.1, fun j w hj hw => ?_⟩
  refine h'.2.2 (j, w) ?_
  unfold zp1 at hj
  by_cases hji : j = i
  · subst hji
    rw [List.getElem?_set] at hj
    simp only [if_true] at hj
    split at hj
    · cases hj; exact List.mem_cons_self
    · cases hj
  · rw [List.getElem?_set_ne (Ne.symm hji)] at hj
    obtain ⟨h1, h2⟩ := kil_mem hj hw
    refine List.mem_cons_of_mem _ (List.mem_filter.mpr ⟨hLp_mem.mpr ⟨hL_lt h h1 hw, h1, hw⟩, ?_⟩)
    simp only [Bool.and_eq_true, Bool.not_eq_true', beq_eq_false_iff_ne, Bool.and_eq_false_iff, beq_iff_eq]
    refine ⟨hji, ?_⟩
    by_cases q : j + 1 = i
    · exact Or.inr (fun z => h2 ⟨q, z⟩)
    · exact Or.inl q
theorem hL_set2 {ls ls' : Array Slot} {n : Nat} {lv : List Value} {i : Nat} {v : Value} (h : hL ls n lv) (h' : lv_has ls' n ((i, v) :: (hLp lv n).filter (fun q => !(q.1 == i) && (!(q.1 == i + 1) && !(q.1 + 1 == i && q.2.category == 2))))) : hL ls' n (zp2 lv i v) := by
  refine ⟨⟨h'.1, by unfold zp2; rw [List.length_set, List.length_set, kil_len]; exact h.1.2⟩, h'.2.1, fun j w hj hw => ?_⟩
  refine h'.2.2 (j, w) ?_
  unfold zp2 at hj
  by_cases hj1 : j = i + 1
  · subst hj1
    rw [List.getElem?_set] at hj
    simp only [if_true] at hj
    split at hj
    · cases hj; exact absurd rfl hw
    · cases hj
  · rw [List.getElem?_set_ne (Ne.symm hj1)] at hj
    by_cases hji : j = i
    · subst hji
      rw [List.getElem?_set] at hj
      simp only [if_true] at hj
      split at hj
      · cases hj; exact List.mem_cons_self
      · cases hj
    · rw [List.getElem?_set_ne (Ne.symm hji)] at hj
      obtain ⟨h1, h2⟩ := kil_mem hj hw
      refine List.mem_cons_of_mem _ (List.mem_filter.mpr ⟨hLp_mem.mpr ⟨hL_lt h h1 hw, h1, hw⟩, ?_⟩)
      simp only [Bool.and_eq_true, Bool.not_eq_true', beq_eq_false_iff_ne, Bool.and_eq_false_iff, beq_iff_eq]
      refine ⟨hji, hj1, ?_⟩
      by_cases q : j + 1 = i
      · exact Or.inr (fun z => h2 ⟨q, z⟩)
      · exact Or.inl q
/-- fewer known locals -/
def lle : List Value → List Value → Prop
  | [], _ => True
  | Value.null :: l, _ :: m => lle l m
  | v :: l, u :: m => v = u ∧ lle l m
  | _ :: _, [] => False
theorem lle_at : ∀ {l m : List Value}, lle l m → ∀ (i : Nat) (v : Value), l[i]? = some v → v ≠ .null → m[i]? = some v
  | [], _, _, i, v, h, _ => by simp at h
  | a :: l, [], hh, i, v, h, hn => by cases a <;> simp [lle] at hh
  | a :: l, u :: m, hh, i, v, h, hn => by
    cases i with
    | zero =>
      simp only [List.getElem?_cons_zero] at h ⊢
      have ea : a = v := by injection h
      rw [← ea] at hn ⊢
      cases a <;> first | exact absurd rfl hn | (simp only [lle] at hh; rw [hh.1])
    | succ i =>
      simp only [List.getElem?_cons_succ] at h ⊢
      refine lle_at (l := l) (m := m) ?_ i v h hn
      cases a <;> first | exact hh | exact hh.2
theorem lle_len : ∀ {l m : List Value}, lle l m → l.length ≤ m.length
  | [], _, _ => Nat.zero_le _
  | a :: l, [], hh => by cases a <;> simp [lle] at hh
  | a :: l, u :: m, hh => by
    have : lle l m := by cases a <;> first | exact hh | exact hh.2
    have := lle_len this
    simp only [List.length_cons]
    omega
theorem hL_weak {ls : Array Slot} {n : Nat} {lv lv' : List Value} (h : hL ls n lv) (hw : lle lv' lv) : hL ls n lv' := ⟨⟨h.1.1, Nat.le_trans (lle_len hw) h.1.2⟩, h.2.1, fun i v hi hv => h.2.2 i v (lle_at hw i v hi hv) hv⟩
def padL (n : Nat) (av : List Value) : List Value := let l := av.flatMap (fun v => if v.category = 2 then [v, .null] else [v]); l ++ List.replicate (n - l.length) .null
theorem lv_args_spec : ∀ (vs : List Value) (k i : Nat) (v : Value), (vs.flatMap (fun v => if v.category = 2 then [v, Value.null] else [v]))[i]? = some v → v ≠ .null → (k + i, v) ∈ lv_args k vs
  | [], k, i, v, h, _ => by simp at h
  | a :: vs, k, i, v, h, hn => by
    unfold lv_args
    rw [List.flatMap_cons] at h
    by_cases hc : a.category = 2
    · rw [if_pos hc] at h ⊢
      match i, h with
      | 0, h => simp at h; subst h; exact List.mem_cons_self
      | 1, h => simp at h; exact absurd h.symm hn
      | i + 2, h =>
        have := lv_args_spec vs (k + 2) i v (by simpa using h) hn
        refine List.mem_cons_of_mem _ ?_
        rw [show k + (i + 2) = k + 2 + i by omega]
        exact this
    · rw [if_neg hc] at h ⊢
      match i, h with
      | 0, h => simp at h; subst h; exact List.mem_cons_self
      | i + 1, h =>
        have := lv_args_spec vs (k + 1) i v (by simpa using h) hn
        refine List.mem_cons_of_mem _ ?_
        rw [show k + (i + 1) = k + 1 + i by omega]
        exact this
theorem padL_len (vs : List Value) {n : Nat} (h : (lg_sl vs).length ≤ n) : (padL n vs).length ≤ n := by
  have e : (lg_sl vs).length = (vs.flatMap (fun v => if v.category = 2 then [v, Value.null] else [v])).length := by
    unfold lg_sl
    rw [List.length_flatMap, List.length_flatMap]
    congr 1
    refine List.map_congr_left (fun v _ => ?_)
    by_cases hc : v.category = 2 <;> simp [hc]
  rw [e] at h
  unfold padL
  simp only [List.length_append, List.length_replicate]
  omega
theorem hL_entry (vs : List Value) {n : Nat} (h : (lg_sl vs).length ≤ n) : hL ((lg_sl vs ++ List.replicate (n - (lg_sl vs).length) Slot.unset).toArray) n (padL n vs) := by
  obtain ⟨h1, h2, h3⟩ := lv_entry vs h
  refine ⟨⟨h1, padL_len vs h⟩, h2, fun i v hi hv => ?_⟩
  unfold padL at hi
  dsimp only at hi
  rw [List.getElem?_append] at hi
  split at hi
  · have := lv_args_spec vs 0 i v hi hv
    rw [Nat.zero_add] at this
    exact h3 _ this
  · rw [List.getElem?_replicate] at hi
    split at hi
    · cases hi; exact absurd rfl hv
    · cases hi
/-! the frame of a walk -/
abbrev Fr : Type := Program × Launch × Env × Room × State × MethodId × Array Value × List Frame × Method × Code × (Nat × Nat) × (State → Prop) × Fx × Nat
def xp (X : Fr) := X.1
def xl (X : Fr) := X.2.1
def xe (X : Fr) := X.2.2.1
def xR (X : Fr) := X.2.2.2.1
def xs (X : Fr) := X.2.2.2.2.1
def xm (X : Fr) := X.2.2.2.2.2.1
def xa (X : Fr) := X.2.2.2.2.2.2.1
def xb (X : Fr) := X.2.2.2.2.2.2.2.1
def xme (X : Fr) := X.2.2.2.2.2.2.2.2.1
def xc (X : Fr) := X.2.2.2.2.2.2.2.2.2.1
def xk (X : Fr) := X.2.2.2.2.2.2.2.2.2.2.1
def xQ (X : Fr) := X.2.2.2.2.2.2.2.2.2.2.2.1
def xw (X : Fr) := X.2.2.2.2.2.2.2.2.2.2.2.2.1
def xn (X : Fr) := X.2.2.2.2.2.2.2.2.2.2.2.2.2
def Wx (X : Fr) (S : St) (pc : Nat) (lv st : List Value) : Prop := ∀ (H : Heap) (locs : List Loc) (ls : Array Slot), va_P (xw X).1 vwCl (wS (xw X) S) H → va_S (fA (xw X)) (xs X).heap H locs → hL ls (xn X) lv → W (xp X) (xl X) (xe X) (xR X) (xs X) (xm X) (xa X) (xb X) (xme X) (xc X) H locs (xk X).1 (xk X).2 (xQ X) (F0 (xm X) pc ls st)
def Ok (X : Fr) (cc : ByteArray) (own : String) (d : Nat) : Prop := (xp X).tables.exec = Jvm.exec ∧ (xc X).code = cc ∧ (xc X).maxLocals = xn X ∧ (xs X).vm.findClass own = some (xm X).cls ∧ (∀ w ∈ tb, w.before (xa X) (xs X) = true) ∧ (xme X).locks = false ∧ Bs (xw X) (xs X) ∧ (d ≤ (xR X).frames ∧ 40 * d ≤ (xR X).locals) ∧ (xk X).1 ≤ (xR X).cells ∧ (xk X).2 ≤ (xR X).slots
def QX (w : Fx) (post : Option Value → St → Prop) : Array Value → State → Outcome → State → Prop := fun _ st oc t => (∃ (v : Option Value) (S' : St), oc = .returned v ∧ post v S' ∧ va_P w.1 vwCl (wS w S') t.heap) ∧ va_F (fA w) st t
def Rt (X : Fr) (rt : Option FieldType) (post : Option Value → St → Prop) : Prop := (xme X).sig.returnType = rt ∧ xQ X = MQ (xb X) (QX (xw X) post) (xa X) (xs X) (xk X).1 (xk X).2 (fA (xw X))
abbrev rmD (d : Nat) : Room := { frames := d, cells := 0, slots := 0, locals := 40 * d }
/-- a method's contract over the one world: with these arguments and this state its end is as post says -/
def Ct (l : Launch) (y : MethodName) (cc : ByteArray) (mL : Nat) (rt : Option FieldType) (d : Nat) (w : Fx) (av : List Value) (S : St) (post : Option Value → St → Prop) : Prop := Met l y (.code y cc mL rt :: tb) (rmD d) (va_Pc av (fun U => va_P w.1 vwCl (wS w S) U.heap ∧ Bs w U)) (QX w post) 0 0 (fA w)
theorem Ct.of {l : Launch} {y : MethodName} {cc : ByteArray} {mL : Nat} {rt : Option FieldType} {d : Nat} {w : Fx} {av : List Value} {S : St} {post : Option Value → St → Prop} (hy : plainName y.cls = true) (hlen : (lg_sl av).length ≤ mL)
    (body : ∀ X : Fr, Ok X cc y.cls d → Rt X rt post → xl X = l → xw X = w → Wx X S 0 (padL mL av) []) : Ct l y cc mL rt d w av S post := by
  refine Met.ofW (cc := cc) (maxL := mL) (ret := rt) hy rfl ?_
  intro p e s m args below meth c s₁ B hml hv
  obtain ⟨rfl, hP, hB⟩ := hv
  have hts := atoms_spec (ws := .code y cc mL rt :: tb) B.pre
  rw [lg_entry_eq]
  exact body (p, l, e, rmD d, s, m, av.toArray, below, meth, c, (0, 0), MQ below (QX w post) av.toArray s 0 0 (fA w), w, mL) ⟨B.exec, B.bytes, hml, findClass_of_methodNamed B.named, fun q hq => hts q (List.mem_cons_of_mem _ hq), B.notSynchronized, hB, ⟨Nat.le_refl _, Nat.le_refl _⟩, Nat.le_refl _, Nat.le_refl _⟩ ⟨B.returns, rfl⟩ rfl rfl s.heap [] _ hP va_S.rf (hL_entry av hlen)
theorem Wx.weak {X : Fr} {S : St} {pc : Nat} {lv lv' st : List Value} (hw : lle lv' lv) (k : Wx X S pc lv' st) : Wx X S pc lv st := fun H locs ls hP hS hl => k H locs ls hP hS (hL_weak hl hw)
theorem tb_good : GoodIn tb tb := fun c hc => ⟨hc, good_of_word (List.mem_filter.mp hc).2⟩
theorem tb_mem {c : Cond} (h : c ∈ lw_tbl) (hg : goodWord c = true) : c ∈ tb := List.mem_filter.mpr ⟨h, hg⟩
theorem tb_at {c : Cond} (i : Nat) (h : tables_1[i]? = some c) (hg : goodWord c = true) : c ∈ tb := tb_mem (List.mem_append_right _ (List.mem_of_getElem? h)) hg
theorem nw_at {c : Cond} (i : Nat) (h : tables_1[i]? = some c) (hg : isNest c = true) : c ∈ nw := List.mem_filter.mpr ⟨List.mem_append_right _ (List.mem_of_getElem? h), hg⟩
end
section
section
variable {X : Fr} {cc : ByteArray} {own : String} {d : Nat} {S : St} {pc : Nat} {lv st : List Value}
theorem r_iconst {n : Int} (v : Int32) (h : Ok X cc own d) (dg : decode cc pc = .ok (.iconst n, 1)) (hv : Int32.ofInt n = v) (k : Wx X S (pc + 1) lv (.int v :: st)) : Wx X S pc lv (st) := fun H locs ls hP hS hl => lv_iconst h.1 h.2.1 dg hv (k H locs ls hP hS hl)
theorem r_bipush {n : Int} (v : Int32) (h : Ok X cc own d) (dg : decode cc pc = .ok (.bipush n, 2)) (hv : (Int8.ofInt n).toInt32 = v) (k : Wx X S (pc + 2) lv (.int v :: st)) : Wx X S pc lv (st) := fun H locs ls hP hS hl => lv_bipush h.1 h.2.1 dg hv (k H locs ls hP hS hl)
theorem r_sipush {n : Int} (v : Int32) (h : Ok X cc own d) (dg : decode cc pc = .ok (.sipush n, 3)) (hv : (Int16.ofInt n).toInt32 = v) (k : Wx X S (pc + 3) lv (.int v :: st)) : Wx X S pc lv (st) := fun H locs ls hP hS hl => lv_sipush h.1 h.2.1 dg hv (k H locs ls hP hS hl)
theorem r_lconst {n : Fin 2} (v : Int64) (h : Ok X cc own d) (dg : decode cc pc = .ok (.lconst n, 1)) (hv : Int64.ofNat (n : Nat) = v) (k : Wx X S (pc + 1) lv (.long v :: st)) : Wx X S pc lv (st) := fun H locs ls hP hS hl => lv_lconst h.1 h.2.1 dg hv (k H locs ls hP hS hl)
theorem r_iload_n {q : Fin 4} (i : Nat) {x : Int32} (h : Ok X cc own d) (dg : decode cc pc = .ok (.iload_n q, 1)) (hi : (q : Nat) = i) (hx : lv[i]? = some (.int x)) (k : Wx X S (pc + 1) lv (.int x :: st)) : Wx X S pc lv (st) := fun H locs ls hP hS hl => lv_iload_n h.1 h.2.1 dg hi (hL_at hl hx (fun z => by cases z)) (k H locs ls hP hS hl)
theorem r_iload {i : Nat} {x : Int32} (h : Ok X cc own d) (dg : decode cc pc = .ok (.iload i, 2)) (hx : lv[i]? = some (.int x)) (k : Wx X S (pc + 2) lv (.int x :: st)) : Wx X S pc lv (st) := fun H locs ls hP hS hl => lv_iload h.1 h.2.1 dg (hL_at hl hx (fun z => by cases z)) (k H locs ls hP hS hl)
theorem r_lload_n {q : Fin 4} (i : Nat) {x : Int64} (h : Ok X cc own d) (dg : decode cc pc = .ok (.lload_n q, 1)) (hi : (q : Nat) = i) (hx : lv[i]? = some (.long x)) (k : Wx X S (pc + 1) lv (.long x :: st)) : Wx X S pc lv (st) := fun H locs ls hP hS hl => lv_lload_n h.1 h.2.1 dg hi (hL_at hl hx (fun z => by cases z)) (k H locs ls hP hS hl)
theorem r_lload {i : Nat} {x : Int64} (h : Ok X cc own d) (dg : decode cc pc = .ok (.lload i, 2)) (hx : lv[i]? = some (.long x)) (k : Wx X S (pc + 2) lv (.long x :: st)) : Wx X S pc lv (st) := fun H locs ls hP hS hl => lv_lload h.1 h.2.1 dg (hL_at hl hx (fun z => by cases z)) (k H locs ls hP hS hl)
theorem r_aload_n {q : Fin 4} (i : Nat) {x : Nat} (h : Ok X cc own d) (dg : decode cc pc = .ok (.aload_n q, 1)) (hi : (q : Nat) = i) (hx : lv[i]? = some (.ref x)) (k : Wx X S (pc + 1) lv (.ref x :: st)) : Wx X S pc lv (st) := fun H locs ls hP hS hl => lv_aload_n h.1 h.2.1 dg hi (hL_at hl hx (fun z => by cases z)) (k H locs ls hP hS hl)
theorem r_aload {i : Nat} {x : Nat} (h : Ok X cc own d) (dg : decode cc pc = .ok (.aload i, 2)) (hx : lv[i]? = some (.ref x)) (k : Wx X S (pc + 2) lv (.ref x :: st)) : Wx X S pc lv (st) := fun H locs ls hP hS hl => lv_aload h.1 h.2.1 dg (hL_at hl hx (fun z => by cases z)) (k H locs ls hP hS hl)
theorem r_istore_n {q : Fin 4} (i : Nat) {x : Int32} (h : Ok X cc own d) (dg : decode cc pc = .ok (.istore_n q, 1)) (hi : (q : Nat) = i) (hn : i < lv.length) (k : Wx X S (pc + 1) (zp1 lv i (.int x)) st) : Wx X S pc lv (.int x :: st) := fun H locs ls hP hS hl => lv_istore_n h.1 h.2.1 dg hi (hL_has hl) (Nat.lt_of_lt_of_le hn hl.1.2) rfl (fun ls' hl' => k H locs ls' hP hS (hL_set1 hl hl'))
theorem r_istore {i : Nat} {x : Int32} (h : Ok X cc own d) (dg : decode cc pc = .ok (.istore i, 2)) (hn : i < lv.length) (k : Wx X S (pc + 2) (zp1 lv i (.int x)) st) : Wx X S pc lv (.int x :: st) := fun H locs ls hP hS hl => lv_istore h.1 h.2.1 dg (hL_has hl) (Nat.lt_of_lt_of_le hn hl.1.2) rfl (fun ls' hl' => k H locs ls' hP hS (hL_set1 hl hl'))
theorem r_lstore_n {q : Fin 4} (i : Nat) {x : Int64} (h : Ok X cc own d) (dg : decode cc pc = .ok (.lstore_n q, 1)) (hi : (q : Nat) = i) (hn : i + 1 < lv.length) (k : Wx X S (pc + 1) (zp2 lv i (.long x)) st) : Wx X S pc lv (.long x :: st) := fun H locs ls hP hS hl => lv_lstore_n h.1 h.2.1 dg hi (hL_has hl) (Nat.lt_of_lt_of_le hn hl.1.2) rfl (fun ls' hl' => k H locs ls' hP hS (hL_set2 hl hl'))
theorem r_lstore {i : Nat} {x : Int64} (h : Ok X cc own d) (dg : decode cc pc = .ok (.lstore i, 2)) (hn : i + 1 < lv.length) (k : Wx X S (pc + 2) (zp2 lv i (.long x)) st) : Wx X S pc lv (.long x :: st) := fun H locs ls hP hS hl => lv_lstore h.1 h.2.1 dg (hL_has hl) (Nat.lt_of_lt_of_le hn hl.1.2) rfl (fun ls' hl' => k H locs ls' hP hS (hL_set2 hl hl'))
theorem hL_pair {ls : Array Slot} {n : Nat} {lv : List Value} (h : hL ls n lv) {i : Nat} {v : Value} (hi : lv[i]? = some v) (hv : v ≠ .null) : ∃ k : Nat, (hLp lv n)[k]? = some (i, v) := List.getElem?_of_mem (hLp_mem.mpr ⟨hL_lt h hi hv, hi, hv⟩)
theorem r_iinc {i : Nat} {n : Int} {x : Int32} (c : Int32) (h : Ok X cc own d) (dg : decode cc pc = .ok (.iinc i n, 3)) (hc : Int32.ofInt n = c) (hx : lv[i]? = some (.int x)) (k : Wx X S (pc + 3) (zp1 lv i (.int (x + c))) st) : Wx X S pc lv st := by
  intro H locs ls hP hS hl
  have hnn : Value.int x ≠ .null := fun z => by cases z
  obtain ⟨kk, hkk⟩ := hL_pair hl hx hnn
  exact lv_iinc h.1 h.2.1 dg (hL_has hl) hkk (by rw [hc]) (hL_lt hl hx hnn) rfl (fun ls' hl' => k H locs ls' hP hS (hL_set1 hl hl'))
/-- a counter that is a natural -/
theorem r_iincN {i : Nat} {a : Nat} (h : Ok X cc own d) (dg : decode cc pc = .ok (.iinc i 1, 3)) (hx : lv[i]? = some (.int (nI a))) (k : Wx X S (pc + 3) (zp1 lv i (.int (nI (a + 1)))) st) : Wx X S pc lv st := by
  refine r_iinc 1 h dg (by decide) hx ?_
  rw [nI_1]
  exact k
theorem r_iadd {x y : Int32} (h : Ok X cc own d) (dg : decode cc pc = .ok (.iadd, 1)) (k : Wx X S (pc + 1) lv (.int (x + y) :: st)) : Wx X S pc lv (.int y :: .int x :: st) := fun H locs ls hP hS hl => lv_iadd h.1 h.2.1 dg (k H locs ls hP hS hl)
theorem r_isub {x y : Int32} (h : Ok X cc own d) (dg : decode cc pc = .ok (.isub, 1)) (k : Wx X S (pc + 1) lv (.int (x - y) :: st)) : Wx X S pc lv (.int y :: .int x :: st) := fun H locs ls hP hS hl => lv_isub h.1 h.2.1 dg (k H locs ls hP hS hl)
theorem r_imul {x y : Int32} (h : Ok X cc own d) (dg : decode cc pc = .ok (.imul, 1)) (k : Wx X S (pc + 1) lv (.int (x * y) :: st)) : Wx X S pc lv (.int y :: .int x :: st) := fun H locs ls hP hS hl => lv_imul h.1 h.2.1 dg (k H locs ls hP hS hl)
theorem r_iand {x y : Int32} (h : Ok X cc own d) (dg : decode cc pc = .ok (.iand, 1)) (k : Wx X S (pc + 1) lv (.int (x &&& y) :: st)) : Wx X S pc lv (.int y :: .int x :: st) := fun H locs ls hP hS hl => lv_iand h.1 h.2.1 dg (k H locs ls hP hS hl)
theorem r_ior {x y : Int32} (h : Ok X cc own d) (dg : decode cc pc = .ok (.ior, 1)) (k : Wx X S (pc + 1) lv (.int (x ||| y) :: st)) : Wx X S pc lv (.int y :: .int x :: st) := fun H locs ls hP hS hl => lv_ior h.1 h.2.1 dg (k H locs ls hP hS hl)
theorem r_ishl {x y : Int32} (h : Ok X cc own d) (dg : decode cc pc = .ok (.ishl, 1)) (k : Wx X S (pc + 1) lv (.int (x <<< (y &&& 31)) :: st)) : Wx X S pc lv (.int y :: .int x :: st) := fun H locs ls hP hS hl => lv_ishl h.1 h.2.1 dg (k H locs ls hP hS hl)
theorem r_ishr {x y : Int32} (h : Ok X cc own d) (dg : decode cc pc = .ok (.ishr, 1)) (k : Wx X S (pc + 1) lv (.int (x >>> (y &&& 31)) :: st)) : Wx X S pc lv (.int y :: .int x :: st) := fun H locs ls hP hS hl => lv_ishr h.1 h.2.1 dg (k H locs ls hP hS hl)
theorem r_idiv {x y : Int32} (h : Ok X cc own d) (dg : decode cc pc = .ok (.idiv, 1)) (hne : ¬ y = 0) (k : Wx X S (pc + 1) lv (.int (x / y) :: st)) : Wx X S pc lv (.int y :: .int x :: st) := fun H locs ls hP hS hl => lv_idiv h.1 h.2.1 dg hne (k H locs ls hP hS hl)
theorem r_irem {x y : Int32} (h : Ok X cc own d) (dg : decode cc pc = .ok (.irem, 1)) (hne : ¬ y = 0) (k : Wx X S (pc + 1) lv (.int (x - x / y * y) :: st)) : Wx X S pc lv (.int y :: .int x :: st) := fun H locs ls hP hS hl => lv_irem h.1 h.2.1 dg hne (k H locs ls hP hS hl)
theorem r_ineg {x : Int32} (h : Ok X cc own d) (dg : decode cc pc = .ok (.ineg, 1)) (k : Wx X S (pc + 1) lv (.int (-x) :: st)) : Wx X S pc lv (.int x :: st) := fun H locs ls hP hS hl => lv_ineg h.1 h.2.1 dg (k H locs ls hP hS hl)
theorem r_ladd {x y : Int64} (h : Ok X cc own d) (dg : decode cc pc = .ok (.ladd, 1)) (k : Wx X S (pc + 1) lv (.long (x + y) :: st)) : Wx X S pc lv (.long y :: .long x :: st) := fun H locs ls hP hS hl => lv_ladd h.1 h.2.1 dg (k H locs ls hP hS hl)
theorem r_lsub {x y : Int64} (h : Ok X cc own d) (dg : decode cc pc = .ok (.lsub, 1)) (k : Wx X S (pc + 1) lv (.long (x - y) :: st)) : Wx X S pc lv (.long y :: .long x :: st) := fun H locs ls hP hS hl => lv_lsub h.1 h.2.1 dg (k H locs ls hP hS hl)
theorem r_lmul {x y : Int64} (h : Ok X cc own d) (dg : decode cc pc = .ok (.lmul, 1)) (k : Wx X S (pc + 1) lv (.long (x * y) :: st)) : Wx X S pc lv (.long y :: .long x :: st) := fun H locs ls hP hS hl => lv_lmul h.1 h.2.1 dg (k H locs ls hP hS hl)
theorem r_land {x y : Int64} (h : Ok X cc own d) (dg : decode cc pc = .ok (.land, 1)) (k : Wx X S (pc + 1) lv (.long (x &&& y) :: st)) : Wx X S pc lv (.long y :: .long x :: st) := fun H locs ls hP hS hl => lv_land h.1 h.2.1 dg (k H locs ls hP hS hl)
theorem r_lor {x y : Int64} (h : Ok X cc own d) (dg : decode cc pc = .ok (.lor, 1)) (k : Wx X S (pc + 1) lv (.long (x ||| y) :: st)) : Wx X S pc lv (.long y :: .long x :: st) := fun H locs ls hP hS hl => lv_lor h.1 h.2.1 dg (k H locs ls hP hS hl)
theorem r_ldiv {x y : Int64} (h : Ok X cc own d) (dg : decode cc pc = .ok (.ldiv, 1)) (hne : ¬ y = 0) (k : Wx X S (pc + 1) lv (.long (x / y) :: st)) : Wx X S pc lv (.long y :: .long x :: st) := fun H locs ls hP hS hl => lv_ldiv h.1 h.2.1 dg hne (k H locs ls hP hS hl)
theorem r_lneg {x : Int64} (h : Ok X cc own d) (dg : decode cc pc = .ok (.lneg, 1)) (k : Wx X S (pc + 1) lv (.long (-x) :: st)) : Wx X S pc lv (.long x :: st) := fun H locs ls hP hS hl => lv_lneg h.1 h.2.1 dg (k H locs ls hP hS hl)
theorem r_lshl {x : Int64} {y : Int32} (h : Ok X cc own d) (dg : decode cc pc = .ok (.lshl, 1))  (k : Wx X S (pc + 1) lv (.long (x <<< (y.toInt64 &&& 63)) :: st)) : Wx X S pc lv (.int y :: .long x :: st) := fun H locs ls hP hS hl => lv_lshl h.1 h.2.1 dg rfl (k H locs ls hP hS hl)
theorem r_lshr {x : Int64} {y : Int32} (h : Ok X cc own d) (dg : decode cc pc = .ok (.lshr, 1))  (k : Wx X S (pc + 1) lv (.long (x >>> (y.toInt64 &&& 63)) :: st)) : Wx X S pc lv (.int y :: .long x :: st) := fun H locs ls hP hS hl => lv_lshr h.1 h.2.1 dg rfl (k H locs ls hP hS hl)
theorem r_i2l {x : Int32} (h : Ok X cc own d) (dg : decode cc pc = .ok (.i2l, 1))  (k : Wx X S (pc + 1) lv (.long x.toInt64 :: st)) : Wx X S pc lv (.int x :: st) := fun H locs ls hP hS hl => lv_i2l h.1 h.2.1 dg rfl (k H locs ls hP hS hl)
theorem r_l2i {x : Int64} (h : Ok X cc own d) (dg : decode cc pc = .ok (.l2i, 1))  (k : Wx X S (pc + 1) lv (.int x.toInt32 :: st)) : Wx X S pc lv (.long x :: st) := fun H locs ls hP hS hl => lv_l2i h.1 h.2.1 dg rfl (k H locs ls hP hS hl)
theorem r_dup {a : Value} (h : Ok X cc own d) (dg : decode cc pc = .ok (.dup, 1)) (ha : a.category = 1) (k : Wx X S (pc + 1) lv (a :: a :: st)) : Wx X S pc lv (a :: st) := fun H locs ls hP hS hl => lv_dup h.1 h.2.1 dg ha (k H locs ls hP hS hl)
theorem r_pop {a : Value} (h : Ok X cc own d) (dg : decode cc pc = .ok (.pop, 1)) (ha : a.category = 1) (k : Wx X S (pc + 1) lv (st)) : Wx X S pc lv (a :: st) := fun H locs ls hP hS hl => lv_pop h.1 h.2.1 dg ha (k H locs ls hP hS hl)
theorem r_dup2 {a b : Value} (h : Ok X cc own d) (dg : decode cc pc = .ok (.dup2, 1)) (ha : a.category = 1) (hb : b.category = 1) (k : Wx X S (pc + 1) lv (a :: b :: a :: b :: st)) : Wx X S pc lv (a :: b :: st) := fun H locs ls hP hS hl => lv_dup2_11 h.1 h.2.1 dg ha hb (k H locs ls hP hS hl)
theorem r_topi {x : Int32} (k : ∀ y : Int32, y = x → Wx X S pc lv (.int y :: st)) : Wx X S pc lv (.int x :: st) := k x rfl
theorem r_topl {x : Int64} (k : ∀ y : Int64, y = x → Wx X S pc lv (.long y :: st)) : Wx X S pc lv (.long x :: st) := k x rfl
theorem r_ldc2 {index : Nat} {v : Int64} (h : Ok X cc own d) (hc : Cond.constantLong own index v ∈ tb) (dg : decode cc pc = .ok (.ldc2_w index, 3)) (k : Wx X S (pc + 3) lv (.long v :: st)) : Wx X S pc lv st := fun H locs ls hP hS hl => lv_ldc2 h.1 h.2.1 h.2.2.2.1 (h.2.2.2.2.1 _ hc) dg (k H locs ls hP hS hl)
theorem r_goto (tgt : Nat) {off : Int} (h : Ok X cc own d) (dg : decode cc pc = .ok (.goto off, 3)) (ht : (pc : Int) + off = (tgt : Int)) (k : Wx X S tgt lv st) : Wx X S pc lv st := fun H locs ls hP hS hl => lv_goto h.1 h.2.1 dg ht (k H locs ls hP hS hl)
theorem r_if_eq (tgt : Nat) {x : Int32} {off : Int} (h : Ok X cc own d) (dg : decode cc pc = .ok (.ifCond .eq off, 3)) (ht : (pc : Int) + off = (tgt : Int)) (kt : x = 0 → Wx X S tgt lv st) (kf : ¬ x = 0 → Wx X S (pc + 3) lv st) : Wx X S pc lv (.int x :: st) := fun H locs ls hP hS hl => lv_if_eq h.1 h.2.1 dg ht (fun q => kt q H locs ls hP hS hl) (fun q => kf q H locs ls hP hS hl)
theorem r_if_eq_t (tgt : Nat) {x : Int32} {off : Int} (h : Ok X cc own d) (dg : decode cc pc = .ok (.ifCond .eq off, 3)) (ht : (pc : Int) + off = (tgt : Int)) (q : x = 0) (k : Wx X S tgt lv st) : Wx X S pc lv (.int x :: st) := r_if_eq tgt h dg ht (fun _ => k) (fun z => absurd q z)
theorem r_if_eq_f (tgt : Nat) {x : Int32} {off : Int} (h : Ok X cc own d) (dg : decode cc pc = .ok (.ifCond .eq off, 3)) (ht : (pc : Int) + off = (tgt : Int)) (q : ¬ x = 0) (k : Wx X S (pc + 3) lv st) : Wx X S pc lv (.int x :: st) := r_if_eq tgt h dg ht (fun z => absurd z q) (fun _ => k)
theorem r_icmp_eq (tgt : Nat) {x y : Int32} {off : Int} (h : Ok X cc own d) (dg : decode cc pc = .ok (.if_icmp .eq off, 3)) (ht : (pc : Int) + off = (tgt : Int)) (kt : x = y → Wx X S tgt lv st) (kf : ¬ x = y → Wx X S (pc + 3) lv st) : Wx X S pc lv (.int y :: .int x :: st) := fun H locs ls hP hS hl => lv_icmp_eq h.1 h.2.1 dg ht (fun q => kt q H locs ls hP hS hl) (fun q => kf q H locs ls hP hS hl)
theorem r_icmp_eq_t (tgt : Nat) {x y : Int32} {off : Int} (h : Ok X cc own d) (dg : decode cc pc = .ok (.if_icmp .eq off, 3)) (ht : (pc : Int) + off = (tgt : Int)) (q : x = y) (k : Wx X S tgt lv st) : Wx X S pc lv (.int y :: .int x :: st) := r_icmp_eq tgt h dg ht (fun _ => k) (fun z => absurd q z)
theorem r_icmp_eq_f (tgt : Nat) {x y : Int32} {off : Int} (h : Ok X cc own d) (dg : decode cc pc = .ok (.if_icmp .eq off, 3)) (ht : (pc : Int) + off = (tgt : Int)) (q : ¬ x = y) (k : Wx X S (pc + 3) lv st) : Wx X S pc lv (.int y :: .int x :: st) := r_icmp_eq tgt h dg ht (fun z => absurd z q) (fun _ => k)
theorem r_if_ne (tgt : Nat) {x : Int32} {off : Int} (h : Ok X cc own d) (dg : decode cc pc = .ok (.ifCond .ne off, 3)) (ht : (pc : Int) + off = (tgt : Int)) (kt : ¬ x = 0 → Wx X S tgt lv st) (kf : x = 0 → Wx X S (pc + 3) lv st) : Wx X S pc lv (.int x :: st) := fun H locs ls hP hS hl => lv_if_ne h.1 h.2.1 dg ht (fun q => kt q H locs ls hP hS hl) (fun q => kf q H locs ls hP hS hl)
theorem r_if_ne_t (tgt : Nat) {x : Int32} {off : Int} (h : Ok X cc own d) (dg : decode cc pc = .ok (.ifCond .ne off, 3)) (ht : (pc : Int) + off = (tgt : Int)) (q : ¬ x = 0) (k : Wx X S tgt lv st) : Wx X S pc lv (.int x :: st) := r_if_ne tgt h dg ht (fun _ => k) (fun z => absurd z q)
theorem r_if_ne_f (tgt : Nat) {x : Int32} {off : Int} (h : Ok X cc own d) (dg : decode cc pc = .ok (.ifCond .ne off, 3)) (ht : (pc : Int) + off = (tgt : Int)) (q : x = 0) (k : Wx X S (pc + 3) lv st) : Wx X S pc lv (.int x :: st) := r_if_ne tgt h dg ht (fun z => absurd q z) (fun _ => k)
theorem r_icmp_ne (tgt : Nat) {x y : Int32} {off : Int} (h : Ok X cc own d) (dg : decode cc pc = .ok (.if_icmp .ne off, 3)) (ht : (pc : Int) + off = (tgt : Int)) (kt : ¬ x = y → Wx X S tgt lv st) (kf : x = y → Wx X S (pc + 3) lv st) : Wx X S pc lv (.int y :: .int x :: st) := fun H locs ls hP hS hl => lv_icmp_ne h.1 h.2.1 dg ht (fun q => kt q H locs ls hP hS hl) (fun q => kf q H locs ls hP hS hl)
theorem r_icmp_ne_t (tgt : Nat) {x y : Int32} {off : Int} (h : Ok X cc own d) (dg : decode cc pc = .ok (.if_icmp .ne off, 3)) (ht : (pc : Int) + off = (tgt : Int)) (q : ¬ x = y) (k : Wx X S tgt lv st) : Wx X S pc lv (.int y :: .int x :: st) := r_icmp_ne tgt h dg ht (fun _ => k) (fun z => absurd z q)
theorem r_icmp_ne_f (tgt : Nat) {x y : Int32} {off : Int} (h : Ok X cc own d) (dg : decode cc pc = .ok (.if_icmp .ne off, 3)) (ht : (pc : Int) + off = (tgt : Int)) (q : x = y) (k : Wx X S (pc + 3) lv st) : Wx X S pc lv (.int y :: .int x :: st) := r_icmp_ne tgt h dg ht (fun z => absurd q z) (fun _ => k)
theorem r_if_lt (tgt : Nat) {x : Int32} {off : Int} (h : Ok X cc own d) (dg : decode cc pc = .ok (.ifCond .lt off, 3)) (ht : (pc : Int) + off = (tgt : Int)) (kt : x < 0 → Wx X S tgt lv st) (kf : ¬ x < 0 → Wx X S (pc + 3) lv st) : Wx X S pc lv (.int x :: st) := fun H locs ls hP hS hl => lv_if_lt h.1 h.2.1 dg ht (fun q => kt q H locs ls hP hS hl) (fun q => kf q H locs ls hP hS hl)
theorem r_if_lt_t (tgt : Nat) {x : Int32} {off : Int} (h : Ok X cc own d) (dg : decode cc pc = .ok (.ifCond .lt off, 3)) (ht : (pc : Int) + off = (tgt : Int)) (q : x < 0) (k : Wx X S tgt lv st) : Wx X S pc lv (.int x :: st) := r_if_lt tgt h dg ht (fun _ => k) (fun z => absurd q z)
theorem r_if_lt_f (tgt : Nat) {x : Int32} {off : Int} (h : Ok X cc own d) (dg : decode cc pc = .ok (.ifCond .lt off, 3)) (ht : (pc : Int) + off = (tgt : Int)) (q : ¬ x < 0) (k : Wx X S (pc + 3) lv st) : Wx X S pc lv (.int x :: st) := r_if_lt tgt h dg ht (fun z => absurd z q) (fun _ => k)
theorem r_icmp_lt (tgt : Nat) {x y : Int32} {off : Int} (h : Ok X cc own d) (dg : decode cc pc = .ok (.if_icmp .lt off, 3)) (ht : (pc : Int) + off = (tgt : Int)) (kt : x < y → Wx X S tgt lv st) (kf : ¬ x < y → Wx X S (pc + 3) lv st) : Wx X S pc lv (.int y :: .int x :: st) := fun H locs ls hP hS hl => lv_icmp_lt h.1 h.2.1 dg ht (fun q => kt q H locs ls hP hS hl) (fun q => kf q H locs ls hP hS hl)
theorem r_icmp_lt_t (tgt : Nat) {x y : Int32} {off : Int} (h : Ok X cc own d) (dg : decode cc pc = .ok (.if_icmp .lt off, 3)) (ht : (pc : Int) + off = (tgt : Int)) (q : x < y) (k : Wx X S tgt lv st) : Wx X S pc lv (.int y :: .int x :: st) := r_icmp_lt tgt h dg ht (fun _ => k) (fun z => absurd q z)
theorem r_icmp_lt_f (tgt : Nat) {x y : Int32} {off : Int} (h : Ok X cc own d) (dg : decode cc pc = .ok (.if_icmp .lt off, 3)) (ht : (pc : Int) + off = (tgt : Int)) (q : ¬ x < y) (k : Wx X S (pc + 3) lv st) : Wx X S pc lv (.int y :: .int x :: st) := r_icmp_lt tgt h dg ht (fun z => absurd z q) (fun _ => k)
theorem r_if_ge (tgt : Nat) {x : Int32} {off : Int} (h : Ok X cc own d) (dg : decode cc pc = .ok (.ifCond .ge off, 3)) (ht : (pc : Int) + off = (tgt : Int)) (kt : 0 ≤ x → Wx X S tgt lv st) (kf : ¬ 0 ≤ x → Wx X S (pc + 3) lv st) : Wx X S pc lv (.int x :: st) := fun H locs ls hP hS hl => lv_if_ge h.1 h.2.1 dg ht (fun q => kt q H locs ls hP hS hl) (fun q => kf q H locs ls hP hS hl)
theorem r_if_ge_t (tgt : Nat) {x : Int32} {off : Int} (h : Ok X cc own d) (dg : decode cc pc = .ok (.ifCond .ge off, 3)) (ht : (pc : Int) + off = (tgt : Int)) (q : 0 ≤ x) (k : Wx X S tgt lv st) : Wx X S pc lv (.int x :: st) := r_if_ge tgt h dg ht (fun _ => k) (fun z => absurd q z)
theorem r_if_ge_f (tgt : Nat) {x : Int32} {off : Int} (h : Ok X cc own d) (dg : decode cc pc = .ok (.ifCond .ge off, 3)) (ht : (pc : Int) + off = (tgt : Int)) (q : ¬ 0 ≤ x) (k : Wx X S (pc + 3) lv st) : Wx X S pc lv (.int x :: st) := r_if_ge tgt h dg ht (fun z => absurd z q) (fun _ => k)
theorem r_icmp_ge (tgt : Nat) {x y : Int32} {off : Int} (h : Ok X cc own d) (dg : decode cc pc = .ok (.if_icmp .ge off, 3)) (ht : (pc : Int) + off = (tgt : Int)) (kt : y ≤ x → Wx X S tgt lv st) (kf : ¬ y ≤ x → Wx X S (pc + 3) lv st) : Wx X S pc lv (.int y :: .int x :: st) := fun H locs ls hP hS hl => lv_icmp_ge h.1 h.2.1 dg ht (fun q => kt q H locs ls hP hS hl) (fun q => kf q H locs ls hP hS hl)
theorem r_icmp_ge_t (tgt : Nat) {x y : Int32} {off : Int} (h : Ok X cc own d) (dg : decode cc pc = .ok (.if_icmp .ge off, 3)) (ht : (pc : Int) + off = (tgt : Int)) (q : y ≤ x) (k : Wx X S tgt lv st) : Wx X S pc lv (.int y :: .int x :: st) := r_icmp_ge tgt h dg ht (fun _ => k) (fun z => absurd q z)
theorem r_icmp_ge_f (tgt : Nat) {x y : Int32} {off : Int} (h : Ok X cc own d) (dg : decode cc pc = .ok (.if_icmp .ge off, 3)) (ht : (pc : Int) + off = (tgt : Int)) (q : ¬ y ≤ x) (k : Wx X S (pc + 3) lv st) : Wx X S pc lv (.int y :: .int x :: st) := r_icmp_ge tgt h dg ht (fun z => absurd z q) (fun _ => k)
theorem r_if_gt (tgt : Nat) {x : Int32} {off : Int} (h : Ok X cc own d) (dg : decode cc pc = .ok (.ifCond .gt off, 3)) (ht : (pc : Int) + off = (tgt : Int)) (kt : 0 < x → Wx X S tgt lv st) (kf : ¬ 0 < x → Wx X S (pc + 3) lv st) : Wx X S pc lv (.int x :: st) := fun H locs ls hP hS hl => lv_if_gt h.1 h.2.1 dg ht (fun q => kt q H locs ls hP hS hl) (fun q => kf q H locs ls hP hS hl)
theorem r_if_gt_t (tgt : Nat) {x : Int32} {off : Int} (h : Ok X cc own d) (dg : decode cc pc = .ok (.ifCond .gt off, 3)) (ht : (pc : Int) + off = (tgt : Int)) (q : 0 < x) (k : Wx X S tgt lv st) : Wx X S pc lv (.int x :: st) := r_if_gt tgt h dg ht (fun _ => k) (fun z => absurd q z)
theorem r_if_gt_f (tgt : Nat) {x : Int32} {off : Int} (h : Ok X cc own d) (dg : decode cc pc = .ok (.ifCond .gt off, 3)) (ht : (pc : Int) + off = (tgt : Int)) (q : ¬ 0 < x) (k : Wx X S (pc + 3) lv st) : Wx X S pc lv (.int x :: st) := r_if_gt tgt h dg ht (fun z => absurd z q) (fun _ => k)
theorem r_icmp_gt (tgt : Nat) {x y : Int32} {off : Int} (h : Ok X cc own d) (dg : decode cc pc = .ok (.if_icmp .gt off, 3)) (ht : (pc : Int) + off = (tgt : Int)) (kt : y < x → Wx X S tgt lv st) (kf : ¬ y < x → Wx X S (pc + 3) lv st) : Wx X S pc lv (.int y :: .int x :: st) := fun H locs ls hP hS hl => lv_icmp_gt h.1 h.2.1 dg ht (fun q => kt q H locs ls hP hS hl) (fun q => kf q H locs ls hP hS hl)
theorem r_icmp_gt_t (tgt : Nat) {x y : Int32} {off : Int} (h : Ok X cc own d) (dg : decode cc pc = .ok (.if_icmp .gt off, 3)) (ht : (pc : Int) + off = (tgt : Int)) (q : y < x) (k : Wx X S tgt lv st) : Wx X S pc lv (.int y :: .int x :: st) := r_icmp_gt tgt h dg ht (fun _ => k) (fun z => absurd q z)
theorem r_icmp_gt_f (tgt : Nat) {x y : Int32} {off : Int} (h : Ok X cc own d) (dg : decode cc pc = .ok (.if_icmp .gt off, 3)) (ht : (pc : Int) + off = (tgt : Int)) (q : ¬ y < x) (k : Wx X S (pc + 3) lv st) : Wx X S pc lv (.int y :: .int x :: st) := r_icmp_gt tgt h dg ht (fun z => absurd z q) (fun _ => k)
theorem r_if_le (tgt : Nat) {x : Int32} {off : Int} (h : Ok X cc own d) (dg : decode cc pc = .ok (.ifCond .le off, 3)) (ht : (pc : Int) + off = (tgt : Int)) (kt : x ≤ 0 → Wx X S tgt lv st) (kf : ¬ x ≤ 0 → Wx X S (pc + 3) lv st) : Wx X S pc lv (.int x :: st) := fun H locs ls hP hS hl => lv_if_le h.1 h.2.1 dg ht (fun q => kt q H locs ls hP hS hl) (fun q => kf q H locs ls hP hS hl)
theorem r_if_le_t (tgt : Nat) {x : Int32} {off : Int} (h : Ok X cc own d) (dg : decode cc pc = .ok (.ifCond .le off, 3)) (ht : (pc : Int) + off = (tgt : Int)) (q : x ≤ 0) (k : Wx X S tgt lv st) : Wx X S pc lv (.int x :: st) := r_if_le tgt h dg ht (fun _ => k) (fun z => absurd q z)
theorem r_if_le_f (tgt : Nat) {x : Int32} {off : Int} (h : Ok X cc own d) (dg : decode cc pc = .ok (.ifCond .le off, 3)) (ht : (pc : Int) + off = (tgt : Int)) (q : ¬ x ≤ 0) (k : Wx X S (pc + 3) lv st) : Wx X S pc lv (.int x :: st) := r_if_le tgt h dg ht (fun z => absurd z q) (fun _ => k)
theorem r_icmp_le (tgt : Nat) {x y : Int32} {off : Int} (h : Ok X cc own d) (dg : decode cc pc = .ok (.if_icmp .le off, 3)) (ht : (pc : Int) + off = (tgt : Int)) (kt : x ≤ y → Wx X S tgt lv st) (kf : ¬ x ≤ y → Wx X S (pc + 3) lv st) : Wx X S pc lv (.int y :: .int x :: st) := fun H locs ls hP hS hl => lv_icmp_le h.1 h.2.1 dg ht (fun q => kt q H locs ls hP hS hl) (fun q => kf q H locs ls hP hS hl)
theorem r_icmp_le_t (tgt : Nat) {x y : Int32} {off : Int} (h : Ok X cc own d) (dg : decode cc pc = .ok (.if_icmp .le off, 3)) (ht : (pc : Int) + off = (tgt : Int)) (q : x ≤ y) (k : Wx X S tgt lv st) : Wx X S pc lv (.int y :: .int x :: st) := r_icmp_le tgt h dg ht (fun _ => k) (fun z => absurd q z)
theorem r_icmp_le_f (tgt : Nat) {x y : Int32} {off : Int} (h : Ok X cc own d) (dg : decode cc pc = .ok (.if_icmp .le off, 3)) (ht : (pc : Int) + off = (tgt : Int)) (q : ¬ x ≤ y) (k : Wx X S (pc + 3) lv st) : Wx X S pc lv (.int y :: .int x :: st) := r_icmp_le tgt h dg ht (fun z => absurd z q) (fun _ => k)
theorem r_lcmp {x y : Int64} (h : Ok X cc own d) (dg : decode cc pc = .ok (.lcmp, 1)) (k : Wx X S (pc + 1) lv (.int (lg_cmp x y) :: st)) : Wx X S pc lv (.long y :: .long x :: st) := fun H locs ls hP hS hl => W.lcmp h.1 h.2.1 dg (k H locs ls hP hS hl)
theorem lgc_eq {x y : Int64} : lg_cmp x y = 0 ↔ x = y := by
  unfold lg_cmp
  by_cases h1 : x > y
  · rw [if_pos h1]
    exact ⟨fun q => absurd q (by decide), fun q => absurd h1 (by rw [q]; exact Int64.lt_irrefl)⟩
  · rw [if_neg h1]
    by_cases h2 : x = y
    · rw [if_pos h2]; exact ⟨fun _ => h2, fun _ => rfl⟩
    · rw [if_neg h2]; exact ⟨fun q => absurd q (by decide), fun q => absurd q h2⟩
theorem lgc_gt {x y : Int64} : 0 < lg_cmp x y ↔ y < x := by
  unfold lg_cmp
  by_cases h1 : x > y
  · rw [if_pos h1]; exact ⟨fun _ => h1, fun _ => by decide⟩
  · rw [if_neg h1]
    by_cases h2 : x = y
    · rw [if_pos h2]; exact ⟨fun q => absurd q (by decide), fun q => absurd q h1⟩
    · rw [if_neg h2]; exact ⟨fun q => absurd q (by decide), fun q => absurd q h1⟩
theorem lgc_lt {x y : Int64} : lg_cmp x y < 0 ↔ x < y := by
  unfold lg_cmp
  by_cases h1 : x > y
  · rw [if_pos h1]; exact ⟨fun q => absurd q (by decide), fun q => absurd (Int64.lt_trans q h1) Int64.lt_irrefl⟩
  · rw [if_neg h1]
    by_cases h2 : x = y
    · rw [if_pos h2]; exact ⟨fun q => absurd q (by decide), fun q => absurd q (by rw [h2]; exact Int64.lt_irrefl)⟩
    · rw [if_neg h2]
      refine ⟨fun _ => ?_, fun _ => by decide⟩
      have h3 : x ≤ y := Int64.not_lt.mp h1
      rcases Int64.lt_or_eq_of_le h3 with q | q
      · exact q
      · exact absurd q h2
theorem lgc_le {x y : Int64} : lg_cmp x y ≤ 0 ↔ x ≤ y := by
  rw [← Int32.not_lt, ← Int64.not_lt]
  exact not_congr lgc_gt
theorem lgc_ge {x y : Int64} : 0 ≤ lg_cmp x y ↔ y ≤ x := by
  rw [← Int32.not_lt, ← Int64.not_lt]
  exact not_congr lgc_lt
theorem r_lc_eq (tgt : Nat) {x y : Int64} {off : Int} (h : Ok X cc own d) (dl : decode cc pc = .ok (.lcmp, 1)) (dg : decode cc (pc + 1) = .ok (.ifCond .eq off, 3)) (ht : ((pc + 1 : Nat) : Int) + off = (tgt : Int)) (kt : x = y → Wx X S tgt lv st) (kf : ¬ x = y → Wx X S (pc + 4) lv st) : Wx X S pc lv (.long y :: .long x :: st) := r_lcmp h dl (r_if_eq tgt h dg ht (fun q => kt (lgc_eq.mp q)) (fun q => kf (fun z => q (lgc_eq.mpr z))))
theorem r_lc_eq_t (tgt : Nat) {x y : Int64} {off : Int} (h : Ok X cc own d) (dl : decode cc pc = .ok (.lcmp, 1)) (dg : decode cc (pc + 1) = .ok (.ifCond .eq off, 3)) (ht : ((pc + 1 : Nat) : Int) + off = (tgt : Int)) (q : x = y) (k : Wx X S tgt lv st) : Wx X S pc lv (.long y :: .long x :: st) := r_lc_eq tgt h dl dg ht (fun _ => k) (fun z => absurd q z)
theorem r_lc_eq_f (tgt : Nat) {x y : Int64} {off : Int} (h : Ok X cc own d) (dl : decode cc pc = .ok (.lcmp, 1)) (dg : decode cc (pc + 1) = .ok (.ifCond .eq off, 3)) (ht : ((pc + 1 : Nat) : Int) + off = (tgt : Int)) (q : ¬ x = y) (k : Wx X S (pc + 4) lv st) : Wx X S pc lv (.long y :: .long x :: st) := r_lc_eq tgt h dl dg ht (fun z => absurd z q) (fun _ => k)
theorem r_lc_ne (tgt : Nat) {x y : Int64} {off : Int} (h : Ok X cc own d) (dl : decode cc pc = .ok (.lcmp, 1)) (dg : decode cc (pc + 1) = .ok (.ifCond .ne off, 3)) (ht : ((pc + 1 : Nat) : Int) + off = (tgt : Int)) (kt : ¬ x = y → Wx X S tgt lv st) (kf : x = y → Wx X S (pc + 4) lv st) : Wx X S pc lv (.long y :: .long x :: st) := r_lcmp h dl (r_if_ne tgt h dg ht (fun q => kt (fun z => q (lgc_eq.mpr z))) (fun q => kf (lgc_eq.mp q)))
theorem r_lc_ne_t (tgt : Nat) {x y : Int64} {off : Int} (h : Ok X cc own d) (dl : decode cc pc = .ok (.lcmp, 1)) (dg : decode cc (pc + 1) = .ok (.ifCond .ne off, 3)) (ht : ((pc + 1 : Nat) : Int) + off = (tgt : Int)) (q : ¬ x = y) (k : Wx X S tgt lv st) : Wx X S pc lv (.long y :: .long x :: st) := r_lc_ne tgt h dl dg ht (fun _ => k) (fun z => absurd z q)
theorem r_lc_ne_f (tgt : Nat) {x y : Int64} {off : Int} (h : Ok X cc own d) (dl : decode cc pc = .ok (.lcmp, 1)) (dg : decode cc (pc + 1) = .ok (.ifCond .ne off, 3)) (ht : ((pc + 1 : Nat) : Int) + off = (tgt : Int)) (q : x = y) (k : Wx X S (pc + 4) lv st) : Wx X S pc lv (.long y :: .long x :: st) := r_lc_ne tgt h dl dg ht (fun z => absurd q z) (fun _ => k)
theorem r_lc_lt (tgt : Nat) {x y : Int64} {off : Int} (h : Ok X cc own d) (dl : decode cc pc = .ok (.lcmp, 1)) (dg : decode cc (pc + 1) = .ok (.ifCond .lt off, 3)) (ht : ((pc + 1 : Nat) : Int) + off = (tgt : Int)) (kt : x < y → Wx X S tgt lv st) (kf : ¬ x < y → Wx X S (pc + 4) lv st) : Wx X S pc lv (.long y :: .long x :: st) := r_lcmp h dl (r_if_lt tgt h dg ht (fun q => kt (lgc_lt.mp q)) (fun q => kf (fun z => q (lgc_lt.mpr z))))
theorem r_lc_lt_t (tgt : Nat) {x y : Int64} {off : Int} (h : Ok X cc own d) (dl : decode cc pc = .ok (.lcmp, 1)) (dg : decode cc (pc + 1) = .ok (.ifCond .lt off, 3)) (ht : ((pc + 1 : Nat) : Int) + off = (tgt : Int)) (q : x < y) (k : Wx X S tgt lv st) : Wx X S pc lv (.long y :: .long x :: st) := r_lc_lt tgt h dl dg ht (fun _ => k) (fun z => absurd q z)
theorem r_lc_lt_f (tgt : Nat) {x y : Int64} {off : Int} (h : Ok X cc own d) (dl : decode cc pc = .ok (.lcmp, 1)) (dg : decode cc (pc + 1) = .ok (.ifCond .lt off, 3)) (ht : ((pc + 1 : Nat) : Int) + off = (tgt : Int)) (q : ¬ x < y) (k : Wx X S (pc + 4) lv st) : Wx X S pc lv (.long y :: .long x :: st) := r_lc_lt tgt h dl dg ht (fun z => absurd z q) (fun _ => k)
theorem r_lc_ge (tgt : Nat) {x y : Int64} {off : Int} (h : Ok X cc own d) (dl : decode cc pc = .ok (.lcmp, 1)) (dg : decode cc (pc + 1) = .ok (.ifCond .ge off, 3)) (ht : ((pc + 1 : Nat) : Int) + off = (tgt : Int)) (kt : y ≤ x → Wx X S tgt lv st) (kf : ¬ y ≤ x → Wx X S (pc + 4) lv st) : Wx X S pc lv (.long y :: .long x :: st) := r_lcmp h dl (r_if_ge tgt h dg ht (fun q => kt (lgc_ge.mp q)) (fun q => kf (fun z => q (lgc_ge.mpr z))))
theorem r_lc_ge_t (tgt : Nat) {x y : Int64} {off : Int} (h : Ok X cc own d) (dl : decode cc pc = .ok (.lcmp, 1)) (dg : decode cc (pc + 1) = .ok (.ifCond .ge off, 3)) (ht : ((pc + 1 : Nat) : Int) + off = (tgt : Int)) (q : y ≤ x) (k : Wx X S tgt lv st) : Wx X S pc lv (.long y :: .long x :: st) := r_lc_ge tgt h dl dg ht (fun _ => k) (fun z => absurd q z)
theorem r_lc_ge_f (tgt : Nat) {x y : Int64} {off : Int} (h : Ok X cc own d) (dl : decode cc pc = .ok (.lcmp, 1)) (dg : decode cc (pc + 1) = .ok (.ifCond .ge off, 3)) (ht : ((pc + 1 : Nat) : Int) + off = (tgt : Int)) (q : ¬ y ≤ x) (k : Wx X S (pc + 4) lv st) : Wx X S pc lv (.long y :: .long x :: st) := r_lc_ge tgt h dl dg ht (fun z => absurd z q) (fun _ => k)
theorem r_lc_gt (tgt : Nat) {x y : Int64} {off : Int} (h : Ok X cc own d) (dl : decode cc pc = .ok (.lcmp, 1)) (dg : decode cc (pc + 1) = .ok (.ifCond .gt off, 3)) (ht : ((pc + 1 : Nat) : Int) + off = (tgt : Int)) (kt : y < x → Wx X S tgt lv st) (kf : ¬ y < x → Wx X S (pc + 4) lv st) : Wx X S pc lv (.long y :: .long x :: st) := r_lcmp h dl (r_if_gt tgt h dg ht (fun q => kt (lgc_gt.mp q)) (fun q => kf (fun z => q (lgc_gt.mpr z))))
theorem r_lc_gt_t (tgt : Nat) {x y : Int64} {off : Int} (h : Ok X cc own d) (dl : decode cc pc = .ok (.lcmp, 1)) (dg : decode cc (pc + 1) = .ok (.ifCond .gt off, 3)) (ht : ((pc + 1 : Nat) : Int) + off = (tgt : Int)) (q : y < x) (k : Wx X S tgt lv st) : Wx X S pc lv (.long y :: .long x :: st) := r_lc_gt tgt h dl dg ht (fun _ => k) (fun z => absurd q z)
theorem r_lc_gt_f (tgt : Nat) {x y : Int64} {off : Int} (h : Ok X cc own d) (dl : decode cc pc = .ok (.lcmp, 1)) (dg : decode cc (pc + 1) = .ok (.ifCond .gt off, 3)) (ht : ((pc + 1 : Nat) : Int) + off = (tgt : Int)) (q : ¬ y < x) (k : Wx X S (pc + 4) lv st) : Wx X S pc lv (.long y :: .long x :: st) := r_lc_gt tgt h dl dg ht (fun z => absurd z q) (fun _ => k)
theorem r_lc_le (tgt : Nat) {x y : Int64} {off : Int} (h : Ok X cc own d) (dl : decode cc pc = .ok (.lcmp, 1)) (dg : decode cc (pc + 1) = .ok (.ifCond .le off, 3)) (ht : ((pc + 1 : Nat) : Int) + off = (tgt : Int)) (kt : x ≤ y → Wx X S tgt lv st) (kf : ¬ x ≤ y → Wx X S (pc + 4) lv st) : Wx X S pc lv (.long y :: .long x :: st) := r_lcmp h dl (r_if_le tgt h dg ht (fun q => kt (lgc_le.mp q)) (fun q => kf (fun z => q (lgc_le.mpr z))))
theorem r_lc_le_t (tgt : Nat) {x y : Int64} {off : Int} (h : Ok X cc own d) (dl : decode cc pc = .ok (.lcmp, 1)) (dg : decode cc (pc + 1) = .ok (.ifCond .le off, 3)) (ht : ((pc + 1 : Nat) : Int) + off = (tgt : Int)) (q : x ≤ y) (k : Wx X S tgt lv st) : Wx X S pc lv (.long y :: .long x :: st) := r_lc_le tgt h dl dg ht (fun _ => k) (fun z => absurd q z)
theorem r_lc_le_f (tgt : Nat) {x y : Int64} {off : Int} (h : Ok X cc own d) (dl : decode cc pc = .ok (.lcmp, 1)) (dg : decode cc (pc + 1) = .ok (.ifCond .le off, 3)) (ht : ((pc + 1 : Nat) : Int) + off = (tgt : Int)) (q : ¬ x ≤ y) (k : Wx X S (pc + 4) lv st) : Wx X S pc lv (.long y :: .long x :: st) := r_lc_le tgt h dl dg ht (fun z => absurd z q) (fun _ => k)
theorem r_swOut (tgt : Nat) {dflt lo hi : Int} {offs : Array Int} {len : Nat} {x : Int32} (h : Ok X cc own d) (dg : decode cc pc = .ok (.tableswitch dflt lo hi offs, len)) (q : x.toInt < lo ∨ hi < x.toInt) (ht : (pc : Int) + dflt = (tgt : Int)) (k : Wx X S tgt lv st) : Wx X S pc lv (.int x :: st) := fun H locs ls hP hS hl => lv_tableOut h.1 h.2.1 dg q ht (k H locs ls hP hS hl)
theorem r_swIn (tgt : Nat) {dflt lo hi : Int} {offs : Array Int} {len : Nat} {x : Int32} {off : Int} (h : Ok X cc own d) (dg : decode cc pc = .ok (.tableswitch dflt lo hi offs, len)) (h1 : ¬ x.toInt < lo) (h2 : ¬ hi < x.toInt) (ho : offs[(x.toInt - lo).toNat]? = some off) (ht : (pc : Int) + off = (tgt : Int)) (k : Wx X S tgt lv st) : Wx X S pc lv (.int x :: st) := fun H locs ls hP hS hl => lv_tableIn h.1 h.2.1 dg h1 h2 ho ht (k H locs ls hP hS hl)
theorem r_look (tgt : Nat) {dflt : Int} {ps : Array (Int × Int)} {len : Nat} {x : Int32} {off : Int} (h : Ok X cc own d) (dg : decode cc pc = .ok (.lookupswitch dflt ps, len)) (hp : (ps.toList.zip (ps.toList.drop 1)).all (fun (a, next) => a.1 < next.1) = true) (ho : Op.lookupswitch.offset ps.toList dflt x.toInt = off) (ht : (pc : Int) + off = (tgt : Int)) (k : Wx X S tgt lv st) : Wx X S pc lv (.int x :: st) := fun H locs ls hP hS hl => lv_lookup h.1 h.2.1 dg hp ho ht (k H locs ls hP hS hl)
theorem r_get {ref C : String} {T : u_T} {N ci index a : Nat} {fs : List Value} {v : Value} (h : Ok X cc own d) (q0 : Nat) (he : (wS (xw X) S)[q0]? = some (a, .inr (ci, fs))) (hc : vwCl[ci]? = some (C, T, N)) (hin : ∀ w ∈ u_ws C T N, w ∈ tb) (i : Nat) (hi : i < N) (hlink : Cond.fieldLink own index ref (T i).2.1 (T i).2.2.1 ∈ tb) (hr : (T i).1 = ref) (hv : fs[i]? = some v) (dg : decode cc pc = .ok (.getfield index, 3)) (k : Wx X S (pc + 3) lv (v :: st)) : Wx X S pc lv (.ref a :: st) := fun H locs ls hP hS hl => va_get h.1 h.2.1 h.2.2.2.2.1 hin h.2.2.2.1 h.2.2.2.2.2.2.1.1 hP q0 he hc i hi (h.2.2.2.2.1 _ hlink) (fun _ z => hr ▸ z) hv dg (k H locs ls hP hS hl)
theorem r_put {ref C : String} {T : u_T} {N ci index a : Nat} {fs : List Value} {v : Value} {ty : FieldType} (S' : St) (h : Ok X cc own d) (q0 : Nat) (he : (wS (xw X) S)[q0]? = some (a, .inr (ci, fs))) (hc : vwCl[ci]? = some (C, T, N)) (hin : ∀ w ∈ u_ws C T N, w ∈ tb) (ty0 : Nat → FieldType) (hty : ∀ k, k < N → parseFieldDescriptor (T k).2.2.1 = some (ty0 k)) (hnm : ∀ a, a < N → ∀ b, b < N → a ≠ b → (T a).2.1 ≠ (T b).2.1) (i : Nat) (hi : i < N) (hlink : Cond.fieldLink own index ref (T i).2.1 (T i).2.2.1 ∈ tb) (hr : (T i).1 = ref) (hfin : (T i).2.2.2 = false) (hd : parseFieldDescriptor (T i).2.2.1 = some ty) (hn : narrow ty v = v) (hfit : fits ty v = true) (hl0 : i < fs.length) (hset : (wS (xw X) S).set q0 (a, .inr (ci, fs.set i v)) = wS (xw X) S') (dg : decode cc pc = .ok (.putfield index, 3)) (k : Wx X S' (pc + 3) lv st) : Wx X S pc lv (v :: .ref a :: st) := fun H locs ls hP hS hl => va_put h.1 h.2.1 h.2.2.2.2.1 hin ty0 hty hnm h.2.2.2.1 h.2.2.2.2.2.2.1.1 hP (h.2.2.2.2.2.2.1.2.2.2.2 S) hS q0 he hc i hi (h.2.2.2.2.1 _ hlink) (fun _ z => hr ▸ z) hfin hd hn hfit hl0 dg (fun H1 locs1 hP1 _ hS1 => k H1 locs1 ls (hset ▸ hP1) hS1 hl)
end
theorem inT0 : ∀ w ∈ wsX00, w ∈ tb := by decide +kernel
theorem inT1 : ∀ w ∈ wsX10, w ∈ tb := by decide +kernel
theorem inT2 : ∀ w ∈ wsX20, w ∈ tb := by decide +kernel
theorem inT3 : ∀ w ∈ wsX30, w ∈ tb := by decide +kernel
theorem inT4 : ∀ w ∈ wsX40, w ∈ tb := by decide +kernel
theorem inT5 : ∀ w ∈ wsX50, w ∈ tb := by decide +kernel
theorem inT6 : ∀ w ∈ wsX60, w ∈ tb := by decide +kernel
theorem inT7 : ∀ w ∈ wsX70, w ∈ tb := by decide +kernel
section
variable {X : Fr} {cc : ByteArray} {own : String} {d : Nat} {S : St} {pc : Nat} {lv st : List Value} {index : Nat}
theorem g0_0 (h : Ok X cc own d) (hlink : Cond.fieldLink own index "FarSums" "points" "LFarSums$Points;" ∈ tb) (dg : decode cc pc = .ok (.getfield index, 3)) (k : Wx X S (pc + 3) lv (.ref (aD (xw X) 1) :: st)) : Wx X S pc lv (.ref (aD (xw X) 0) :: st) := r_get h 0 (pl_0 _ _) rfl inT6 0 (by decide) hlink rfl rfl dg k
theorem g0_1 (h : Ok X cc own d) (hlink : Cond.fieldLink own index "FarSums" "boxes" "LFarSums$Boxes;" ∈ tb) (dg : decode cc pc = .ok (.getfield index, 3)) (k : Wx X S (pc + 3) lv (.ref (aD (xw X) 8) :: st)) : Wx X S pc lv (.ref (aD (xw X) 0) :: st) := r_get h 0 (pl_0 _ _) rfl inT6 1 (by decide) hlink rfl rfl dg k
theorem g0_2 (h : Ok X cc own d) (hlink : Cond.fieldLink own index "FarSums" "factors" "LFarSums$Polynomial;" ∈ tb) (dg : decode cc pc = .ok (.getfield index, 3)) (k : Wx X S (pc + 3) lv (.ref (aD (xw X) 11) :: st)) : Wx X S pc lv (.ref (aD (xw X) 0) :: st) := r_get h 0 (pl_0 _ _) rfl inT6 2 (by decide) hlink rfl rfl dg k
theorem g0_3 (h : Ok X cc own d) (hlink : Cond.fieldLink own index "FarSums" "series" "LFarSums$Series;" ∈ tb) (dg : decode cc pc = .ok (.getfield index, 3)) (k : Wx X S (pc + 3) lv (.ref (aD (xw X) 13) :: st)) : Wx X S pc lv (.ref (aD (xw X) 0) :: st) := r_get h 0 (pl_0 _ _) rfl inT6 3 (by decide) hlink rfl rfl dg k
theorem g0_4 (h : Ok X cc own d) (hlink : Cond.fieldLink own index "FarSums" "trail" "LFarSums$Trail;" ∈ tb) (dg : decode cc pc = .ok (.getfield index, 3)) (k : Wx X S (pc + 3) lv (.ref (aD (xw X) 16) :: st)) : Wx X S pc lv (.ref (aD (xw X) 0) :: st) := r_get h 0 (pl_0 _ _) rfl inT6 4 (by decide) hlink rfl rfl dg k
theorem g0_5 (h : Ok X cc own d) (hlink : Cond.fieldLink own index "FarSums" "motion" "LFarSums$Motion;" ∈ tb) (dg : decode cc pc = .ok (.getfield index, 3)) (k : Wx X S (pc + 3) lv (.ref (aD (xw X) 20) :: st)) : Wx X S pc lv (.ref (aD (xw X) 0) :: st) := r_get h 0 (pl_0 _ _) rfl inT6 5 (by decide) hlink rfl rfl dg k
theorem g1_0 (h : Ok X cc own d) (hlink : Cond.fieldLink own index "FarSums$Points" "here" "[Z" ∈ tb) (dg : decode cc pc = .ok (.getfield index, 3)) (k : Wx X S (pc + 3) lv (.ref (aD (xw X) 2) :: st)) : Wx X S pc lv (.ref (aD (xw X) 1) :: st) := r_get h 1 (pl_1 _ _) rfl inT2 0 (by decide) hlink rfl rfl dg k
theorem g1_1 (h : Ok X cc own d) (hlink : Cond.fieldLink own index "FarSums$Points" "x" "[I" ∈ tb) (dg : decode cc pc = .ok (.getfield index, 3)) (k : Wx X S (pc + 3) lv (.ref (aD (xw X) 3) :: st)) : Wx X S pc lv (.ref (aD (xw X) 1) :: st) := r_get h 1 (pl_1 _ _) rfl inT2 1 (by decide) hlink rfl rfl dg k
theorem g1_2 (h : Ok X cc own d) (hlink : Cond.fieldLink own index "FarSums$Points" "y" "[I" ∈ tb) (dg : decode cc pc = .ok (.getfield index, 3)) (k : Wx X S (pc + 3) lv (.ref (aD (xw X) 4) :: st)) : Wx X S pc lv (.ref (aD (xw X) 1) :: st) := r_get h 1 (pl_1 _ _) rfl inT2 2 (by decide) hlink rfl rfl dg k
theorem g1_3 (h : Ok X cc own d) (hlink : Cond.fieldLink own index "FarSums$Points" "weight" "[I" ∈ tb) (dg : decode cc pc = .ok (.getfield index, 3)) (k : Wx X S (pc + 3) lv (.ref (aD (xw X) 5) :: st)) : Wx X S pc lv (.ref (aD (xw X) 1) :: st) := r_get h 1 (pl_1 _ _) rfl inT2 3 (by decide) hlink rfl rfl dg k
theorem g1_4 (h : Ok X cc own d) (hlink : Cond.fieldLink own index "FarSums$Points" "paceX" "[I" ∈ tb) (dg : decode cc pc = .ok (.getfield index, 3)) (k : Wx X S (pc + 3) lv (.ref (aD (xw X) 6) :: st)) : Wx X S pc lv (.ref (aD (xw X) 1) :: st) := r_get h 1 (pl_1 _ _) rfl inT2 4 (by decide) hlink rfl rfl dg k
theorem g1_5 (h : Ok X cc own d) (hlink : Cond.fieldLink own index "FarSums$Points" "paceY" "[I" ∈ tb) (dg : decode cc pc = .ok (.getfield index, 3)) (k : Wx X S (pc + 3) lv (.ref (aD (xw X) 7) :: st)) : Wx X S pc lv (.ref (aD (xw X) 1) :: st) := r_get h 1 (pl_1 _ _) rfl inT2 5 (by decide) hlink rfl rfl dg k
theorem g1_6 (h : Ok X cc own d) (hlink : Cond.fieldLink own index "FarSums$Points" "number" "I" ∈ tb) (dg : decode cc pc = .ok (.getfield index, 3)) (k : Wx X S (pc + 3) lv (.int (S.1 6 0) :: st)) : Wx X S pc lv (.ref (aD (xw X) 1) :: st) := r_get h 1 (pl_1 _ _) rfl inT2 6 (by decide) hlink rfl rfl dg k
theorem p1_6 {v : Int32} (h : Ok X cc own d) (hlink : Cond.fieldLink own index "FarSums$Points" "number" "I" ∈ tb) (dg : decode cc pc = .ok (.putfield index, 3)) (k : Wx X (sI S 6 0 v) (pc + 3) lv st) : Wx X S pc lv (.int v :: .ref (aD (xw X) 1) :: st) := r_put (ty := .int) (sI S 6 0 v) h 1 (pl_1 _ _) rfl inT2 tyX2 tyX2_ok nmX2 6 (by decide) hlink rfl rfl (by decide +kernel) rfl rfl (Nat.le_of_ble_eq_true rfl) rfl dg k
theorem g8_0 (h : Ok X cc own d) (hlink : Cond.fieldLink own index "FarSums$Boxes" "points" "LFarSums$Points;" ∈ tb) (dg : decode cc pc = .ok (.getfield index, 3)) (k : Wx X S (pc + 3) lv (.ref (aD (xw X) 1) :: st)) : Wx X S pc lv (.ref (aD (xw X) 8) :: st) := r_get h 8 (pl_8 _ _) rfl inT0 0 (by decide) hlink rfl rfl dg k
theorem g8_1 (h : Ok X cc own d) (hlink : Cond.fieldLink own index "FarSums$Boxes" "tally" "[I" ∈ tb) (dg : decode cc pc = .ok (.getfield index, 3)) (k : Wx X S (pc + 3) lv (.ref (aD (xw X) 9) :: st)) : Wx X S pc lv (.ref (aD (xw X) 8) :: st) := r_get h 8 (pl_8 _ _) rfl inT0 1 (by decide) hlink rfl rfl dg k
theorem g8_2 (h : Ok X cc own d) (hlink : Cond.fieldLink own index "FarSums$Boxes" "room" "I" ∈ tb) (dg : decode cc pc = .ok (.getfield index, 3)) (k : Wx X S (pc + 3) lv (.int (S.1 8 0) :: st)) : Wx X S pc lv (.ref (aD (xw X) 8) :: st) := r_get h 8 (pl_8 _ _) rfl inT0 2 (by decide) hlink rfl rfl dg k
theorem p8_2 {v : Int32} (h : Ok X cc own d) (hlink : Cond.fieldLink own index "FarSums$Boxes" "room" "I" ∈ tb) (dg : decode cc pc = .ok (.putfield index, 3)) (k : Wx X (sI S 8 0 v) (pc + 3) lv st) : Wx X S pc lv (.int v :: .ref (aD (xw X) 8) :: st) := r_put (ty := .int) (sI S 8 0 v) h 8 (pl_8 _ _) rfl inT0 tyX0 tyX0_ok nmX0 2 (by decide) hlink rfl rfl (by decide +kernel) rfl rfl (Nat.le_of_ble_eq_true rfl) rfl dg k
theorem g8_3 (h : Ok X cc own d) (hlink : Cond.fieldLink own index "FarSums$Boxes" "moments" "[J" ∈ tb) (dg : decode cc pc = .ok (.getfield index, 3)) (k : Wx X S (pc + 3) lv (.ref (aD (xw X) 10) :: st)) : Wx X S pc lv (.ref (aD (xw X) 8) :: st) := r_get h 8 (pl_8 _ _) rfl inT0 3 (by decide) hlink rfl rfl dg k
theorem g8_4 (h : Ok X cc own d) (hlink : Cond.fieldLink own index "FarSums$Boxes" "bulk" "I" ∈ tb) (dg : decode cc pc = .ok (.getfield index, 3)) (k : Wx X S (pc + 3) lv (.int (S.1 9 0) :: st)) : Wx X S pc lv (.ref (aD (xw X) 8) :: st) := r_get h 8 (pl_8 _ _) rfl inT0 4 (by decide) hlink rfl rfl dg k
theorem p8_4 {v : Int32} (h : Ok X cc own d) (hlink : Cond.fieldLink own index "FarSums$Boxes" "bulk" "I" ∈ tb) (dg : decode cc pc = .ok (.putfield index, 3)) (k : Wx X (sI S 9 0 v) (pc + 3) lv st) : Wx X S pc lv (.int v :: .ref (aD (xw X) 8) :: st) := r_put (ty := .int) (sI S 9 0 v) h 8 (pl_8 _ _) rfl inT0 tyX0 tyX0_ok nmX0 4 (by decide) hlink rfl rfl (by decide +kernel) rfl rfl (Nat.le_of_ble_eq_true rfl) rfl dg k
theorem g11_0 (h : Ok X cc own d) (hlink : Cond.fieldLink own index "FarSums$Polynomial" "numbers" "[J" ∈ tb) (dg : decode cc pc = .ok (.getfield index, 3)) (k : Wx X S (pc + 3) lv (.ref (aD (xw X) 12) :: st)) : Wx X S pc lv (.ref (aD (xw X) 11) :: st) := r_get h 11 (pl_11 _ _) rfl inT3 0 (by decide) hlink rfl rfl dg k
theorem g13_0 (h : Ok X cc own d) (hlink : Cond.fieldLink own index "FarSums$Series" "factors" "LFarSums$Polynomial;" ∈ tb) (dg : decode cc pc = .ok (.getfield index, 3)) (k : Wx X S (pc + 3) lv (.ref (aD (xw X) 11) :: st)) : Wx X S pc lv (.ref (aD (xw X) 13) :: st) := r_get h 13 (pl_13 _ _) rfl inT4 0 (by decide) hlink rfl rfl dg k
theorem g13_1 (h : Ok X cc own d) (hlink : Cond.fieldLink own index "FarSums$Series" "result" "LFarSums$Polynomial;" ∈ tb) (dg : decode cc pc = .ok (.getfield index, 3)) (k : Wx X S (pc + 3) lv (.ref (aD (xw X) 14) :: st)) : Wx X S pc lv (.ref (aD (xw X) 13) :: st) := r_get h 13 (pl_13 _ _) rfl inT4 1 (by decide) hlink rfl rfl dg k
theorem g14_0 (h : Ok X cc own d) (hlink : Cond.fieldLink own index "FarSums$Polynomial" "numbers" "[J" ∈ tb) (dg : decode cc pc = .ok (.getfield index, 3)) (k : Wx X S (pc + 3) lv (.ref (aD (xw X) 15) :: st)) : Wx X S pc lv (.ref (aD (xw X) 14) :: st) := r_get h 14 (pl_14 _ _) rfl inT3 0 (by decide) hlink rfl rfl dg k
theorem g16_0 (h : Ok X cc own d) (hlink : Cond.fieldLink own index "FarSums$Trail" "points" "LFarSums$Points;" ∈ tb) (dg : decode cc pc = .ok (.getfield index, 3)) (k : Wx X S (pc + 3) lv (.ref (aD (xw X) 1) :: st)) : Wx X S pc lv (.ref (aD (xw X) 16) :: st) := r_get h 16 (pl_16 _ _) rfl inT5 0 (by decide) hlink rfl rfl dg k
theorem g16_1 (h : Ok X cc own d) (hlink : Cond.fieldLink own index "FarSums$Trail" "boxes" "LFarSums$Boxes;" ∈ tb) (dg : decode cc pc = .ok (.getfield index, 3)) (k : Wx X S (pc + 3) lv (.ref (aD (xw X) 8) :: st)) : Wx X S pc lv (.ref (aD (xw X) 16) :: st) := r_get h 16 (pl_16 _ _) rfl inT5 1 (by decide) hlink rfl rfl dg k
theorem g16_2 (h : Ok X cc own d) (hlink : Cond.fieldLink own index "FarSums$Trail" "level" "[I" ∈ tb) (dg : decode cc pc = .ok (.getfield index, 3)) (k : Wx X S (pc + 3) lv (.ref (aD (xw X) 17) :: st)) : Wx X S pc lv (.ref (aD (xw X) 16) :: st) := r_get h 16 (pl_16 _ _) rfl inT5 2 (by decide) hlink rfl rfl dg k
theorem g16_3 (h : Ok X cc own d) (hlink : Cond.fieldLink own index "FarSums$Trail" "first" "[I" ∈ tb) (dg : decode cc pc = .ok (.getfield index, 3)) (k : Wx X S (pc + 3) lv (.ref (aD (xw X) 18) :: st)) : Wx X S pc lv (.ref (aD (xw X) 16) :: st) := r_get h 16 (pl_16 _ _) rfl inT5 3 (by decide) hlink rfl rfl dg k
theorem g16_4 (h : Ok X cc own d) (hlink : Cond.fieldLink own index "FarSums$Trail" "second" "[I" ∈ tb) (dg : decode cc pc = .ok (.getfield index, 3)) (k : Wx X S (pc + 3) lv (.ref (aD (xw X) 19) :: st)) : Wx X S pc lv (.ref (aD (xw X) 16) :: st) := r_get h 16 (pl_16 _ _) rfl inT5 4 (by decide) hlink rfl rfl dg k
theorem g16_5 (h : Ok X cc own d) (hlink : Cond.fieldLink own index "FarSums$Trail" "length" "I" ∈ tb) (dg : decode cc pc = .ok (.getfield index, 3)) (k : Wx X S (pc + 3) lv (.int (S.1 13 0) :: st)) : Wx X S pc lv (.ref (aD (xw X) 16) :: st) := r_get h 16 (pl_16 _ _) rfl inT5 5 (by decide) hlink rfl rfl dg k
theorem p16_5 {v : Int32} (h : Ok X cc own d) (hlink : Cond.fieldLink own index "FarSums$Trail" "length" "I" ∈ tb) (dg : decode cc pc = .ok (.putfield index, 3)) (k : Wx X (sI S 13 0 v) (pc + 3) lv st) : Wx X S pc lv (.int v :: .ref (aD (xw X) 16) :: st) := r_put (ty := .int) (sI S 13 0 v) h 16 (pl_16 _ _) rfl inT5 tyX5 tyX5_ok nmX5 5 (by decide) hlink rfl rfl (by decide +kernel) rfl rfl (Nat.le_of_ble_eq_true rfl) rfl dg k
theorem g16_6 (h : Ok X cc own d) (hlink : Cond.fieldLink own index "FarSums$Trail" "placeX" "I" ∈ tb) (dg : decode cc pc = .ok (.getfield index, 3)) (k : Wx X S (pc + 3) lv (.int (S.1 14 0) :: st)) : Wx X S pc lv (.ref (aD (xw X) 16) :: st) := r_get h 16 (pl_16 _ _) rfl inT5 6 (by decide) hlink rfl rfl dg k
theorem p16_6 {v : Int32} (h : Ok X cc own d) (hlink : Cond.fieldLink own index "FarSums$Trail" "placeX" "I" ∈ tb) (dg : decode cc pc = .ok (.putfield index, 3)) (k : Wx X (sI S 14 0 v) (pc + 3) lv st) : Wx X S pc lv (.int v :: .ref (aD (xw X) 16) :: st) := r_put (ty := .int) (sI S 14 0 v) h 16 (pl_16 _ _) rfl inT5 tyX5 tyX5_ok nmX5 6 (by decide) hlink rfl rfl (by decide +kernel) rfl rfl (Nat.le_of_ble_eq_true rfl) rfl dg k
theorem g16_7 (h : Ok X cc own d) (hlink : Cond.fieldLink own index "FarSums$Trail" "placeY" "I" ∈ tb) (dg : decode cc pc = .ok (.getfield index, 3)) (k : Wx X S (pc + 3) lv (.int (S.1 15 0) :: st)) : Wx X S pc lv (.ref (aD (xw X) 16) :: st) := r_get h 16 (pl_16 _ _) rfl inT5 7 (by decide) hlink rfl rfl dg k
theorem p16_7 {v : Int32} (h : Ok X cc own d) (hlink : Cond.fieldLink own index "FarSums$Trail" "placeY" "I" ∈ tb) (dg : decode cc pc = .ok (.putfield index, 3)) (k : Wx X (sI S 15 0 v) (pc + 3) lv st) : Wx X S pc lv (.int v :: .ref (aD (xw X) 16) :: st) := r_put (ty := .int) (sI S 15 0 v) h 16 (pl_16 _ _) rfl inT5 tyX5 tyX5_ok nmX5 7 (by decide) hlink rfl rfl (by decide +kernel) rfl rfl (Nat.le_of_ble_eq_true rfl) rfl dg k
theorem g16_8 (h : Ok X cc own d) (hlink : Cond.fieldLink own index "FarSums$Trail" "distance" "I" ∈ tb) (dg : decode cc pc = .ok (.getfield index, 3)) (k : Wx X S (pc + 3) lv (.int (S.1 16 0) :: st)) : Wx X S pc lv (.ref (aD (xw X) 16) :: st) := r_get h 16 (pl_16 _ _) rfl inT5 8 (by decide) hlink rfl rfl dg k
theorem p16_8 {v : Int32} (h : Ok X cc own d) (hlink : Cond.fieldLink own index "FarSums$Trail" "distance" "I" ∈ tb) (dg : decode cc pc = .ok (.putfield index, 3)) (k : Wx X (sI S 16 0 v) (pc + 3) lv st) : Wx X S pc lv (.int v :: .ref (aD (xw X) 16) :: st) := r_put (ty := .int) (sI S 16 0 v) h 16 (pl_16 _ _) rfl inT5 tyX5 tyX5_ok nmX5 8 (by decide) hlink rfl rfl (by decide +kernel) rfl rfl (Nat.le_of_ble_eq_true rfl) rfl dg k
theorem g20_0 (h : Ok X cc own d) (hlink : Cond.fieldLink own index "FarSums$Motion" "points" "LFarSums$Points;" ∈ tb) (dg : decode cc pc = .ok (.getfield index, 3)) (k : Wx X S (pc + 3) lv (.ref (aD (xw X) 1) :: st)) : Wx X S pc lv (.ref (aD (xw X) 20) :: st) := r_get h 20 (pl_20 _ _) rfl inT1 0 (by decide) hlink rfl rfl dg k
theorem g20_1 (h : Ok X cc own d) (hlink : Cond.fieldLink own index "FarSums$Motion" "boxes" "LFarSums$Boxes;" ∈ tb) (dg : decode cc pc = .ok (.getfield index, 3)) (k : Wx X S (pc + 3) lv (.ref (aD (xw X) 8) :: st)) : Wx X S pc lv (.ref (aD (xw X) 20) :: st) := r_get h 20 (pl_20 _ _) rfl inT1 1 (by decide) hlink rfl rfl dg k
theorem g20_2 (h : Ok X cc own d) (hlink : Cond.fieldLink own index "FarSums$Motion" "series" "LFarSums$Series;" ∈ tb) (dg : decode cc pc = .ok (.getfield index, 3)) (k : Wx X S (pc + 3) lv (.ref (aD (xw X) 13) :: st)) : Wx X S pc lv (.ref (aD (xw X) 20) :: st) := r_get h 20 (pl_20 _ _) rfl inT1 2 (by decide) hlink rfl rfl dg k
theorem g20_3 (h : Ok X cc own d) (hlink : Cond.fieldLink own index "FarSums$Motion" "pushX" "[I" ∈ tb) (dg : decode cc pc = .ok (.getfield index, 3)) (k : Wx X S (pc + 3) lv (.ref (aD (xw X) 21) :: st)) : Wx X S pc lv (.ref (aD (xw X) 20) :: st) := r_get h 20 (pl_20 _ _) rfl inT1 3 (by decide) hlink rfl rfl dg k
theorem g20_4 (h : Ok X cc own d) (hlink : Cond.fieldLink own index "FarSums$Motion" "pushY" "[I" ∈ tb) (dg : decode cc pc = .ok (.getfield index, 3)) (k : Wx X S (pc + 3) lv (.ref (aD (xw X) 22) :: st)) : Wx X S pc lv (.ref (aD (xw X) 20) :: st) := r_get h 20 (pl_20 _ _) rfl inT1 4 (by decide) hlink rfl rfl dg k
theorem g20_5 (h : Ok X cc own d) (hlink : Cond.fieldLink own index "FarSums$Motion" "steps" "I" ∈ tb) (dg : decode cc pc = .ok (.getfield index, 3)) (k : Wx X S (pc + 3) lv (.int (S.1 19 0) :: st)) : Wx X S pc lv (.ref (aD (xw X) 20) :: st) := r_get h 20 (pl_20 _ _) rfl inT1 5 (by decide) hlink rfl rfl dg k
theorem p20_5 {v : Int32} (h : Ok X cc own d) (hlink : Cond.fieldLink own index "FarSums$Motion" "steps" "I" ∈ tb) (dg : decode cc pc = .ok (.putfield index, 3)) (k : Wx X (sI S 19 0 v) (pc + 3) lv st) : Wx X S pc lv (.int v :: .ref (aD (xw X) 20) :: st) := r_put (ty := .int) (sI S 19 0 v) h 20 (pl_20 _ _) rfl inT1 tyX1 tyX1_ok nmX1 5 (by decide) hlink rfl rfl (by decide +kernel) rfl rfl (Nat.le_of_ble_eq_true rfl) rfl dg k
theorem g23_0 (h : Ok X cc own d) (hlink : Cond.fieldLink own index "FarSumsModel" "there" "[Z" ∈ tb) (dg : decode cc pc = .ok (.getfield index, 3)) (k : Wx X S (pc + 3) lv (.ref (aD (xw X) 24) :: st)) : Wx X S pc lv (.ref (aD (xw X) 23) :: st) := r_get h 23 (pl_23 _ _) rfl inT7 0 (by decide) hlink rfl rfl dg k
theorem g23_1 (h : Ok X cc own d) (hlink : Cond.fieldLink own index "FarSumsModel" "px" "[I" ∈ tb) (dg : decode cc pc = .ok (.getfield index, 3)) (k : Wx X S (pc + 3) lv (.ref (aD (xw X) 25) :: st)) : Wx X S pc lv (.ref (aD (xw X) 23) :: st) := r_get h 23 (pl_23 _ _) rfl inT7 1 (by decide) hlink rfl rfl dg k
theorem g23_2 (h : Ok X cc own d) (hlink : Cond.fieldLink own index "FarSumsModel" "py" "[I" ∈ tb) (dg : decode cc pc = .ok (.getfield index, 3)) (k : Wx X S (pc + 3) lv (.ref (aD (xw X) 26) :: st)) : Wx X S pc lv (.ref (aD (xw X) 23) :: st) := r_get h 23 (pl_23 _ _) rfl inT7 2 (by decide) hlink rfl rfl dg k
theorem g23_3 (h : Ok X cc own d) (hlink : Cond.fieldLink own index "FarSumsModel" "weight" "[I" ∈ tb) (dg : decode cc pc = .ok (.getfield index, 3)) (k : Wx X S (pc + 3) lv (.ref (aD (xw X) 27) :: st)) : Wx X S pc lv (.ref (aD (xw X) 23) :: st) := r_get h 23 (pl_23 _ _) rfl inT7 3 (by decide) hlink rfl rfl dg k
theorem g23_4 (h : Ok X cc own d) (hlink : Cond.fieldLink own index "FarSumsModel" "vx" "[I" ∈ tb) (dg : decode cc pc = .ok (.getfield index, 3)) (k : Wx X S (pc + 3) lv (.ref (aD (xw X) 28) :: st)) : Wx X S pc lv (.ref (aD (xw X) 23) :: st) := r_get h 23 (pl_23 _ _) rfl inT7 4 (by decide) hlink rfl rfl dg k
theorem g23_5 (h : Ok X cc own d) (hlink : Cond.fieldLink own index "FarSumsModel" "vy" "[I" ∈ tb) (dg : decode cc pc = .ok (.getfield index, 3)) (k : Wx X S (pc + 3) lv (.ref (aD (xw X) 29) :: st)) : Wx X S pc lv (.ref (aD (xw X) 23) :: st) := r_get h 23 (pl_23 _ _) rfl inT7 5 (by decide) hlink rfl rfl dg k
theorem g23_6 (h : Ok X cc own d) (hlink : Cond.fieldLink own index "FarSumsModel" "kernel" "[I" ∈ tb) (dg : decode cc pc = .ok (.getfield index, 3)) (k : Wx X S (pc + 3) lv (.ref (aD (xw X) 30) :: st)) : Wx X S pc lv (.ref (aD (xw X) 23) :: st) := r_get h 23 (pl_23 _ _) rfl inT7 6 (by decide) hlink rfl rfl dg k
theorem g23_7 (h : Ok X cc own d) (hlink : Cond.fieldLink own index "FarSumsModel" "most" "I" ∈ tb) (dg : decode cc pc = .ok (.getfield index, 3)) (k : Wx X S (pc + 3) lv (.int (S.1 27 0) :: st)) : Wx X S pc lv (.ref (aD (xw X) 23) :: st) := r_get h 23 (pl_23 _ _) rfl inT7 7 (by decide) hlink rfl rfl dg k
theorem p23_7 {v : Int32} (h : Ok X cc own d) (hlink : Cond.fieldLink own index "FarSumsModel" "most" "I" ∈ tb) (dg : decode cc pc = .ok (.putfield index, 3)) (k : Wx X (sI S 27 0 v) (pc + 3) lv st) : Wx X S pc lv (.int v :: .ref (aD (xw X) 23) :: st) := r_put (ty := .int) (sI S 27 0 v) h 23 (pl_23 _ _) rfl inT7 tyX7 tyX7_ok nmX7 7 (by decide) hlink rfl rfl (by decide +kernel) rfl rfl (Nat.le_of_ble_eq_true rfl) rfl dg k
theorem g23_8 (h : Ok X cc own d) (hlink : Cond.fieldLink own index "FarSumsModel" "steps" "I" ∈ tb) (dg : decode cc pc = .ok (.getfield index, 3)) (k : Wx X S (pc + 3) lv (.int (S.1 28 0) :: st)) : Wx X S pc lv (.ref (aD (xw X) 23) :: st) := r_get h 23 (pl_23 _ _) rfl inT7 8 (by decide) hlink rfl rfl dg k
theorem p23_8 {v : Int32} (h : Ok X cc own d) (hlink : Cond.fieldLink own index "FarSumsModel" "steps" "I" ∈ tb) (dg : decode cc pc = .ok (.putfield index, 3)) (k : Wx X (sI S 28 0 v) (pc + 3) lv st) : Wx X S pc lv (.int v :: .ref (aD (xw X) 23) :: st) := r_put (ty := .int) (sI S 28 0 v) h 23 (pl_23 _ _) rfl inT7 tyX7 tyX7_ok nmX7 8 (by decide) hlink rfl rfl (by decide +kernel) rfl rfl (Nat.le_of_ble_eq_true rfl) rfl dg k
theorem g23_9 (h : Ok X cc own d) (hlink : Cond.fieldLink own index "FarSumsModel" "stackLevel" "[I" ∈ tb) (dg : decode cc pc = .ok (.getfield index, 3)) (k : Wx X S (pc + 3) lv (.ref (aD (xw X) 31) :: st)) : Wx X S pc lv (.ref (aD (xw X) 23) :: st) := r_get h 23 (pl_23 _ _) rfl inT7 9 (by decide) hlink rfl rfl dg k
theorem g23_10 (h : Ok X cc own d) (hlink : Cond.fieldLink own index "FarSumsModel" "stackI" "[I" ∈ tb) (dg : decode cc pc = .ok (.getfield index, 3)) (k : Wx X S (pc + 3) lv (.ref (aD (xw X) 32) :: st)) : Wx X S pc lv (.ref (aD (xw X) 23) :: st) := r_get h 23 (pl_23 _ _) rfl inT7 10 (by decide) hlink rfl rfl dg k
theorem g23_11 (h : Ok X cc own d) (hlink : Cond.fieldLink own index "FarSumsModel" "stackJ" "[I" ∈ tb) (dg : decode cc pc = .ok (.getfield index, 3)) (k : Wx X S (pc + 3) lv (.ref (aD (xw X) 33) :: st)) : Wx X S pc lv (.ref (aD (xw X) 23) :: st) := r_get h 23 (pl_23 _ _) rfl inT7 11 (by decide) hlink rfl rfl dg k
theorem g23_12 (h : Ok X cc own d) (hlink : Cond.fieldLink own index "FarSumsModel" "wayLevel" "[I" ∈ tb) (dg : decode cc pc = .ok (.getfield index, 3)) (k : Wx X S (pc + 3) lv (.ref (aD (xw X) 34) :: st)) : Wx X S pc lv (.ref (aD (xw X) 23) :: st) := r_get h 23 (pl_23 _ _) rfl inT7 12 (by decide) hlink rfl rfl dg k
theorem g23_13 (h : Ok X cc own d) (hlink : Cond.fieldLink own index "FarSumsModel" "wayI" "[I" ∈ tb) (dg : decode cc pc = .ok (.getfield index, 3)) (k : Wx X S (pc + 3) lv (.ref (aD (xw X) 35) :: st)) : Wx X S pc lv (.ref (aD (xw X) 23) :: st) := r_get h 23 (pl_23 _ _) rfl inT7 13 (by decide) hlink rfl rfl dg k
theorem g23_14 (h : Ok X cc own d) (hlink : Cond.fieldLink own index "FarSumsModel" "wayJ" "[I" ∈ tb) (dg : decode cc pc = .ok (.getfield index, 3)) (k : Wx X S (pc + 3) lv (.ref (aD (xw X) 36) :: st)) : Wx X S pc lv (.ref (aD (xw X) 23) :: st) := r_get h 23 (pl_23 _ _) rfl inT7 14 (by decide) hlink rfl rfl dg k
theorem g23_15 (h : Ok X cc own d) (hlink : Cond.fieldLink own index "FarSumsModel" "wayMany" "I" ∈ tb) (dg : decode cc pc = .ok (.getfield index, 3)) (k : Wx X S (pc + 3) lv (.int (S.1 35 0) :: st)) : Wx X S pc lv (.ref (aD (xw X) 23) :: st) := r_get h 23 (pl_23 _ _) rfl inT7 15 (by decide) hlink rfl rfl dg k
theorem p23_15 {v : Int32} (h : Ok X cc own d) (hlink : Cond.fieldLink own index "FarSumsModel" "wayMany" "I" ∈ tb) (dg : decode cc pc = .ok (.putfield index, 3)) (k : Wx X (sI S 35 0 v) (pc + 3) lv st) : Wx X S pc lv (.int v :: .ref (aD (xw X) 23) :: st) := r_put (ty := .int) (sI S 35 0 v) h 23 (pl_23 _ _) rfl inT7 tyX7 tyX7_ok nmX7 15 (by decide) hlink rfl rfl (by decide +kernel) rfl rfl (Nat.le_of_ble_eq_true rfl) rfl dg k
theorem g23_16 (h : Ok X cc own d) (hlink : Cond.fieldLink own index "FarSumsModel" "about" "J" ∈ tb) (dg : decode cc pc = .ok (.getfield index, 3)) (k : Wx X S (pc + 3) lv (.long (S.2 3 0) :: st)) : Wx X S pc lv (.ref (aD (xw X) 23) :: st) := r_get h 23 (pl_23 _ _) rfl inT7 16 (by decide) hlink rfl rfl dg k
theorem p23_16 {v : Int64} (h : Ok X cc own d) (hlink : Cond.fieldLink own index "FarSumsModel" "about" "J" ∈ tb) (dg : decode cc pc = .ok (.putfield index, 3)) (k : Wx X (sJ S 3 0 v) (pc + 3) lv st) : Wx X S pc lv (.long v :: .ref (aD (xw X) 23) :: st) := r_put (ty := .long) (sJ S 3 0 v) h 23 (pl_23 _ _) rfl inT7 tyX7 tyX7_ok nmX7 16 (by decide) hlink rfl rfl (by decide +kernel) rfl rfl (Nat.le_of_ble_eq_true rfl) rfl dg k
theorem g23_17 (h : Ok X cc own d) (hlink : Cond.fieldLink own index "FarSumsModel" "end" "J" ∈ tb) (dg : decode cc pc = .ok (.getfield index, 3)) (k : Wx X S (pc + 3) lv (.long (S.2 4 0) :: st)) : Wx X S pc lv (.ref (aD (xw X) 23) :: st) := r_get h 23 (pl_23 _ _) rfl inT7 17 (by decide) hlink rfl rfl dg k
theorem p23_17 {v : Int64} (h : Ok X cc own d) (hlink : Cond.fieldLink own index "FarSumsModel" "end" "J" ∈ tb) (dg : decode cc pc = .ok (.putfield index, 3)) (k : Wx X (sJ S 4 0 v) (pc + 3) lv st) : Wx X S pc lv (.long v :: .ref (aD (xw X) 23) :: st) := r_put (ty := .long) (sJ S 4 0 v) h 23 (pl_23 _ _) rfl inT7 tyX7 tyX7_ok nmX7 17 (by decide) hlink rfl rfl (by decide +kernel) rfl rfl (Nat.le_of_ble_eq_true rfl) rfl dg k
theorem g23_18 (h : Ok X cc own d) (hlink : Cond.fieldLink own index "FarSumsModel" "pushX" "[I" ∈ tb) (dg : decode cc pc = .ok (.getfield index, 3)) (k : Wx X S (pc + 3) lv (.ref (aD (xw X) 37) :: st)) : Wx X S pc lv (.ref (aD (xw X) 23) :: st) := r_get h 23 (pl_23 _ _) rfl inT7 18 (by decide) hlink rfl rfl dg k
theorem g23_19 (h : Ok X cc own d) (hlink : Cond.fieldLink own index "FarSumsModel" "pushY" "[I" ∈ tb) (dg : decode cc pc = .ok (.getfield index, 3)) (k : Wx X S (pc + 3) lv (.ref (aD (xw X) 38) :: st)) : Wx X S pc lv (.ref (aD (xw X) 23) :: st) := r_get h 23 (pl_23 _ _) rfl inT7 19 (by decide) hlink rfl rfl dg k
theorem al_2 {i : Int32} (h : Ok X cc own d) (hin : vp_in i 40) (dg : decode cc pc = .ok (.baload, 1)) (k : Wx X S (pc + 1) lv (.int (S.1 0 i.toNatClampNeg) :: st)) : Wx X S pc lv (.int i :: .ref (aD (xw X) 2) :: st) := fun H locs ls hP hS hl => va_zald h.1 h.2.1 h.2.2.2.2.2.2.1.1 hP 2 2 (pl_2 _ _) rfl hin dg (k H locs ls hP hS hl)
theorem as_2 {i : Int32} {x : Int32} (h : Ok X cc own d) (hin : vp_in i 40) (dg : decode cc pc = .ok (.bastore, 1)) (k : Wx X (sI S 0 i.toNatClampNeg (vp_nar .boolean x)) (pc + 1) lv st) : Wx X S pc lv (.int x :: .int i :: .ref (aD (xw X) 2) :: st) := fun H locs ls hP hS hl => va_zast h.1 h.2.1 h.2.2.2.2.2.2.1.1 hP (h.2.2.2.2.2.2.1.2.2.2.2 S) hS 2 2 (pl_2 _ _) rfl hin dg (fun H1 locs1 hP1 _ hS1 => k H1 locs1 ls hP1 hS1 hl)
theorem al_3 {i : Int32} (h : Ok X cc own d) (hin : vp_in i 40) (dg : decode cc pc = .ok (.iaload, 1)) (k : Wx X S (pc + 1) lv (.int (S.1 1 i.toNatClampNeg) :: st)) : Wx X S pc lv (.int i :: .ref (aD (xw X) 3) :: st) := fun H locs ls hP hS hl => va_iald h.1 h.2.1 h.2.2.2.2.2.2.1.1 hP 3 0 (pl_3 _ _) rfl hin dg (k H locs ls hP hS hl)
theorem as_3 {i : Int32} {x : Int32} (h : Ok X cc own d) (hin : vp_in i 40) (dg : decode cc pc = .ok (.iastore, 1)) (k : Wx X (sI S 1 i.toNatClampNeg x) (pc + 1) lv st) : Wx X S pc lv (.int x :: .int i :: .ref (aD (xw X) 3) :: st) := fun H locs ls hP hS hl => va_iast h.1 h.2.1 h.2.2.2.2.2.2.1.1 hP (h.2.2.2.2.2.2.1.2.2.2.2 S) hS 3 0 (pl_3 _ _) rfl hin dg (fun H1 locs1 hP1 _ hS1 => k H1 locs1 ls hP1 hS1 hl)
theorem al_4 {i : Int32} (h : Ok X cc own d) (hin : vp_in i 40) (dg : decode cc pc = .ok (.iaload, 1)) (k : Wx X S (pc + 1) lv (.int (S.1 2 i.toNatClampNeg) :: st)) : Wx X S pc lv (.int i :: .ref (aD (xw X) 4) :: st) := fun H locs ls hP hS hl => va_iald h.1 h.2.1 h.2.2.2.2.2.2.1.1 hP 4 0 (pl_4 _ _) rfl hin dg (k H locs ls hP hS hl)
theorem as_4 {i : Int32} {x : Int32} (h : Ok X cc own d) (hin : vp_in i 40) (dg : decode cc pc = .ok (.iastore, 1)) (k : Wx X (sI S 2 i.toNatClampNeg x) (pc + 1) lv st) : Wx X S pc lv (.int x :: .int i :: .ref (aD (xw X) 4) :: st) := fun H locs ls hP hS hl => va_iast h.1 h.2.1 h.2.2.2.2.2.2.1.1 hP (h.2.2.2.2.2.2.1.2.2.2.2 S) hS 4 0 (pl_4 _ _) rfl hin dg (fun H1 locs1 hP1 _ hS1 => k H1 locs1 ls hP1 hS1 hl)
theorem al_5 {i : Int32} (h : Ok X cc own d) (hin : vp_in i 40) (dg : decode cc pc = .ok (.iaload, 1)) (k : Wx X S (pc + 1) lv (.int (S.1 3 i.toNatClampNeg) :: st)) : Wx X S pc lv (.int i :: .ref (aD (xw X) 5) :: st) := fun H locs ls hP hS hl => va_iald h.1 h.2.1 h.2.2.2.2.2.2.1.1 hP 5 0 (pl_5 _ _) rfl hin dg (k H locs ls hP hS hl)
theorem as_5 {i : Int32} {x : Int32} (h : Ok X cc own d) (hin : vp_in i 40) (dg : decode cc pc = .ok (.iastore, 1)) (k : Wx X (sI S 3 i.toNatClampNeg x) (pc + 1) lv st) : Wx X S pc lv (.int x :: .int i :: .ref (aD (xw X) 5) :: st) := fun H locs ls hP hS hl => va_iast h.1 h.2.1 h.2.2.2.2.2.2.1.1 hP (h.2.2.2.2.2.2.1.2.2.2.2 S) hS 5 0 (pl_5 _ _) rfl hin dg (fun H1 locs1 hP1 _ hS1 => k H1 locs1 ls hP1 hS1 hl)
theorem al_6 {i : Int32} (h : Ok X cc own d) (hin : vp_in i 40) (dg : decode cc pc = .ok (.iaload, 1)) (k : Wx X S (pc + 1) lv (.int (S.1 4 i.toNatClampNeg) :: st)) : Wx X S pc lv (.int i :: .ref (aD (xw X) 6) :: st) := fun H locs ls hP hS hl => va_iald h.1 h.2.1 h.2.2.2.2.2.2.1.1 hP 6 0 (pl_6 _ _) rfl hin dg (k H locs ls hP hS hl)
theorem as_6 {i : Int32} {x : Int32} (h : Ok X cc own d) (hin : vp_in i 40) (dg : decode cc pc = .ok (.iastore, 1)) (k : Wx X (sI S 4 i.toNatClampNeg x) (pc + 1) lv st) : Wx X S pc lv (.int x :: .int i :: .ref (aD (xw X) 6) :: st) := fun H locs ls hP hS hl => va_iast h.1 h.2.1 h.2.2.2.2.2.2.1.1 hP (h.2.2.2.2.2.2.1.2.2.2.2 S) hS 6 0 (pl_6 _ _) rfl hin dg (fun H1 locs1 hP1 _ hS1 => k H1 locs1 ls hP1 hS1 hl)
theorem al_7 {i : Int32} (h : Ok X cc own d) (hin : vp_in i 40) (dg : decode cc pc = .ok (.iaload, 1)) (k : Wx X S (pc + 1) lv (.int (S.1 5 i.toNatClampNeg) :: st)) : Wx X S pc lv (.int i :: .ref (aD (xw X) 7) :: st) := fun H locs ls hP hS hl => va_iald h.1 h.2.1 h.2.2.2.2.2.2.1.1 hP 7 0 (pl_7 _ _) rfl hin dg (k H locs ls hP hS hl)
theorem as_7 {i : Int32} {x : Int32} (h : Ok X cc own d) (hin : vp_in i 40) (dg : decode cc pc = .ok (.iastore, 1)) (k : Wx X (sI S 5 i.toNatClampNeg x) (pc + 1) lv st) : Wx X S pc lv (.int x :: .int i :: .ref (aD (xw X) 7) :: st) := fun H locs ls hP hS hl => va_iast h.1 h.2.1 h.2.2.2.2.2.2.1.1 hP (h.2.2.2.2.2.2.1.2.2.2.2 S) hS 7 0 (pl_7 _ _) rfl hin dg (fun H1 locs1 hP1 _ hS1 => k H1 locs1 ls hP1 hS1 hl)
theorem al_9 {i : Int32} (h : Ok X cc own d) (hin : vp_in i 1365) (dg : decode cc pc = .ok (.iaload, 1)) (k : Wx X S (pc + 1) lv (.int (S.1 7 i.toNatClampNeg) :: st)) : Wx X S pc lv (.int i :: .ref (aD (xw X) 9) :: st) := fun H locs ls hP hS hl => va_iald h.1 h.2.1 h.2.2.2.2.2.2.1.1 hP 9 0 (pl_9 _ _) rfl hin dg (k H locs ls hP hS hl)
theorem as_9 {i : Int32} {x : Int32} (h : Ok X cc own d) (hin : vp_in i 1365) (dg : decode cc pc = .ok (.iastore, 1)) (k : Wx X (sI S 7 i.toNatClampNeg x) (pc + 1) lv st) : Wx X S pc lv (.int x :: .int i :: .ref (aD (xw X) 9) :: st) := fun H locs ls hP hS hl => va_iast h.1 h.2.1 h.2.2.2.2.2.2.1.1 hP (h.2.2.2.2.2.2.1.2.2.2.2 S) hS 9 0 (pl_9 _ _) rfl hin dg (fun H1 locs1 hP1 _ hS1 => k H1 locs1 ls hP1 hS1 hl)
theorem al_10 {i : Int32} (h : Ok X cc own d) (hin : vp_in i 25) (dg : decode cc pc = .ok (.laload, 1)) (k : Wx X S (pc + 1) lv (.long (S.2 0 i.toNatClampNeg) :: st)) : Wx X S pc lv (.int i :: .ref (aD (xw X) 10) :: st) := fun H locs ls hP hS hl => va_lald h.1 h.2.1 h.2.2.2.2.2.2.1.1 hP 10 1 (pl_10 _ _) rfl hin dg (k H locs ls hP hS hl)
theorem as_10 {i : Int32} {x : Int64} (h : Ok X cc own d) (hin : vp_in i 25) (dg : decode cc pc = .ok (.lastore, 1)) (k : Wx X (sJ S 0 i.toNatClampNeg x) (pc + 1) lv st) : Wx X S pc lv (.long x :: .int i :: .ref (aD (xw X) 10) :: st) := fun H locs ls hP hS hl => va_last h.1 h.2.1 h.2.2.2.2.2.2.1.1 hP (h.2.2.2.2.2.2.1.2.2.2.2 S) hS 10 1 (pl_10 _ _) rfl hin dg (fun H1 locs1 hP1 _ hS1 => k H1 locs1 ls hP1 hS1 hl)
theorem al_12 {i : Int32} (h : Ok X cc own d) (hin : vp_in i 25) (dg : decode cc pc = .ok (.laload, 1)) (k : Wx X S (pc + 1) lv (.long (S.2 1 i.toNatClampNeg) :: st)) : Wx X S pc lv (.int i :: .ref (aD (xw X) 12) :: st) := fun H locs ls hP hS hl => va_lald h.1 h.2.1 h.2.2.2.2.2.2.1.1 hP 12 1 (pl_12 _ _) rfl hin dg (k H locs ls hP hS hl)
theorem as_12 {i : Int32} {x : Int64} (h : Ok X cc own d) (hin : vp_in i 25) (dg : decode cc pc = .ok (.lastore, 1)) (k : Wx X (sJ S 1 i.toNatClampNeg x) (pc + 1) lv st) : Wx X S pc lv (.long x :: .int i :: .ref (aD (xw X) 12) :: st) := fun H locs ls hP hS hl => va_last h.1 h.2.1 h.2.2.2.2.2.2.1.1 hP (h.2.2.2.2.2.2.1.2.2.2.2 S) hS 12 1 (pl_12 _ _) rfl hin dg (fun H1 locs1 hP1 _ hS1 => k H1 locs1 ls hP1 hS1 hl)
theorem al_15 {i : Int32} (h : Ok X cc own d) (hin : vp_in i 25) (dg : decode cc pc = .ok (.laload, 1)) (k : Wx X S (pc + 1) lv (.long (S.2 2 i.toNatClampNeg) :: st)) : Wx X S pc lv (.int i :: .ref (aD (xw X) 15) :: st) := fun H locs ls hP hS hl => va_lald h.1 h.2.1 h.2.2.2.2.2.2.1.1 hP 15 1 (pl_15 _ _) rfl hin dg (k H locs ls hP hS hl)
theorem as_15 {i : Int32} {x : Int64} (h : Ok X cc own d) (hin : vp_in i 25) (dg : decode cc pc = .ok (.lastore, 1)) (k : Wx X (sJ S 2 i.toNatClampNeg x) (pc + 1) lv st) : Wx X S pc lv (.long x :: .int i :: .ref (aD (xw X) 15) :: st) := fun H locs ls hP hS hl => va_last h.1 h.2.1 h.2.2.2.2.2.2.1.1 hP (h.2.2.2.2.2.2.1.2.2.2.2 S) hS 15 1 (pl_15 _ _) rfl hin dg (fun H1 locs1 hP1 _ hS1 => k H1 locs1 ls hP1 hS1 hl)
theorem al_17 {i : Int32} (h : Ok X cc own d) (hin : vp_in i 40) (dg : decode cc pc = .ok (.iaload, 1)) (k : Wx X S (pc + 1) lv (.int (S.1 10 i.toNatClampNeg) :: st)) : Wx X S pc lv (.int i :: .ref (aD (xw X) 17) :: st) := fun H locs ls hP hS hl => va_iald h.1 h.2.1 h.2.2.2.2.2.2.1.1 hP 17 0 (pl_17 _ _) rfl hin dg (k H locs ls hP hS hl)
theorem as_17 {i : Int32} {x : Int32} (h : Ok X cc own d) (hin : vp_in i 40) (dg : decode cc pc = .ok (.iastore, 1)) (k : Wx X (sI S 10 i.toNatClampNeg x) (pc + 1) lv st) : Wx X S pc lv (.int x :: .int i :: .ref (aD (xw X) 17) :: st) := fun H locs ls hP hS hl => va_iast h.1 h.2.1 h.2.2.2.2.2.2.1.1 hP (h.2.2.2.2.2.2.1.2.2.2.2 S) hS 17 0 (pl_17 _ _) rfl hin dg (fun H1 locs1 hP1 _ hS1 => k H1 locs1 ls hP1 hS1 hl)
theorem al_18 {i : Int32} (h : Ok X cc own d) (hin : vp_in i 40) (dg : decode cc pc = .ok (.iaload, 1)) (k : Wx X S (pc + 1) lv (.int (S.1 11 i.toNatClampNeg) :: st)) : Wx X S pc lv (.int i :: .ref (aD (xw X) 18) :: st) := fun H locs ls hP hS hl => va_iald h.1 h.2.1 h.2.2.2.2.2.2.1.1 hP 18 0 (pl_18 _ _) rfl hin dg (k H locs ls hP hS hl)
theorem as_18 {i : Int32} {x : Int32} (h : Ok X cc own d) (hin : vp_in i 40) (dg : decode cc pc = .ok (.iastore, 1)) (k : Wx X (sI S 11 i.toNatClampNeg x) (pc + 1) lv st) : Wx X S pc lv (.int x :: .int i :: .ref (aD (xw X) 18) :: st) := fun H locs ls hP hS hl => va_iast h.1 h.2.1 h.2.2.2.2.2.2.1.1 hP (h.2.2.2.2.2.2.1.2.2.2.2 S) hS 18 0 (pl_18 _ _) rfl hin dg (fun H1 locs1 hP1 _ hS1 => k H1 locs1 ls hP1 hS1 hl)
theorem al_19 {i : Int32} (h : Ok X cc own d) (hin : vp_in i 40) (dg : decode cc pc = .ok (.iaload, 1)) (k : Wx X S (pc + 1) lv (.int (S.1 12 i.toNatClampNeg) :: st)) : Wx X S pc lv (.int i :: .ref (aD (xw X) 19) :: st) := fun H locs ls hP hS hl => va_iald h.1 h.2.1 h.2.2.2.2.2.2.1.1 hP 19 0 (pl_19 _ _) rfl hin dg (k H locs ls hP hS hl)
theorem as_19 {i : Int32} {x : Int32} (h : Ok X cc own d) (hin : vp_in i 40) (dg : decode cc pc = .ok (.iastore, 1)) (k : Wx X (sI S 12 i.toNatClampNeg x) (pc + 1) lv st) : Wx X S pc lv (.int x :: .int i :: .ref (aD (xw X) 19) :: st) := fun H locs ls hP hS hl => va_iast h.1 h.2.1 h.2.2.2.2.2.2.1.1 hP (h.2.2.2.2.2.2.1.2.2.2.2 S) hS 19 0 (pl_19 _ _) rfl hin dg (fun H1 locs1 hP1 _ hS1 => k H1 locs1 ls hP1 hS1 hl)
theorem al_21 {i : Int32} (h : Ok X cc own d) (hin : vp_in i 40) (dg : decode cc pc = .ok (.iaload, 1)) (k : Wx X S (pc + 1) lv (.int (S.1 17 i.toNatClampNeg) :: st)) : Wx X S pc lv (.int i :: .ref (aD (xw X) 21) :: st) := fun H locs ls hP hS hl => va_iald h.1 h.2.1 h.2.2.2.2.2.2.1.1 hP 21 0 (pl_21 _ _) rfl hin dg (k H locs ls hP hS hl)
theorem as_21 {i : Int32} {x : Int32} (h : Ok X cc own d) (hin : vp_in i 40) (dg : decode cc pc = .ok (.iastore, 1)) (k : Wx X (sI S 17 i.toNatClampNeg x) (pc + 1) lv st) : Wx X S pc lv (.int x :: .int i :: .ref (aD (xw X) 21) :: st) := fun H locs ls hP hS hl => va_iast h.1 h.2.1 h.2.2.2.2.2.2.1.1 hP (h.2.2.2.2.2.2.1.2.2.2.2 S) hS 21 0 (pl_21 _ _) rfl hin dg (fun H1 locs1 hP1 _ hS1 => k H1 locs1 ls hP1 hS1 hl)
theorem al_22 {i : Int32} (h : Ok X cc own d) (hin : vp_in i 40) (dg : decode cc pc = .ok (.iaload, 1)) (k : Wx X S (pc + 1) lv (.int (S.1 18 i.toNatClampNeg) :: st)) : Wx X S pc lv (.int i :: .ref (aD (xw X) 22) :: st) := fun H locs ls hP hS hl => va_iald h.1 h.2.1 h.2.2.2.2.2.2.1.1 hP 22 0 (pl_22 _ _) rfl hin dg (k H locs ls hP hS hl)
theorem as_22 {i : Int32} {x : Int32} (h : Ok X cc own d) (hin : vp_in i 40) (dg : decode cc pc = .ok (.iastore, 1)) (k : Wx X (sI S 18 i.toNatClampNeg x) (pc + 1) lv st) : Wx X S pc lv (.int x :: .int i :: .ref (aD (xw X) 22) :: st) := fun H locs ls hP hS hl => va_iast h.1 h.2.1 h.2.2.2.2.2.2.1.1 hP (h.2.2.2.2.2.2.1.2.2.2.2 S) hS 22 0 (pl_22 _ _) rfl hin dg (fun H1 locs1 hP1 _ hS1 => k H1 locs1 ls hP1 hS1 hl)
theorem al_24 {i : Int32} (h : Ok X cc own d) (hin : vp_in i 40) (dg : decode cc pc = .ok (.baload, 1)) (k : Wx X S (pc + 1) lv (.int (S.1 20 i.toNatClampNeg) :: st)) : Wx X S pc lv (.int i :: .ref (aD (xw X) 24) :: st) := fun H locs ls hP hS hl => va_zald h.1 h.2.1 h.2.2.2.2.2.2.1.1 hP 24 2 (pl_24 _ _) rfl hin dg (k H locs ls hP hS hl)
theorem as_24 {i : Int32} {x : Int32} (h : Ok X cc own d) (hin : vp_in i 40) (dg : decode cc pc = .ok (.bastore, 1)) (k : Wx X (sI S 20 i.toNatClampNeg (vp_nar .boolean x)) (pc + 1) lv st) : Wx X S pc lv (.int x :: .int i :: .ref (aD (xw X) 24) :: st) := fun H locs ls hP hS hl => va_zast h.1 h.2.1 h.2.2.2.2.2.2.1.1 hP (h.2.2.2.2.2.2.1.2.2.2.2 S) hS 24 2 (pl_24 _ _) rfl hin dg (fun H1 locs1 hP1 _ hS1 => k H1 locs1 ls hP1 hS1 hl)
theorem al_25 {i : Int32} (h : Ok X cc own d) (hin : vp_in i 40) (dg : decode cc pc = .ok (.iaload, 1)) (k : Wx X S (pc + 1) lv (.int (S.1 21 i.toNatClampNeg) :: st)) : Wx X S pc lv (.int i :: .ref (aD (xw X) 25) :: st) := fun H locs ls hP hS hl => va_iald h.1 h.2.1 h.2.2.2.2.2.2.1.1 hP 25 0 (pl_25 _ _) rfl hin dg (k H locs ls hP hS hl)
theorem as_25 {i : Int32} {x : Int32} (h : Ok X cc own d) (hin : vp_in i 40) (dg : decode cc pc = .ok (.iastore, 1)) (k : Wx X (sI S 21 i.toNatClampNeg x) (pc + 1) lv st) : Wx X S pc lv (.int x :: .int i :: .ref (aD (xw X) 25) :: st) := fun H locs ls hP hS hl => va_iast h.1 h.2.1 h.2.2.2.2.2.2.1.1 hP (h.2.2.2.2.2.2.1.2.2.2.2 S) hS 25 0 (pl_25 _ _) rfl hin dg (fun H1 locs1 hP1 _ hS1 => k H1 locs1 ls hP1 hS1 hl)
theorem al_26 {i : Int32} (h : Ok X cc own d) (hin : vp_in i 40) (dg : decode cc pc = .ok (.iaload, 1)) (k : Wx X S (pc + 1) lv (.int (S.1 22 i.toNatClampNeg) :: st)) : Wx X S pc lv (.int i :: .ref (aD (xw X) 26) :: st) := fun H locs ls hP hS hl => va_iald h.1 h.2.1 h.2.2.2.2.2.2.1.1 hP 26 0 (pl_26 _ _) rfl hin dg (k H locs ls hP hS hl)
theorem as_26 {i : Int32} {x : Int32} (h : Ok X cc own d) (hin : vp_in i 40) (dg : decode cc pc = .ok (.iastore, 1)) (k : Wx X (sI S 22 i.toNatClampNeg x) (pc + 1) lv st) : Wx X S pc lv (.int x :: .int i :: .ref (aD (xw X) 26) :: st) := fun H locs ls hP hS hl => va_iast h.1 h.2.1 h.2.2.2.2.2.2.1.1 hP (h.2.2.2.2.2.2.1.2.2.2.2 S) hS 26 0 (pl_26 _ _) rfl hin dg (fun H1 locs1 hP1 _ hS1 => k H1 locs1 ls hP1 hS1 hl)
theorem al_27 {i : Int32} (h : Ok X cc own d) (hin : vp_in i 40) (dg : decode cc pc = .ok (.iaload, 1)) (k : Wx X S (pc + 1) lv (.int (S.1 23 i.toNatClampNeg) :: st)) : Wx X S pc lv (.int i :: .ref (aD (xw X) 27) :: st) := fun H locs ls hP hS hl => va_iald h.1 h.2.1 h.2.2.2.2.2.2.1.1 hP 27 0 (pl_27 _ _) rfl hin dg (k H locs ls hP hS hl)
theorem as_27 {i : Int32} {x : Int32} (h : Ok X cc own d) (hin : vp_in i 40) (dg : decode cc pc = .ok (.iastore, 1)) (k : Wx X (sI S 23 i.toNatClampNeg x) (pc + 1) lv st) : Wx X S pc lv (.int x :: .int i :: .ref (aD (xw X) 27) :: st) := fun H locs ls hP hS hl => va_iast h.1 h.2.1 h.2.2.2.2.2.2.1.1 hP (h.2.2.2.2.2.2.1.2.2.2.2 S) hS 27 0 (pl_27 _ _) rfl hin dg (fun H1 locs1 hP1 _ hS1 => k H1 locs1 ls hP1 hS1 hl)
theorem al_28 {i : Int32} (h : Ok X cc own d) (hin : vp_in i 40) (dg : decode cc pc = .ok (.iaload, 1)) (k : Wx X S (pc + 1) lv (.int (S.1 24 i.toNatClampNeg) :: st)) : Wx X S pc lv (.int i :: .ref (aD (xw X) 28) :: st) := fun H locs ls hP hS hl => va_iald h.1 h.2.1 h.2.2.2.2.2.2.1.1 hP 28 0 (pl_28 _ _) rfl hin dg (k H locs ls hP hS hl)
theorem as_28 {i : Int32} {x : Int32} (h : Ok X cc own d) (hin : vp_in i 40) (dg : decode cc pc = .ok (.iastore, 1)) (k : Wx X (sI S 24 i.toNatClampNeg x) (pc + 1) lv st) : Wx X S pc lv (.int x :: .int i :: .ref (aD (xw X) 28) :: st) := fun H locs ls hP hS hl => va_iast h.1 h.2.1 h.2.2.2.2.2.2.1.1 hP (h.2.2.2.2.2.2.1.2.2.2.2 S) hS 28 0 (pl_28 _ _) rfl hin dg (fun H1 locs1 hP1 _ hS1 => k H1 locs1 ls hP1 hS1 hl)
theorem al_29 {i : Int32} (h : Ok X cc own d) (hin : vp_in i 40) (dg : decode cc pc = .ok (.iaload, 1)) (k : Wx X S (pc + 1) lv (.int (S.1 25 i.toNatClampNeg) :: st)) : Wx X S pc lv (.int i :: .ref (aD (xw X) 29) :: st) := fun H locs ls hP hS hl => va_iald h.1 h.2.1 h.2.2.2.2.2.2.1.1 hP 29 0 (pl_29 _ _) rfl hin dg (k H locs ls hP hS hl)
theorem as_29 {i : Int32} {x : Int32} (h : Ok X cc own d) (hin : vp_in i 40) (dg : decode cc pc = .ok (.iastore, 1)) (k : Wx X (sI S 25 i.toNatClampNeg x) (pc + 1) lv st) : Wx X S pc lv (.int x :: .int i :: .ref (aD (xw X) 29) :: st) := fun H locs ls hP hS hl => va_iast h.1 h.2.1 h.2.2.2.2.2.2.1.1 hP (h.2.2.2.2.2.2.1.2.2.2.2 S) hS 29 0 (pl_29 _ _) rfl hin dg (fun H1 locs1 hP1 _ hS1 => k H1 locs1 ls hP1 hS1 hl)
theorem al_30 {i : Int32} (h : Ok X cc own d) (hin : vp_in i 25) (dg : decode cc pc = .ok (.iaload, 1)) (k : Wx X S (pc + 1) lv (.int (S.1 26 i.toNatClampNeg) :: st)) : Wx X S pc lv (.int i :: .ref (aD (xw X) 30) :: st) := fun H locs ls hP hS hl => va_iald h.1 h.2.1 h.2.2.2.2.2.2.1.1 hP 30 0 (pl_30 _ _) rfl hin dg (k H locs ls hP hS hl)
theorem as_30 {i : Int32} {x : Int32} (h : Ok X cc own d) (hin : vp_in i 25) (dg : decode cc pc = .ok (.iastore, 1)) (k : Wx X (sI S 26 i.toNatClampNeg x) (pc + 1) lv st) : Wx X S pc lv (.int x :: .int i :: .ref (aD (xw X) 30) :: st) := fun H locs ls hP hS hl => va_iast h.1 h.2.1 h.2.2.2.2.2.2.1.1 hP (h.2.2.2.2.2.2.1.2.2.2.2 S) hS 30 0 (pl_30 _ _) rfl hin dg (fun H1 locs1 hP1 _ hS1 => k H1 locs1 ls hP1 hS1 hl)
theorem al_31 {i : Int32} (h : Ok X cc own d) (hin : vp_in i 40) (dg : decode cc pc = .ok (.iaload, 1)) (k : Wx X S (pc + 1) lv (.int (S.1 29 i.toNatClampNeg) :: st)) : Wx X S pc lv (.int i :: .ref (aD (xw X) 31) :: st) := fun H locs ls hP hS hl => va_iald h.1 h.2.1 h.2.2.2.2.2.2.1.1 hP 31 0 (pl_31 _ _) rfl hin dg (k H locs ls hP hS hl)
theorem as_31 {i : Int32} {x : Int32} (h : Ok X cc own d) (hin : vp_in i 40) (dg : decode cc pc = .ok (.iastore, 1)) (k : Wx X (sI S 29 i.toNatClampNeg x) (pc + 1) lv st) : Wx X S pc lv (.int x :: .int i :: .ref (aD (xw X) 31) :: st) := fun H locs ls hP hS hl => va_iast h.1 h.2.1 h.2.2.2.2.2.2.1.1 hP (h.2.2.2.2.2.2.1.2.2.2.2 S) hS 31 0 (pl_31 _ _) rfl hin dg (fun H1 locs1 hP1 _ hS1 => k H1 locs1 ls hP1 hS1 hl)
theorem al_32 {i : Int32} (h : Ok X cc own d) (hin : vp_in i 40) (dg : decode cc pc = .ok (.iaload, 1)) (k : Wx X S (pc + 1) lv (.int (S.1 30 i.toNatClampNeg) :: st)) : Wx X S pc lv (.int i :: .ref (aD (xw X) 32) :: st) := fun H locs ls hP hS hl => va_iald h.1 h.2.1 h.2.2.2.2.2.2.1.1 hP 32 0 (pl_32 _ _) rfl hin dg (k H locs ls hP hS hl)
theorem as_32 {i : Int32} {x : Int32} (h : Ok X cc own d) (hin : vp_in i 40) (dg : decode cc pc = .ok (.iastore, 1)) (k : Wx X (sI S 30 i.toNatClampNeg x) (pc + 1) lv st) : Wx X S pc lv (.int x :: .int i :: .ref (aD (xw X) 32) :: st) := fun H locs ls hP hS hl => va_iast h.1 h.2.1 h.2.2.2.2.2.2.1.1 hP (h.2.2.2.2.2.2.1.2.2.2.2 S) hS 32 0 (pl_32 _ _) rfl hin dg (fun H1 locs1 hP1 _ hS1 => k H1 locs1 ls hP1 hS1 hl)
theorem al_33 {i : Int32} (h : Ok X cc own d) (hin : vp_in i 40) (dg : decode cc pc = .ok (.iaload, 1)) (k : Wx X S (pc + 1) lv (.int (S.1 31 i.toNatClampNeg) :: st)) : Wx X S pc lv (.int i :: .ref (aD (xw X) 33) :: st) := fun H locs ls hP hS hl => va_iald h.1 h.2.1 h.2.2.2.2.2.2.1.1 hP 33 0 (pl_33 _ _) rfl hin dg (k H locs ls hP hS hl)
theorem as_33 {i : Int32} {x : Int32} (h : Ok X cc own d) (hin : vp_in i 40) (dg : decode cc pc = .ok (.iastore, 1)) (k : Wx X (sI S 31 i.toNatClampNeg x) (pc + 1) lv st) : Wx X S pc lv (.int x :: .int i :: .ref (aD (xw X) 33) :: st) := fun H locs ls hP hS hl => va_iast h.1 h.2.1 h.2.2.2.2.2.2.1.1 hP (h.2.2.2.2.2.2.1.2.2.2.2 S) hS 33 0 (pl_33 _ _) rfl hin dg (fun H1 locs1 hP1 _ hS1 => k H1 locs1 ls hP1 hS1 hl)
theorem al_34 {i : Int32} (h : Ok X cc own d) (hin : vp_in i 80) (dg : decode cc pc = .ok (.iaload, 1)) (k : Wx X S (pc + 1) lv (.int (S.1 32 i.toNatClampNeg) :: st)) : Wx X S pc lv (.int i :: .ref (aD (xw X) 34) :: st) := fun H locs ls hP hS hl => va_iald h.1 h.2.1 h.2.2.2.2.2.2.1.1 hP 34 0 (pl_34 _ _) rfl hin dg (k H locs ls hP hS hl)
theorem as_34 {i : Int32} {x : Int32} (h : Ok X cc own d) (hin : vp_in i 80) (dg : decode cc pc = .ok (.iastore, 1)) (k : Wx X (sI S 32 i.toNatClampNeg x) (pc + 1) lv st) : Wx X S pc lv (.int x :: .int i :: .ref (aD (xw X) 34) :: st) := fun H locs ls hP hS hl => va_iast h.1 h.2.1 h.2.2.2.2.2.2.1.1 hP (h.2.2.2.2.2.2.1.2.2.2.2 S) hS 34 0 (pl_34 _ _) rfl hin dg (fun H1 locs1 hP1 _ hS1 => k H1 locs1 ls hP1 hS1 hl)
theorem al_35 {i : Int32} (h : Ok X cc own d) (hin : vp_in i 80) (dg : decode cc pc = .ok (.iaload, 1)) (k : Wx X S (pc + 1) lv (.int (S.1 33 i.toNatClampNeg) :: st)) : Wx X S pc lv (.int i :: .ref (aD (xw X) 35) :: st) := fun H locs ls hP hS hl => va_iald h.1 h.2.1 h.2.2.2.2.2.2.1.1 hP 35 0 (pl_35 _ _) rfl hin dg (k H locs ls hP hS hl)
theorem as_35 {i : Int32} {x : Int32} (h : Ok X cc own d) (hin : vp_in i 80) (dg : decode cc pc = .ok (.iastore, 1)) (k : Wx X (sI S 33 i.toNatClampNeg x) (pc + 1) lv st) : Wx X S pc lv (.int x :: .int i :: .ref (aD (xw X) 35) :: st) := fun H locs ls hP hS hl => va_iast h.1 h.2.1 h.2.2.2.2.2.2.1.1 hP (h.2.2.2.2.2.2.1.2.2.2.2 S) hS 35 0 (pl_35 _ _) rfl hin dg (fun H1 locs1 hP1 _ hS1 => k H1 locs1 ls hP1 hS1 hl)
theorem al_36 {i : Int32} (h : Ok X cc own d) (hin : vp_in i 80) (dg : decode cc pc = .ok (.iaload, 1)) (k : Wx X S (pc + 1) lv (.int (S.1 34 i.toNatClampNeg) :: st)) : Wx X S pc lv (.int i :: .ref (aD (xw X) 36) :: st) := fun H locs ls hP hS hl => va_iald h.1 h.2.1 h.2.2.2.2.2.2.1.1 hP 36 0 (pl_36 _ _) rfl hin dg (k H locs ls hP hS hl)
theorem as_36 {i : Int32} {x : Int32} (h : Ok X cc own d) (hin : vp_in i 80) (dg : decode cc pc = .ok (.iastore, 1)) (k : Wx X (sI S 34 i.toNatClampNeg x) (pc + 1) lv st) : Wx X S pc lv (.int x :: .int i :: .ref (aD (xw X) 36) :: st) := fun H locs ls hP hS hl => va_iast h.1 h.2.1 h.2.2.2.2.2.2.1.1 hP (h.2.2.2.2.2.2.1.2.2.2.2 S) hS 36 0 (pl_36 _ _) rfl hin dg (fun H1 locs1 hP1 _ hS1 => k H1 locs1 ls hP1 hS1 hl)
theorem al_37 {i : Int32} (h : Ok X cc own d) (hin : vp_in i 40) (dg : decode cc pc = .ok (.iaload, 1)) (k : Wx X S (pc + 1) lv (.int (S.1 36 i.toNatClampNeg) :: st)) : Wx X S pc lv (.int i :: .ref (aD (xw X) 37) :: st) := fun H locs ls hP hS hl => va_iald h.1 h.2.1 h.2.2.2.2.2.2.1.1 hP 37 0 (pl_37 _ _) rfl hin dg (k H locs ls hP hS hl)
theorem as_37 {i : Int32} {x : Int32} (h : Ok X cc own d) (hin : vp_in i 40) (dg : decode cc pc = .ok (.iastore, 1)) (k : Wx X (sI S 36 i.toNatClampNeg x) (pc + 1) lv st) : Wx X S pc lv (.int x :: .int i :: .ref (aD (xw X) 37) :: st) := fun H locs ls hP hS hl => va_iast h.1 h.2.1 h.2.2.2.2.2.2.1.1 hP (h.2.2.2.2.2.2.1.2.2.2.2 S) hS 37 0 (pl_37 _ _) rfl hin dg (fun H1 locs1 hP1 _ hS1 => k H1 locs1 ls hP1 hS1 hl)
theorem al_38 {i : Int32} (h : Ok X cc own d) (hin : vp_in i 40) (dg : decode cc pc = .ok (.iaload, 1)) (k : Wx X S (pc + 1) lv (.int (S.1 37 i.toNatClampNeg) :: st)) : Wx X S pc lv (.int i :: .ref (aD (xw X) 38) :: st) := fun H locs ls hP hS hl => va_iald h.1 h.2.1 h.2.2.2.2.2.2.1.1 hP 38 0 (pl_38 _ _) rfl hin dg (k H locs ls hP hS hl)
theorem as_38 {i : Int32} {x : Int32} (h : Ok X cc own d) (hin : vp_in i 40) (dg : decode cc pc = .ok (.iastore, 1)) (k : Wx X (sI S 37 i.toNatClampNeg x) (pc + 1) lv st) : Wx X S pc lv (.int x :: .int i :: .ref (aD (xw X) 38) :: st) := fun H locs ls hP hS hl => va_iast h.1 h.2.1 h.2.2.2.2.2.2.1.1 hP (h.2.2.2.2.2.2.1.2.2.2.2 S) hS 38 0 (pl_38 _ _) rfl hin dg (fun H1 locs1 hP1 _ hS1 => k H1 locs1 ls hP1 hS1 hl)
theorem gs_1 (h : Ok X cc own d) (hl0 : Cond.fieldLinkNest own index "FarSums" "FIRST_OF_LEVEL" "[I" "FarSums" ∈ nw) (dg : decode cc pc = .ok (.getstatic index, 3)) (k : Wx X S (pc + 3) lv (.ref (fT1 (xw X)) :: st)) : Wx X S pc lv st := fun H locs ls hP hS hl => va_getsN h.1 h.2.1 h.2.2.2.2.2.2.1.2.2.1.1 hS h.2.2.2.1 (va_Nw.use rfl (h.2.2.2.2.2.2.1.2.1 _ hl0)) (fun _ z => z) dg (k H locs ls hP hS hl)
theorem at_1 {i : Int32} (h : Ok X cc own d) (hin : vp_in i 6) (dg : decode cc pc = .ok (.iaload, 1)) (k : Wx X S (pc + 1) lv (.int (tabF i.toNatClampNeg) :: st)) : Wx X S pc lv (.int i :: .ref (fT1 (xw X)) :: st) := fun H locs ls hP hS hl => va_ti h.1 h.2.1 h.2.2.2.2.2.2.1.2.2.1.2 hS hin rfl dg (k H locs ls hP hS hl)
theorem gs_2 (h : Ok X cc own d) (hl0 : Cond.fieldLinkNest own index "FarSums" "CHOOSE" "[I" "FarSums" ∈ nw) (dg : decode cc pc = .ok (.getstatic index, 3)) (k : Wx X S (pc + 3) lv (.ref (fT2 (xw X)) :: st)) : Wx X S pc lv st := fun H locs ls hP hS hl => va_getsN h.1 h.2.1 h.2.2.2.2.2.2.1.2.2.2.1.1 hS h.2.2.2.1 (va_Nw.use rfl (h.2.2.2.2.2.2.1.2.1 _ hl0)) (fun _ z => z) dg (k H locs ls hP hS hl)
theorem at_2 {i : Int32} (h : Ok X cc own d) (hin : vp_in i 25) (dg : decode cc pc = .ok (.iaload, 1)) (k : Wx X S (pc + 1) lv (.int (tabC i.toNatClampNeg) :: st)) : Wx X S pc lv (.int i :: .ref (fT2 (xw X)) :: st) := fun H locs ls hP hS hl => va_ti h.1 h.2.1 h.2.2.2.2.2.2.1.2.2.2.1.2 hS hin rfl dg (k H locs ls hP hS hl)
end
section
variable {X : Fr} {cc : ByteArray} {own : String} {d : Nat} {S : St} {pc : Nat} {lv st : List Value} {post : Option Value → St → Prop}
theorem r_iret {v : Int32} (h : Ok X cc own d) (hr : Rt X (some .int) post) (dg : decode cc pc = .ok (.ireturn, 1)) (hp : post (some (.int v)) S) : Wx X S pc lv [.int v] := by
  intro H locs ls hP hS hl
  rw [hr.2]
  exact W.iret (Qc := QX (xw X) post) (free := fA (xw X)) h.1 h.2.1 hr.1 (fun t ht hW => ⟨⟨some (.int v), S, rfl, hp, by rw [ht]; exact hP⟩, hS.F ht⟩) hS.2.2 dg h.2.2.2.2.2.1
theorem r_zret {v : Int32} (h : Ok X cc own d) (hr : Rt X (some .boolean) post) (dg : decode cc pc = .ok (.ireturn, 1)) (hn : narrow .boolean (.int v) = .int v) (hp : post (some (.int v)) S) : Wx X S pc lv [.int v] := by
  intro H locs ls hP hS hl
  rw [hr.2]
  exact W.zret (Qc := QX (xw X) post) (free := fA (xw X)) h.1 h.2.1 hr.1 hn (fun t ht hW => ⟨⟨some (.int v), S, rfl, hp, by rw [ht]; exact hP⟩, hS.F ht⟩) hS.2.2 dg h.2.2.2.2.2.1
theorem r_lret {v : Int64} (h : Ok X cc own d) (hr : Rt X (some .long) post) (dg : decode cc pc = .ok (.lreturn, 1)) (hp : post (some (.long v)) S) : Wx X S pc lv [.long v] := by
  intro H locs ls hP hS hl
  rw [hr.2]
  exact W.lret (Qc := QX (xw X) post) (free := fA (xw X)) h.1 h.2.1 hr.1 (fun t ht hW => ⟨⟨some (.long v), S, rfl, hp, by rw [ht]; exact hP⟩, hS.F ht⟩) hS.2.2 dg h.2.2.2.2.2.1
theorem r_vret (h : Ok X cc own d) (hr : Rt X none post) (dg : decode cc pc = .ok (.return_, 1)) (hp : post none S) : Wx X S pc lv [] := by
  intro H locs ls hP hS hl
  rw [hr.2]
  exact W.vret (Qc := QX (xw X) post) (free := fA (xw X)) h.1 h.2.1 hr.1 (fun t ht hW => ⟨⟨none, S, rfl, hp, by rw [ht]; exact hP⟩, hS.F ht⟩) hS.2.2 dg h.2.2.2.2.2.1
end
/-! calls -/
def Cal0 (y : MethodName) (cc : ByteArray) (mL : Nat) (rt : Option FieldType) (n : Nat) : Prop := Cond.code y cc mL rt ∈ tb ∧ Cond.initialized y.cls ∈ tb ∧ (y.cls ≠ "java/lang/invoke/MethodHandle" ∧ y.cls ≠ "java/lang/invoke/VarHandle" ∧ (parseMethodDescriptor y.desc).map (fun d => d.parameters.length) = some n) ∧ mL ≤ 21
def CalV (y : MethodName) (cc : ByteArray) (mL : Nat) (rt : Option FieldType) (n : Nat) : Prop := Cal0 y cc mL rt n ∧ Cond.instanceMethod y ∈ tb ∧ Cond.selects y.cls y y ∈ tb
def CalS (y : MethodName) (cc : ByteArray) (mL : Nat) (rt : Option FieldType) (n : Nat) : Prop := Cal0 y cc mL rt n ∧ Cond.static y ∈ tb
theorem good_of {L : List Cond} (h : ∀ w ∈ L, w ∈ tb) : GoodIn tb L := fun w hw => tb_good w (h w hw)
theorem pc_blind {w : Fx} {av : List Value} {S : St} : FrameBlind (va_Pc av (fun U => va_P w.1 vwCl (wS w S) U.heap ∧ Bs w U)) := fun a U g mk q => ⟨q.1, q.2.1, Bs_calling q.2.2⟩
section
variable {X : Fr} {cc : ByteArray} {own : String} {d : Nat} {S : St} {pc : Nat} {lv st : List Value}
theorem r_after {a : Array Value} {g0 : List Value} {rv : Option Value} {rest : List Value} {S2 : St} {H : Heap} {locs : List Loc} {ls : Array Slot} (hS : va_S (fA (xw X)) (xs X).heap H locs) (hl : hL ls (xn X) lv)
    (hr : va_Run (xp X) (xl X) (xe X) (xR X) (xs X) (xm X) (xa X) (xb X) (xme X) (xc X) H locs (xk X).1 (xk X).2 0 0 (F0 (xm X) pc ls g0) rest (QX (xw X) (fun v S' => v = rv ∧ S' = S2) a) (fA (xw X)))
    (k : Wx X S2 (pc + 3) lv (rv.toList ++ rest)) : W (xp X) (xl X) (xe X) (xR X) (xs X) (xm X) (xa X) (xb X) (xme X) (xc X) H locs (xk X).1 (xk X).2 (xQ X) (F0 (xm X) pc ls g0) := by
  intro T hT Xs
  obtain ⟨v, st₀, t, T', L, h0, X', hL', e1, e2, ⟨⟨v', S', hv, ⟨e3, e4⟩, hP'⟩, hz, hk⟩, stp⟩ := hr T hT Xs
  cases hv
  subst e3
  subst e4
  rw [h0] at hz hk
  have hS' : va_S (fA (xw X)) (xs X).heap T'.heap (locs ++ L) := ⟨Nat.le_trans hS.1 (by rw [e1]; exact hz), fun q h1 h2 => by rw [e1, hk q (Nat.lt_of_lt_of_le h1 hS.1) h2]; exact hS.2.1 q h1 h2, fun q hq => by
    rcases List.mem_append.mp hq with z | z
    · exact hS.2.2 q z
    · exact hL' q z⟩
  obtain ⟨t2, a1, b1⟩ := k T'.heap (locs ++ L) ls (by rw [e1]; exact hP') hS' hl T' rfl X'
  exact ⟨t2, stp t2 a1, b1⟩
theorem r_callV {y : MethodName} {cc' : ByteArray} {mL d' n b idx ci N : Nat} {rt : Option FieldType} {As rest : List Value} {rv : Option Value} {S2 : St} {T : u_T} {fs : List Value} (h : Ok X cc own d) (hM : Ct (xl X) y cc' mL rt d' (xw X) (.ref b :: As) S (fun v S' => v = rv ∧ S' = S2)) (hc : CalV y cc' mL rt n) (hlink : Cond.methodLink own idx y ∈ tb) (hd : d' + 1 ≤ d) (q0 : Nat) (hpl : (wS (xw X) S)[q0]? = some (b, .inr (ci, fs))) (hcl : vwCl[ci]? = some (y.cls, T, N)) (hn : As.length = n) (hst : st = As.reverse ++ .ref b :: rest) (hroom : (rest.map fun v => v.category).sum ≤ 8) (dg : decode cc pc = .ok (.invokevirtual idx, 3)) (k : Wx X S2 (pc + 3) lv (rv.toList ++ rest)) : Wx X S pc lv st := by
  subst hst
  intro H locs ls hP hS hl
  obtain ⟨⟨c1, c2, c3, c4⟩, c5, c6⟩ := hc
  have hts := h.2.2.2.2.1
  have hfr := h.2.2.2.2.2.2.2.1
  have hB := h.2.2.2.2.2.2.1
  have hcw : CallW (xR X) (xs X) (xa X) own y.cls idx y cc' mL rt (Cond.code y cc' mL rt :: tb) (rmD d') 0 0 n := cwV n hts (good_of (fun w hw => by
    rcases List.mem_append.mp hw with z | z
    · simp only [List.mem_cons, List.not_mem_nil, or_false] at z
      rcases z with rfl | rfl | rfl | rfl <;> assumption
    · rcases List.mem_cons.mp z with rfl | z
      · exact c1
      · exact z)) rfl rfl rfl ⟨rfl, c3⟩ ⟨by show d' + 1 ≤ (xR X).frames; omega, by show 8 + (mL + 11) + 40 * d' ≤ (xR X).locals; omega⟩
  have hr := va_runV (cc := cc) (nL := xn X) (Ts := tb) (own := own) (As := As) (rest := rest) (b := b) (g := F0 (xm X) pc ls (As.reverse ++ .ref b :: rest)) (H := H) (locs := locs) (below := xb X) (e := xe X) (meth := xme X) (cells := (xk X).1) (slots := (xk X).2) ⟨h.1, h.2.1, h.2.2.1, h.2.2.2.1, hts⟩ hM hcw ⟨pc_blind, va_recv hB.1 hP hcl hpl, fun U hU hW => ⟨rfl, by rw [hU]; exact hP, Bs_move hS hU hW hB⟩⟩ rfl hn hl.1.1 rfl (lv_room hroom) dg ⟨h.2.2.2.2.2.2.2.2.1, h.2.2.2.2.2.2.2.2.2⟩
  exact r_after hS hl hr k
theorem r_callS {y : MethodName} {cc' : ByteArray} {mL d' n idx : Nat} {rt : Option FieldType} {As rest : List Value} {rv : Option Value} {S2 : St} (h : Ok X cc own d) (hM : Ct (xl X) y cc' mL rt d' (xw X) As S (fun v S' => v = rv ∧ S' = S2)) (hc : CalS y cc' mL rt n) (hlink : Cond.methodLink own idx y ∈ tb) (hd : d' + 1 ≤ d) (hn : As.length = n) (hst : st = As.reverse ++ rest) (hroom : (rest.map fun v => v.category).sum ≤ 8) (dg : decode cc pc = .ok (.invokestatic idx, 3)) (k : Wx X S2 (pc + 3) lv (rv.toList ++ rest)) : Wx X S pc lv st := by
  subst hst
  intro H locs ls hP hS hl
  obtain ⟨⟨c1, c2, c3, c4⟩, c5⟩ := hc
  have hts := h.2.2.2.2.1
  have hfr := h.2.2.2.2.2.2.2.1
  have hB := h.2.2.2.2.2.2.1
  have hcw : CallB (xR X) (xs X) (xa X) own idx y cc' mL rt (Cond.code y cc' mL rt :: tb) (rmD d') 0 0 n ∧ (Cond.static y).before (xa X) (xs X) = true := va_cwS n hts (good_of (fun w hw => by
    rcases List.mem_append.mp hw with z | z
    · simp only [List.mem_cons, List.not_mem_nil, or_false] at z
      rcases z with rfl | rfl | rfl <;> assumption
    · rcases List.mem_cons.mp z with rfl | z
      · exact c1
      · exact z)) rfl rfl rfl c3 ⟨by show d' + 1 ≤ (xR X).frames; omega, by show 8 + (mL + 11) + 40 * d' ≤ (xR X).locals; omega⟩
  have hr := va_runS (cc := cc) (nL := xn X) (Ts := tb) (own := own) (As := As) (rest := rest) (g := F0 (xm X) pc ls (As.reverse ++ rest)) (H := H) (locs := locs) (below := xb X) (e := xe X) (meth := xme X) (cells := (xk X).1) (slots := (xk X).2) ⟨h.1, h.2.1, h.2.2.1, h.2.2.2.1, hts⟩ hM hcw ⟨pc_blind, fun U hU hW => ⟨rfl, by rw [hU]; exact hP, Bs_move hS hU hW hB⟩⟩ rfl hn hl.1.1 rfl (lv_room hroom) dg ⟨h.2.2.2.2.2.2.2.2.1, h.2.2.2.2.2.2.2.2.2⟩
  exact r_after hS hl hr k
theorem r_callN {y : MethodName} {cc' : ByteArray} {mL d' n idx : Nat} {rt : Option FieldType} {As rest : List Value} {rv : Option Value} {S2 : St} (h : Ok X cc own d) (hM : Ct (xl X) y cc' mL rt d' (xw X) As S (fun v S' => v = rv ∧ S' = S2)) (hc : CalS y cc' mL rt n) (hlink : Cond.methodLinkNest own idx y "FarSums" ∈ nw) (hd : d' + 1 ≤ d) (hn : As.length = n) (hst : st = As.reverse ++ rest) (hroom : (rest.map fun v => v.category).sum ≤ 8) (dg : decode cc pc = .ok (.invokestatic idx, 3)) (k : Wx X S2 (pc + 3) lv (rv.toList ++ rest)) : Wx X S pc lv st := by
  subst hst
  intro H locs ls hP hS hl
  obtain ⟨⟨c1, c2, c3, c4⟩, c5⟩ := hc
  have hts := h.2.2.2.2.1
  have hfr := h.2.2.2.2.2.2.2.1
  have hB := h.2.2.2.2.2.2.1
  have hcw := va_cnB (R := xR X) (s := xs X) (args := xa X) (own := own) (host := "FarSums") (index := idx) (maxL := mL) (mc := 0) (ms := 0) (y := y) (bytes := cc') (ret := rt) (Ts := tb) (ws := Cond.code y cc' mL rt :: tb) (ws' := tb) (rm := rmD d') n hts (good_of (fun w hw => by
    rcases List.mem_cons.mp hw with rfl | z
    · exact c1
    · exact z)) rfl rfl rfl (hB.2.1 _ hlink) (hts _ c2) c3 ⟨by show d' + 1 ≤ (xR X).frames; omega, by show 8 + (mL + 11) + 40 * d' ≤ (xR X).locals; omega⟩
  have hr := va_runSN (cc := cc) (nL := xn X) (Ts := tb) (own := own) (As := As) (rest := rest) (g := F0 (xm X) pc ls (As.reverse ++ rest)) (H := H) (locs := locs) (below := xb X) (e := xe X) (meth := xme X) (cells := (xk X).1) (slots := (xk X).2) ⟨h.1, h.2.1, h.2.2.1, h.2.2.2.1, hts⟩ hM ⟨hcw, hts _ c5, trivial⟩ ⟨pc_blind, fun U hU hW => ⟨rfl, by rw [hU]; exact hP, Bs_move hS hU hW hB⟩⟩ rfl hn hl.1.1 rfl (lv_room hroom) dg ⟨h.2.2.2.2.2.2.2.2.1, h.2.2.2.2.2.2.2.2.2⟩
  exact r_after hS hl hr k
theorem cV0 {y : MethodName} {cc' : ByteArray} {mL d' b idx ci N : Nat} {rt : Option FieldType} {r : Value} {rest : List Value} {S2 : St} {T : u_T} {fs : List Value} (h : Ok X cc own d) (hM : Ct (xl X) y cc' mL rt d' (xw X) [.ref b] S (fun v S' => v = (some r) ∧ S' = S2)) (hc : CalV y cc' mL rt 0) (hlink : Cond.methodLink own idx y ∈ tb) (hd : d' + 1 ≤ d) (q0 : Nat) (hpl : (wS (xw X) S)[q0]? = some (b, .inr (ci, fs))) (hcl : vwCl[ci]? = some (y.cls, T, N)) (hroom : (rest.map fun v => v.category).sum ≤ 8) (dg : decode cc pc = .ok (.invokevirtual idx, 3)) (k : Wx X S2 (pc + 3) lv (r :: rest)) : Wx X S pc lv (.ref b :: rest) := r_callV h hM hc hlink hd q0 hpl hcl rfl rfl hroom dg k
theorem cV0v {y : MethodName} {cc' : ByteArray} {mL d' b idx ci N : Nat} {rt : Option FieldType} {rest : List Value} {S2 : St} {T : u_T} {fs : List Value} (h : Ok X cc own d) (hM : Ct (xl X) y cc' mL rt d' (xw X) [.ref b] S (fun v S' => v = none ∧ S' = S2)) (hc : CalV y cc' mL rt 0) (hlink : Cond.methodLink own idx y ∈ tb) (hd : d' + 1 ≤ d) (q0 : Nat) (hpl : (wS (xw X) S)[q0]? = some (b, .inr (ci, fs))) (hcl : vwCl[ci]? = some (y.cls, T, N)) (hroom : (rest.map fun v => v.category).sum ≤ 8) (dg : decode cc pc = .ok (.invokevirtual idx, 3)) (k : Wx X S2 (pc + 3) lv (rest)) : Wx X S pc lv (.ref b :: rest) := r_callV h hM hc hlink hd q0 hpl hcl rfl rfl hroom dg k
theorem cV1 {y : MethodName} {cc' : ByteArray} {mL d' b idx ci N : Nat} {rt : Option FieldType} {a1 : Value} {r : Value} {rest : List Value} {S2 : St} {T : u_T} {fs : List Value} (h : Ok X cc own d) (hM : Ct (xl X) y cc' mL rt d' (xw X) [.ref b, a1] S (fun v S' => v = (some r) ∧ S' = S2)) (hc : CalV y cc' mL rt 1) (hlink : Cond.methodLink own idx y ∈ tb) (hd : d' + 1 ≤ d) (q0 : Nat) (hpl : (wS (xw X) S)[q0]? = some (b, .inr (ci, fs))) (hcl : vwCl[ci]? = some (y.cls, T, N)) (hroom : (rest.map fun v => v.category).sum ≤ 8) (dg : decode cc pc = .ok (.invokevirtual idx, 3)) (k : Wx X S2 (pc + 3) lv (r :: rest)) : Wx X S pc lv (a1 :: .ref b :: rest) := r_callV h hM hc hlink hd q0 hpl hcl rfl rfl hroom dg k
theorem cV1v {y : MethodName} {cc' : ByteArray} {mL d' b idx ci N : Nat} {rt : Option FieldType} {a1 : Value} {rest : List Value} {S2 : St} {T : u_T} {fs : List Value} (h : Ok X cc own d) (hM : Ct (xl X) y cc' mL rt d' (xw X) [.ref b, a1] S (fun v S' => v = none ∧ S' = S2)) (hc : CalV y cc' mL rt 1) (hlink : Cond.methodLink own idx y ∈ tb) (hd : d' + 1 ≤ d) (q0 : Nat) (hpl : (wS (xw X) S)[q0]? = some (b, .inr (ci, fs))) (hcl : vwCl[ci]? = some (y.cls, T, N)) (hroom : (rest.map fun v => v.category).sum ≤ 8) (dg : decode cc pc = .ok (.invokevirtual idx, 3)) (k : Wx X S2 (pc + 3) lv (rest)) : Wx X S pc lv (a1 :: .ref b :: rest) := r_callV h hM hc hlink hd q0 hpl hcl rfl rfl hroom dg k
theorem cS1 {y : MethodName} {cc' : ByteArray} {mL d' idx : Nat} {rt : Option FieldType} {a1 : Value} {r : Value} {rest : List Value} {S2 : St} (h : Ok X cc own d) (hM : Ct (xl X) y cc' mL rt d' (xw X) [a1] S (fun v S' => v = (some r) ∧ S' = S2)) (hc : CalS y cc' mL rt 1) (hlink : Cond.methodLink own idx y ∈ tb) (hd : d' + 1 ≤ d) (hroom : (rest.map fun v => v.category).sum ≤ 8) (dg : decode cc pc = .ok (.invokestatic idx, 3)) (k : Wx X S2 (pc + 3) lv (r :: rest)) : Wx X S pc lv (a1 :: rest) := r_callS h hM hc hlink hd rfl rfl hroom dg k
theorem cS1v {y : MethodName} {cc' : ByteArray} {mL d' idx : Nat} {rt : Option FieldType} {a1 : Value} {rest : List Value} {S2 : St} (h : Ok X cc own d) (hM : Ct (xl X) y cc' mL rt d' (xw X) [a1] S (fun v S' => v = none ∧ S' = S2)) (hc : CalS y cc' mL rt 1) (hlink : Cond.methodLink own idx y ∈ tb) (hd : d' + 1 ≤ d) (hroom : (rest.map fun v => v.category).sum ≤ 8) (dg : decode cc pc = .ok (.invokestatic idx, 3)) (k : Wx X S2 (pc + 3) lv (rest)) : Wx X S pc lv (a1 :: rest) := r_callS h hM hc hlink hd rfl rfl hroom dg k
theorem cN1 {y : MethodName} {cc' : ByteArray} {mL d' idx : Nat} {rt : Option FieldType} {a1 : Value} {r : Value} {rest : List Value} {S2 : St} (h : Ok X cc own d) (hM : Ct (xl X) y cc' mL rt d' (xw X) [a1] S (fun v S' => v = (some r) ∧ S' = S2)) (hc : CalS y cc' mL rt 1) (hlink : Cond.methodLinkNest own idx y "FarSums" ∈ nw) (hd : d' + 1 ≤ d) (hroom : (rest.map fun v => v.category).sum ≤ 8) (dg : decode cc pc = .ok (.invokestatic idx, 3)) (k : Wx X S2 (pc + 3) lv (r :: rest)) : Wx X S pc lv (a1 :: rest) := r_callN h hM hc hlink hd rfl rfl hroom dg k
theorem cN1v {y : MethodName} {cc' : ByteArray} {mL d' idx : Nat} {rt : Option FieldType} {a1 : Value} {rest : List Value} {S2 : St} (h : Ok X cc own d) (hM : Ct (xl X) y cc' mL rt d' (xw X) [a1] S (fun v S' => v = none ∧ S' = S2)) (hc : CalS y cc' mL rt 1) (hlink : Cond.methodLinkNest own idx y "FarSums" ∈ nw) (hd : d' + 1 ≤ d) (hroom : (rest.map fun v => v.category).sum ≤ 8) (dg : decode cc pc = .ok (.invokestatic idx, 3)) (k : Wx X S2 (pc + 3) lv (rest)) : Wx X S pc lv (a1 :: rest) := r_callN h hM hc hlink hd rfl rfl hroom dg k
theorem cV2 {y : MethodName} {cc' : ByteArray} {mL d' b idx ci N : Nat} {rt : Option FieldType} {a1 a2 : Value} {r : Value} {rest : List Value} {S2 : St} {T : u_T} {fs : List Value} (h : Ok X cc own d) (hM : Ct (xl X) y cc' mL rt d' (xw X) [.ref b, a1, a2] S (fun v S' => v = (some r) ∧ S' = S2)) (hc : CalV y cc' mL rt 2) (hlink : Cond.methodLink own idx y ∈ tb) (hd : d' + 1 ≤ d) (q0 : Nat) (hpl : (wS (xw X) S)[q0]? = some (b, .inr (ci, fs))) (hcl : vwCl[ci]? = some (y.cls, T, N)) (hroom : (rest.map fun v => v.category).sum ≤ 8) (dg : decode cc pc = .ok (.invokevirtual idx, 3)) (k : Wx X S2 (pc + 3) lv (r :: rest)) : Wx X S pc lv (a2 :: a1 :: .ref b :: rest) := r_callV h hM hc hlink hd q0 hpl hcl rfl rfl hroom dg k
theorem cV2v {y : MethodName} {cc' : ByteArray} {mL d' b idx ci N : Nat} {rt : Option FieldType} {a1 a2 : Value} {rest : List Value} {S2 : St} {T : u_T} {fs : List Value} (h : Ok X cc own d) (hM : Ct (xl X) y cc' mL rt d' (xw X) [.ref b, a1, a2] S (fun v S' => v = none ∧ S' = S2)) (hc : CalV y cc' mL rt 2) (hlink : Cond.methodLink own idx y ∈ tb) (hd : d' + 1 ≤ d) (q0 : Nat) (hpl : (wS (xw X) S)[q0]? = some (b, .inr (ci, fs))) (hcl : vwCl[ci]? = some (y.cls, T, N)) (hroom : (rest.map fun v => v.category).sum ≤ 8) (dg : decode cc pc = .ok (.invokevirtual idx, 3)) (k : Wx X S2 (pc + 3) lv (rest)) : Wx X S pc lv (a2 :: a1 :: .ref b :: rest) := r_callV h hM hc hlink hd q0 hpl hcl rfl rfl hroom dg k
theorem cS2 {y : MethodName} {cc' : ByteArray} {mL d' idx : Nat} {rt : Option FieldType} {a1 a2 : Value} {r : Value} {rest : List Value} {S2 : St} (h : Ok X cc own d) (hM : Ct (xl X) y cc' mL rt d' (xw X) [a1, a2] S (fun v S' => v = (some r) ∧ S' = S2)) (hc : CalS y cc' mL rt 2) (hlink : Cond.methodLink own idx y ∈ tb) (hd : d' + 1 ≤ d) (hroom : (rest.map fun v => v.category).sum ≤ 8) (dg : decode cc pc = .ok (.invokestatic idx, 3)) (k : Wx X S2 (pc + 3) lv (r :: rest)) : Wx X S pc lv (a2 :: a1 :: rest) := r_callS h hM hc hlink hd rfl rfl hroom dg k
theorem cS2v {y : MethodName} {cc' : ByteArray} {mL d' idx : Nat} {rt : Option FieldType} {a1 a2 : Value} {rest : List Value} {S2 : St} (h : Ok X cc own d) (hM : Ct (xl X) y cc' mL rt d' (xw X) [a1, a2] S (fun v S' => v = none ∧ S' = S2)) (hc : CalS y cc' mL rt 2) (hlink : Cond.methodLink own idx y ∈ tb) (hd : d' + 1 ≤ d) (hroom : (rest.map fun v => v.category).sum ≤ 8) (dg : decode cc pc = .ok (.invokestatic idx, 3)) (k : Wx X S2 (pc + 3) lv (rest)) : Wx X S pc lv (a2 :: a1 :: rest) := r_callS h hM hc hlink hd rfl rfl hroom dg k
theorem cN2 {y : MethodName} {cc' : ByteArray} {mL d' idx : Nat} {rt : Option FieldType} {a1 a2 : Value} {r : Value} {rest : List Value} {S2 : St} (h : Ok X cc own d) (hM : Ct (xl X) y cc' mL rt d' (xw X) [a1, a2] S (fun v S' => v = (some r) ∧ S' = S2)) (hc : CalS y cc' mL rt 2) (hlink : Cond.methodLinkNest own idx y "FarSums" ∈ nw) (hd : d' + 1 ≤ d) (hroom : (rest.map fun v => v.category).sum ≤ 8) (dg : decode cc pc = .ok (.invokestatic idx, 3)) (k : Wx X S2 (pc + 3) lv (r :: rest)) : Wx X S pc lv (a2 :: a1 :: rest) := r_callN h hM hc hlink hd rfl rfl hroom dg k
theorem cN2v {y : MethodName} {cc' : ByteArray} {mL d' idx : Nat} {rt : Option FieldType} {a1 a2 : Value} {rest : List Value} {S2 : St} (h : Ok X cc own d) (hM : Ct (xl X) y cc' mL rt d' (xw X) [a1, a2] S (fun v S' => v = none ∧ S' = S2)) (hc : CalS y cc' mL rt 2) (hlink : Cond.methodLinkNest own idx y "FarSums" ∈ nw) (hd : d' + 1 ≤ d) (hroom : (rest.map fun v => v.category).sum ≤ 8) (dg : decode cc pc = .ok (.invokestatic idx, 3)) (k : Wx X S2 (pc + 3) lv (rest)) : Wx X S pc lv (a2 :: a1 :: rest) := r_callN h hM hc hlink hd rfl rfl hroom dg k
theorem cV3 {y : MethodName} {cc' : ByteArray} {mL d' b idx ci N : Nat} {rt : Option FieldType} {a1 a2 a3 : Value} {r : Value} {rest : List Value} {S2 : St} {T : u_T} {fs : List Value} (h : Ok X cc own d) (hM : Ct (xl X) y cc' mL rt d' (xw X) [.ref b, a1, a2, a3] S (fun v S' => v = (some r) ∧ S' = S2)) (hc : CalV y cc' mL rt 3) (hlink : Cond.methodLink own idx y ∈ tb) (hd : d' + 1 ≤ d) (q0 : Nat) (hpl : (wS (xw X) S)[q0]? = some (b, .inr (ci, fs))) (hcl : vwCl[ci]? = some (y.cls, T, N)) (hroom : (rest.map fun v => v.category).sum ≤ 8) (dg : decode cc pc = .ok (.invokevirtual idx, 3)) (k : Wx X S2 (pc + 3) lv (r :: rest)) : Wx X S pc lv (a3 :: a2 :: a1 :: .ref b :: rest) := r_callV h hM hc hlink hd q0 hpl hcl rfl rfl hroom dg k
theorem cV3v {y : MethodName} {cc' : ByteArray} {mL d' b idx ci N : Nat} {rt : Option FieldType} {a1 a2 a3 : Value} {rest : List Value} {S2 : St} {T : u_T} {fs : List Value} (h : Ok X cc own d) (hM : Ct (xl X) y cc' mL rt d' (xw X) [.ref b, a1, a2, a3] S (fun v S' => v = none ∧ S' = S2)) (hc : CalV y cc' mL rt 3) (hlink : Cond.methodLink own idx y ∈ tb) (hd : d' + 1 ≤ d) (q0 : Nat) (hpl : (wS (xw X) S)[q0]? = some (b, .inr (ci, fs))) (hcl : vwCl[ci]? = some (y.cls, T, N)) (hroom : (rest.map fun v => v.category).sum ≤ 8) (dg : decode cc pc = .ok (.invokevirtual idx, 3)) (k : Wx X S2 (pc + 3) lv (rest)) : Wx X S pc lv (a3 :: a2 :: a1 :: .ref b :: rest) := r_callV h hM hc hlink hd q0 hpl hcl rfl rfl hroom dg k
theorem cS3 {y : MethodName} {cc' : ByteArray} {mL d' idx : Nat} {rt : Option FieldType} {a1 a2 a3 : Value} {r : Value} {rest : List Value} {S2 : St} (h : Ok X cc own d) (hM : Ct (xl X) y cc' mL rt d' (xw X) [a1, a2, a3] S (fun v S' => v = (some r) ∧ S' = S2)) (hc : CalS y cc' mL rt 3) (hlink : Cond.methodLink own idx y ∈ tb) (hd : d' + 1 ≤ d) (hroom : (rest.map fun v => v.category).sum ≤ 8) (dg : decode cc pc = .ok (.invokestatic idx, 3)) (k : Wx X S2 (pc + 3) lv (r :: rest)) : Wx X S pc lv (a3 :: a2 :: a1 :: rest) := r_callS h hM hc hlink hd rfl rfl hroom dg k
theorem cS3v {y : MethodName} {cc' : ByteArray} {mL d' idx : Nat} {rt : Option FieldType} {a1 a2 a3 : Value} {rest : List Value} {S2 : St} (h : Ok X cc own d) (hM : Ct (xl X) y cc' mL rt d' (xw X) [a1, a2, a3] S (fun v S' => v = none ∧ S' = S2)) (hc : CalS y cc' mL rt 3) (hlink : Cond.methodLink own idx y ∈ tb) (hd : d' + 1 ≤ d) (hroom : (rest.map fun v => v.category).sum ≤ 8) (dg : decode cc pc = .ok (.invokestatic idx, 3)) (k : Wx X S2 (pc + 3) lv (rest)) : Wx X S pc lv (a3 :: a2 :: a1 :: rest) := r_callS h hM hc hlink hd rfl rfl hroom dg k
theorem cN3 {y : MethodName} {cc' : ByteArray} {mL d' idx : Nat} {rt : Option FieldType} {a1 a2 a3 : Value} {r : Value} {rest : List Value} {S2 : St} (h : Ok X cc own d) (hM : Ct (xl X) y cc' mL rt d' (xw X) [a1, a2, a3] S (fun v S' => v = (some r) ∧ S' = S2)) (hc : CalS y cc' mL rt 3) (hlink : Cond.methodLinkNest own idx y "FarSums" ∈ nw) (hd : d' + 1 ≤ d) (hroom : (rest.map fun v => v.category).sum ≤ 8) (dg : decode cc pc = .ok (.invokestatic idx, 3)) (k : Wx X S2 (pc + 3) lv (r :: rest)) : Wx X S pc lv (a3 :: a2 :: a1 :: rest) := r_callN h hM hc hlink hd rfl rfl hroom dg k
theorem cN3v {y : MethodName} {cc' : ByteArray} {mL d' idx : Nat} {rt : Option FieldType} {a1 a2 a3 : Value} {rest : List Value} {S2 : St} (h : Ok X cc own d) (hM : Ct (xl X) y cc' mL rt d' (xw X) [a1, a2, a3] S (fun v S' => v = none ∧ S' = S2)) (hc : CalS y cc' mL rt 3) (hlink : Cond.methodLinkNest own idx y "FarSums" ∈ nw) (hd : d' + 1 ≤ d) (hroom : (rest.map fun v => v.category).sum ≤ 8) (dg : decode cc pc = .ok (.invokestatic idx, 3)) (k : Wx X S2 (pc + 3) lv (rest)) : Wx X S pc lv (a3 :: a2 :: a1 :: rest) := r_callN h hM hc hlink hd rfl rfl hroom dg k
theorem cV4 {y : MethodName} {cc' : ByteArray} {mL d' b idx ci N : Nat} {rt : Option FieldType} {a1 a2 a3 a4 : Value} {r : Value} {rest : List Value} {S2 : St} {T : u_T} {fs : List Value} (h : Ok X cc own d) (hM : Ct (xl X) y cc' mL rt d' (xw X) [.ref b, a1, a2, a3, a4] S (fun v S' => v = (some r) ∧ S' = S2)) (hc : CalV y cc' mL rt 4) (hlink : Cond.methodLink own idx y ∈ tb) (hd : d' + 1 ≤ d) (q0 : Nat) (hpl : (wS (xw X) S)[q0]? = some (b, .inr (ci, fs))) (hcl : vwCl[ci]? = some (y.cls, T, N)) (hroom : (rest.map fun v => v.category).sum ≤ 8) (dg : decode cc pc = .ok (.invokevirtual idx, 3)) (k : Wx X S2 (pc + 3) lv (r :: rest)) : Wx X S pc lv (a4 :: a3 :: a2 :: a1 :: .ref b :: rest) := r_callV h hM hc hlink hd q0 hpl hcl rfl rfl hroom dg k
theorem cV4v {y : MethodName} {cc' : ByteArray} {mL d' b idx ci N : Nat} {rt : Option FieldType} {a1 a2 a3 a4 : Value} {rest : List Value} {S2 : St} {T : u_T} {fs : List Value} (h : Ok X cc own d) (hM : Ct (xl X) y cc' mL rt d' (xw X) [.ref b, a1, a2, a3, a4] S (fun v S' => v = none ∧ S' = S2)) (hc : CalV y cc' mL rt 4) (hlink : Cond.methodLink own idx y ∈ tb) (hd : d' + 1 ≤ d) (q0 : Nat) (hpl : (wS (xw X) S)[q0]? = some (b, .inr (ci, fs))) (hcl : vwCl[ci]? = some (y.cls, T, N)) (hroom : (rest.map fun v => v.category).sum ≤ 8) (dg : decode cc pc = .ok (.invokevirtual idx, 3)) (k : Wx X S2 (pc + 3) lv (rest)) : Wx X S pc lv (a4 :: a3 :: a2 :: a1 :: .ref b :: rest) := r_callV h hM hc hlink hd q0 hpl hcl rfl rfl hroom dg k
theorem cS4 {y : MethodName} {cc' : ByteArray} {mL d' idx : Nat} {rt : Option FieldType} {a1 a2 a3 a4 : Value} {r : Value} {rest : List Value} {S2 : St} (h : Ok X cc own d) (hM : Ct (xl X) y cc' mL rt d' (xw X) [a1, a2, a3, a4] S (fun v S' => v = (some r) ∧ S' = S2)) (hc : CalS y cc' mL rt 4) (hlink : Cond.methodLink own idx y ∈ tb) (hd : d' + 1 ≤ d) (hroom : (rest.map fun v => v.category).sum ≤ 8) (dg : decode cc pc = .ok (.invokestatic idx, 3)) (k : Wx X S2 (pc + 3) lv (r :: rest)) : Wx X S pc lv (a4 :: a3 :: a2 :: a1 :: rest) := r_callS h hM hc hlink hd rfl rfl hroom dg k
theorem cS4v {y : MethodName} {cc' : ByteArray} {mL d' idx : Nat} {rt : Option FieldType} {a1 a2 a3 a4 : Value} {rest : List Value} {S2 : St} (h : Ok X cc own d) (hM : Ct (xl X) y cc' mL rt d' (xw X) [a1, a2, a3, a4] S (fun v S' => v = none ∧ S' = S2)) (hc : CalS y cc' mL rt 4) (hlink : Cond.methodLink own idx y ∈ tb) (hd : d' + 1 ≤ d) (hroom : (rest.map fun v => v.category).sum ≤ 8) (dg : decode cc pc = .ok (.invokestatic idx, 3)) (k : Wx X S2 (pc + 3) lv (rest)) : Wx X S pc lv (a4 :: a3 :: a2 :: a1 :: rest) := r_callS h hM hc hlink hd rfl rfl hroom dg k
theorem cN4 {y : MethodName} {cc' : ByteArray} {mL d' idx : Nat} {rt : Option FieldType} {a1 a2 a3 a4 : Value} {r : Value} {rest : List Value} {S2 : St} (h : Ok X cc own d) (hM : Ct (xl X) y cc' mL rt d' (xw X) [a1, a2, a3, a4] S (fun v S' => v = (some r) ∧ S' = S2)) (hc : CalS y cc' mL rt 4) (hlink : Cond.methodLinkNest own idx y "FarSums" ∈ nw) (hd : d' + 1 ≤ d) (hroom : (rest.map fun v => v.category).sum ≤ 8) (dg : decode cc pc = .ok (.invokestatic idx, 3)) (k : Wx X S2 (pc + 3) lv (r :: rest)) : Wx X S pc lv (a4 :: a3 :: a2 :: a1 :: rest) := r_callN h hM hc hlink hd rfl rfl hroom dg k
theorem cN4v {y : MethodName} {cc' : ByteArray} {mL d' idx : Nat} {rt : Option FieldType} {a1 a2 a3 a4 : Value} {rest : List Value} {S2 : St} (h : Ok X cc own d) (hM : Ct (xl X) y cc' mL rt d' (xw X) [a1, a2, a3, a4] S (fun v S' => v = none ∧ S' = S2)) (hc : CalS y cc' mL rt 4) (hlink : Cond.methodLinkNest own idx y "FarSums" ∈ nw) (hd : d' + 1 ≤ d) (hroom : (rest.map fun v => v.category).sum ≤ 8) (dg : decode cc pc = .ok (.invokestatic idx, 3)) (k : Wx X S2 (pc + 3) lv (rest)) : Wx X S pc lv (a4 :: a3 :: a2 :: a1 :: rest) := r_callN h hM hc hlink hd rfl rfl hroom dg k
theorem cV5 {y : MethodName} {cc' : ByteArray} {mL d' b idx ci N : Nat} {rt : Option FieldType} {a1 a2 a3 a4 a5 : Value} {r : Value} {rest : List Value} {S2 : St} {T : u_T} {fs : List Value} (h : Ok X cc own d) (hM : Ct (xl X) y cc' mL rt d' (xw X) [.ref b, a1, a2, a3, a4, a5] S (fun v S' => v = (some r) ∧ S' = S2)) (hc : CalV y cc' mL rt 5) (hlink : Cond.methodLink own idx y ∈ tb) (hd : d' + 1 ≤ d) (q0 : Nat) (hpl : (wS (xw X) S)[q0]? = some (b, .inr (ci, fs))) (hcl : vwCl[ci]? = some (y.cls, T, N)) (hroom : (rest.map fun v => v.category).sum ≤ 8) (dg : decode cc pc = .ok (.invokevirtual idx, 3)) (k : Wx X S2 (pc + 3) lv (r :: rest)) : Wx X S pc lv (a5 :: a4 :: a3 :: a2 :: a1 :: .ref b :: rest) := r_callV h hM hc hlink hd q0 hpl hcl rfl rfl hroom dg k
theorem cV5v {y : MethodName} {cc' : ByteArray} {mL d' b idx ci N : Nat} {rt : Option FieldType} {a1 a2 a3 a4 a5 : Value} {rest : List Value} {S2 : St} {T : u_T} {fs : List Value} (h : Ok X cc own d) (hM : Ct (xl X) y cc' mL rt d' (xw X) [.ref b, a1, a2, a3, a4, a5] S (fun v S' => v = none ∧ S' = S2)) (hc : CalV y cc' mL rt 5) (hlink : Cond.methodLink own idx y ∈ tb) (hd : d' + 1 ≤ d) (q0 : Nat) (hpl : (wS (xw X) S)[q0]? = some (b, .inr (ci, fs))) (hcl : vwCl[ci]? = some (y.cls, T, N)) (hroom : (rest.map fun v => v.category).sum ≤ 8) (dg : decode cc pc = .ok (.invokevirtual idx, 3)) (k : Wx X S2 (pc + 3) lv (rest)) : Wx X S pc lv (a5 :: a4 :: a3 :: a2 :: a1 :: .ref b :: rest) := r_callV h hM hc hlink hd q0 hpl hcl rfl rfl hroom dg k
theorem cS5 {y : MethodName} {cc' : ByteArray} {mL d' idx : Nat} {rt : Option FieldType} {a1 a2 a3 a4 a5 : Value} {r : Value} {rest : List Value} {S2 : St} (h : Ok X cc own d) (hM : Ct (xl X) y cc' mL rt d' (xw X) [a1, a2, a3, a4, a5] S (fun v S' => v = (some r) ∧ S' = S2)) (hc : CalS y cc' mL rt 5) (hlink : Cond.methodLink own idx y ∈ tb) (hd : d' + 1 ≤ d) (hroom : (rest.map fun v => v.category).sum ≤ 8) (dg : decode cc pc = .ok (.invokestatic idx, 3)) (k : Wx X S2 (pc + 3) lv (r :: rest)) : Wx X S pc lv (a5 :: a4 :: a3 :: a2 :: a1 :: rest) := r_callS h hM hc hlink hd rfl rfl hroom dg k
theorem cS5v {y : MethodName} {cc' : ByteArray} {mL d' idx : Nat} {rt : Option FieldType} {a1 a2 a3 a4 a5 : Value} {rest : List Value} {S2 : St} (h : Ok X cc own d) (hM : Ct (xl X) y cc' mL rt d' (xw X) [a1, a2, a3, a4, a5] S (fun v S' => v = none ∧ S' = S2)) (hc : CalS y cc' mL rt 5) (hlink : Cond.methodLink own idx y ∈ tb) (hd : d' + 1 ≤ d) (hroom : (rest.map fun v => v.category).sum ≤ 8) (dg : decode cc pc = .ok (.invokestatic idx, 3)) (k : Wx X S2 (pc + 3) lv (rest)) : Wx X S pc lv (a5 :: a4 :: a3 :: a2 :: a1 :: rest) := r_callS h hM hc hlink hd rfl rfl hroom dg k
theorem cN5 {y : MethodName} {cc' : ByteArray} {mL d' idx : Nat} {rt : Option FieldType} {a1 a2 a3 a4 a5 : Value} {r : Value} {rest : List Value} {S2 : St} (h : Ok X cc own d) (hM : Ct (xl X) y cc' mL rt d' (xw X) [a1, a2, a3, a4, a5] S (fun v S' => v = (some r) ∧ S' = S2)) (hc : CalS y cc' mL rt 5) (hlink : Cond.methodLinkNest own idx y "FarSums" ∈ nw) (hd : d' + 1 ≤ d) (hroom : (rest.map fun v => v.category).sum ≤ 8) (dg : decode cc pc = .ok (.invokestatic idx, 3)) (k : Wx X S2 (pc + 3) lv (r :: rest)) : Wx X S pc lv (a5 :: a4 :: a3 :: a2 :: a1 :: rest) := r_callN h hM hc hlink hd rfl rfl hroom dg k
theorem cN5v {y : MethodName} {cc' : ByteArray} {mL d' idx : Nat} {rt : Option FieldType} {a1 a2 a3 a4 a5 : Value} {rest : List Value} {S2 : St} (h : Ok X cc own d) (hM : Ct (xl X) y cc' mL rt d' (xw X) [a1, a2, a3, a4, a5] S (fun v S' => v = none ∧ S' = S2)) (hc : CalS y cc' mL rt 5) (hlink : Cond.methodLinkNest own idx y "FarSums" ∈ nw) (hd : d' + 1 ≤ d) (hroom : (rest.map fun v => v.category).sum ≤ 8) (dg : decode cc pc = .ok (.invokestatic idx, 3)) (k : Wx X S2 (pc + 3) lv (rest)) : Wx X S pc lv (a5 :: a4 :: a3 :: a2 :: a1 :: rest) := r_callN h hM hc hlink hd rfl rfl hroom dg k
theorem cV6 {y : MethodName} {cc' : ByteArray} {mL d' b idx ci N : Nat} {rt : Option FieldType} {a1 a2 a3 a4 a5 a6 : Value} {r : Value} {rest : List Value} {S2 : St} {T : u_T} {fs : List Value} (h : Ok X cc own d) (hM : Ct (xl X) y cc' mL rt d' (xw X) [.ref b, a1, a2, a3, a4, a5, a6] S (fun v S' => v = (some r) ∧ S' = S2)) (hc : CalV y cc' mL rt 6) (hlink : Cond.methodLink own idx y ∈ tb) (hd : d' + 1 ≤ d) (q0 : Nat) (hpl : (wS (xw X) S)[q0]? = some (b, .inr (ci, fs))) (hcl : vwCl[ci]? = some (y.cls, T, N)) (hroom : (rest.map fun v => v.category).sum ≤ 8) (dg : decode cc pc = .ok (.invokevirtual idx, 3)) (k : Wx X S2 (pc + 3) lv (r :: rest)) : Wx X S pc lv (a6 :: a5 :: a4 :: a3 :: a2 :: a1 :: .ref b :: rest) := r_callV h hM hc hlink hd q0 hpl hcl rfl rfl hroom dg k
theorem cV6v {y : MethodName} {cc' : ByteArray} {mL d' b idx ci N : Nat} {rt : Option FieldType} {a1 a2 a3 a4 a5 a6 : Value} {rest : List Value} {S2 : St} {T : u_T} {fs : List Value} (h : Ok X cc own d) (hM : Ct (xl X) y cc' mL rt d' (xw X) [.ref b, a1, a2, a3, a4, a5, a6] S (fun v S' => v = none ∧ S' = S2)) (hc : CalV y cc' mL rt 6) (hlink : Cond.methodLink own idx y ∈ tb) (hd : d' + 1 ≤ d) (q0 : Nat) (hpl : (wS (xw X) S)[q0]? = some (b, .inr (ci, fs))) (hcl : vwCl[ci]? = some (y.cls, T, N)) (hroom : (rest.map fun v => v.category).sum ≤ 8) (dg : decode cc pc = .ok (.invokevirtual idx, 3)) (k : Wx X S2 (pc + 3) lv (rest)) : Wx X S pc lv (a6 :: a5 :: a4 :: a3 :: a2 :: a1 :: .ref b :: rest) := r_callV h hM hc hlink hd q0 hpl hcl rfl rfl hroom dg k
theorem cS6 {y : MethodName} {cc' : ByteArray} {mL d' idx : Nat} {rt : Option FieldType} {a1 a2 a3 a4 a5 a6 : Value} {r : Value} {rest : List Value} {S2 : St} (h : Ok X cc own d) (hM : Ct (xl X) y cc' mL rt d' (xw X) [a1, a2, a3, a4, a5, a6] S (fun v S' => v = (some r) ∧ S' = S2)) (hc : CalS y cc' mL rt 6) (hlink : Cond.methodLink own idx y ∈ tb) (hd : d' + 1 ≤ d) (hroom : (rest.map fun v => v.category).sum ≤ 8) (dg : decode cc pc = .ok (.invokestatic idx, 3)) (k : Wx X S2 (pc + 3) lv (r :: rest)) : Wx X S pc lv (a6 :: a5 :: a4 :: a3 :: a2 :: a1 :: rest) := r_callS h hM hc hlink hd rfl rfl hroom dg k
theorem cS6v {y : MethodName} {cc' : ByteArray} {mL d' idx : Nat} {rt : Option FieldType} {a1 a2 a3 a4 a5 a6 : Value} {rest : List Value} {S2 : St} (h : Ok X cc own d) (hM : Ct (xl X) y cc' mL rt d' (xw X) [a1, a2, a3, a4, a5, a6] S (fun v S' => v = none ∧ S' = S2)) (hc : CalS y cc' mL rt 6) (hlink : Cond.methodLink own idx y ∈ tb) (hd : d' + 1 ≤ d) (hroom : (rest.map fun v => v.category).sum ≤ 8) (dg : decode cc pc = .ok (.invokestatic idx, 3)) (k : Wx X S2 (pc + 3) lv (rest)) : Wx X S pc lv (a6 :: a5 :: a4 :: a3 :: a2 :: a1 :: rest) := r_callS h hM hc hlink hd rfl rfl hroom dg k
theorem cN6 {y : MethodName} {cc' : ByteArray} {mL d' idx : Nat} {rt : Option FieldType} {a1 a2 a3 a4 a5 a6 : Value} {r : Value} {rest : List Value} {S2 : St} (h : Ok X cc own d) (hM : Ct (xl X) y cc' mL rt d' (xw X) [a1, a2, a3, a4, a5, a6] S (fun v S' => v = (some r) ∧ S' = S2)) (hc : CalS y cc' mL rt 6) (hlink : Cond.methodLinkNest own idx y "FarSums" ∈ nw) (hd : d' + 1 ≤ d) (hroom : (rest.map fun v => v.category).sum ≤ 8) (dg : decode cc pc = .ok (.invokestatic idx, 3)) (k : Wx X S2 (pc + 3) lv (r :: rest)) : Wx X S pc lv (a6 :: a5 :: a4 :: a3 :: a2 :: a1 :: rest) := r_callN h hM hc hlink hd rfl rfl hroom dg k
theorem cN6v {y : MethodName} {cc' : ByteArray} {mL d' idx : Nat} {rt : Option FieldType} {a1 a2 a3 a4 a5 a6 : Value} {rest : List Value} {S2 : St} (h : Ok X cc own d) (hM : Ct (xl X) y cc' mL rt d' (xw X) [a1, a2, a3, a4, a5, a6] S (fun v S' => v = none ∧ S' = S2)) (hc : CalS y cc' mL rt 6) (hlink : Cond.methodLinkNest own idx y "FarSums" ∈ nw) (hd : d' + 1 ≤ d) (hroom : (rest.map fun v => v.category).sum ≤ 8) (dg : decode cc pc = .ok (.invokestatic idx, 3)) (k : Wx X S2 (pc + 3) lv (rest)) : Wx X S pc lv (a6 :: a5 :: a4 :: a3 :: a2 :: a1 :: rest) := r_callN h hM hc hlink hd rfl rfl hroom dg k
theorem cV7 {y : MethodName} {cc' : ByteArray} {mL d' b idx ci N : Nat} {rt : Option FieldType} {a1 a2 a3 a4 a5 a6 a7 : Value} {r : Value} {rest : List Value} {S2 : St} {T : u_T} {fs : List Value} (h : Ok X cc own d) (hM : Ct (xl X) y cc' mL rt d' (xw X) [.ref b, a1, a2, a3, a4, a5, a6, a7] S (fun v S' => v = (some r) ∧ S' = S2)) (hc : CalV y cc' mL rt 7) (hlink : Cond.methodLink own idx y ∈ tb) (hd : d' + 1 ≤ d) (q0 : Nat) (hpl : (wS (xw X) S)[q0]? = some (b, .inr (ci, fs))) (hcl : vwCl[ci]? = some (y.cls, T, N)) (hroom : (rest.map fun v => v.category).sum ≤ 8) (dg : decode cc pc = .ok (.invokevirtual idx, 3)) (k : Wx X S2 (pc + 3) lv (r :: rest)) : Wx X S pc lv (a7 :: a6 :: a5 :: a4 :: a3 :: a2 :: a1 :: .ref b :: rest) := r_callV h hM hc hlink hd q0 hpl hcl rfl rfl hroom dg k
theorem cV7v {y : MethodName} {cc' : ByteArray} {mL d' b idx ci N : Nat} {rt : Option FieldType} {a1 a2 a3 a4 a5 a6 a7 : Value} {rest : List Value} {S2 : St} {T : u_T} {fs : List Value} (h : Ok X cc own d) (hM : Ct (xl X) y cc' mL rt d' (xw X) [.ref b, a1, a2, a3, a4, a5, a6, a7] S (fun v S' => v = none ∧ S' = S2)) (hc : CalV y cc' mL rt 7) (hlink : Cond.methodLink own idx y ∈ tb) (hd : d' + 1 ≤ d) (q0 : Nat) (hpl : (wS (xw X) S)[q0]? = some (b, .inr (ci, fs))) (hcl : vwCl[ci]? = some (y.cls, T, N)) (hroom : (rest.map fun v => v.category).sum ≤ 8) (dg : decode cc pc = .ok (.invokevirtual idx, 3)) (k : Wx X S2 (pc + 3) lv (rest)) : Wx X S pc lv (a7 :: a6 :: a5 :: a4 :: a3 :: a2 :: a1 :: .ref b :: rest) := r_callV h hM hc hlink hd q0 hpl hcl rfl rfl hroom dg k
theorem cS7 {y : MethodName} {cc' : ByteArray} {mL d' idx : Nat} {rt : Option FieldType} {a1 a2 a3 a4 a5 a6 a7 : Value} {r : Value} {rest : List Value} {S2 : St} (h : Ok X cc own d) (hM : Ct (xl X) y cc' mL rt d' (xw X) [a1, a2, a3, a4, a5, a6, a7] S (fun v S' => v = (some r) ∧ S' = S2)) (hc : CalS y cc' mL rt 7) (hlink : Cond.methodLink own idx y ∈ tb) (hd : d' + 1 ≤ d) (hroom : (rest.map fun v => v.category).sum ≤ 8) (dg : decode cc pc = .ok (.invokestatic idx, 3)) (k : Wx X S2 (pc + 3) lv (r :: rest)) : Wx X S pc lv (a7 :: a6 :: a5 :: a4 :: a3 :: a2 :: a1 :: rest) := r_callS h hM hc hlink hd rfl rfl hroom dg k
theorem cS7v {y : MethodName} {cc' : ByteArray} {mL d' idx : Nat} {rt : Option FieldType} {a1 a2 a3 a4 a5 a6 a7 : Value} {rest : List Value} {S2 : St} (h : Ok X cc own d) (hM : Ct (xl X) y cc' mL rt d' (xw X) [a1, a2, a3, a4, a5, a6, a7] S (fun v S' => v = none ∧ S' = S2)) (hc : CalS y cc' mL rt 7) (hlink : Cond.methodLink own idx y ∈ tb) (hd : d' + 1 ≤ d) (hroom : (rest.map fun v => v.category).sum ≤ 8) (dg : decode cc pc = .ok (.invokestatic idx, 3)) (k : Wx X S2 (pc + 3) lv (rest)) : Wx X S pc lv (a7 :: a6 :: a5 :: a4 :: a3 :: a2 :: a1 :: rest) := r_callS h hM hc hlink hd rfl rfl hroom dg k
theorem cN7 {y : MethodName} {cc' : ByteArray} {mL d' idx : Nat} {rt : Option FieldType} {a1 a2 a3 a4 a5 a6 a7 : Value} {r : Value} {rest : List Value} {S2 : St} (h : Ok X cc own d) (hM : Ct (xl X) y cc' mL rt d' (xw X) [a1, a2, a3, a4, a5, a6, a7] S (fun v S' => v = (some r) ∧ S' = S2)) (hc : CalS y cc' mL rt 7) (hlink : Cond.methodLinkNest own idx y "FarSums" ∈ nw) (hd : d' + 1 ≤ d) (hroom : (rest.map fun v => v.category).sum ≤ 8) (dg : decode cc pc = .ok (.invokestatic idx, 3)) (k : Wx X S2 (pc + 3) lv (r :: rest)) : Wx X S pc lv (a7 :: a6 :: a5 :: a4 :: a3 :: a2 :: a1 :: rest) := r_callN h hM hc hlink hd rfl rfl hroom dg k
theorem cN7v {y : MethodName} {cc' : ByteArray} {mL d' idx : Nat} {rt : Option FieldType} {a1 a2 a3 a4 a5 a6 a7 : Value} {rest : List Value} {S2 : St} (h : Ok X cc own d) (hM : Ct (xl X) y cc' mL rt d' (xw X) [a1, a2, a3, a4, a5, a6, a7] S (fun v S' => v = none ∧ S' = S2)) (hc : CalS y cc' mL rt 7) (hlink : Cond.methodLinkNest own idx y "FarSums" ∈ nw) (hd : d' + 1 ≤ d) (hroom : (rest.map fun v => v.category).sum ≤ 8) (dg : decode cc pc = .ok (.invokestatic idx, 3)) (k : Wx X S2 (pc + 3) lv (rest)) : Wx X S pc lv (a7 :: a6 :: a5 :: a4 :: a3 :: a2 :: a1 :: rest) := r_callN h hM hc hlink hd rfl rfl hroom dg k
end
end
section
theorem lm_L_9 : Cond.methodLink RL 9 yX6_init ∈ tb := tb_at 12 (by decide +kernel) rfl
theorem ln_X6_9 : Cond.methodLinkNest RX6 9 yX2_init "FarSums" ∈ nw := nw_at 20 (by decide +kernel) rfl
theorem lf_X2_9 : Cond.fieldLink RX2 9 "FarSums$Points" "here" "[Z" ∈ tb := tb_at 24 (by decide +kernel) rfl
theorem lf_X1_60 : Cond.fieldLink RX1 60 "FarSums$Points" "here" "[Z" ∈ tb := tb_at 25 (by decide +kernel) rfl
theorem lf_X0_43 : Cond.fieldLink RX0 43 "FarSums$Points" "here" "[Z" ∈ tb := tb_at 26 (by decide +kernel) rfl
theorem lf_X6_133 : Cond.fieldLink RX6 133 "FarSums$Points" "here" "[Z" ∈ tb := tb_at 27 (by decide +kernel) rfl
theorem lf_X2_15 : Cond.fieldLink RX2 15 "FarSums$Points" "x" "[I" ∈ tb := tb_at 28 (by decide +kernel) rfl
theorem lf_X6_86 : Cond.fieldLink RX6 86 "FarSums$Points" "x" "[I" ∈ tb := tb_at 29 (by decide +kernel) rfl
theorem lf_X1_66 : Cond.fieldLink RX1 66 "FarSums$Points" "x" "[I" ∈ tb := tb_at 30 (by decide +kernel) rfl
theorem lf_X0_49 : Cond.fieldLink RX0 49 "FarSums$Points" "x" "[I" ∈ tb := tb_at 31 (by decide +kernel) rfl
theorem lf_X2_19 : Cond.fieldLink RX2 19 "FarSums$Points" "y" "[I" ∈ tb := tb_at 32 (by decide +kernel) rfl
theorem lf_X6_90 : Cond.fieldLink RX6 90 "FarSums$Points" "y" "[I" ∈ tb := tb_at 33 (by decide +kernel) rfl
theorem lf_X1_69 : Cond.fieldLink RX1 69 "FarSums$Points" "y" "[I" ∈ tb := tb_at 34 (by decide +kernel) rfl
theorem lf_X0_56 : Cond.fieldLink RX0 56 "FarSums$Points" "y" "[I" ∈ tb := tb_at 35 (by decide +kernel) rfl
theorem lf_X2_22 : Cond.fieldLink RX2 22 "FarSums$Points" "weight" "[I" ∈ tb := tb_at 36 (by decide +kernel) rfl
theorem lf_X6_108 : Cond.fieldLink RX6 108 "FarSums$Points" "weight" "[I" ∈ tb := tb_at 37 (by decide +kernel) rfl
theorem lf_X0_63 : Cond.fieldLink RX0 63 "FarSums$Points" "weight" "[I" ∈ tb := tb_at 38 (by decide +kernel) rfl
theorem lf_X2_25 : Cond.fieldLink RX2 25 "FarSums$Points" "paceX" "[I" ∈ tb := tb_at 39 (by decide +kernel) rfl
theorem lf_X1_97 : Cond.fieldLink RX1 97 "FarSums$Points" "paceX" "[I" ∈ tb := tb_at 40 (by decide +kernel) rfl
theorem lf_X2_28 : Cond.fieldLink RX2 28 "FarSums$Points" "paceY" "[I" ∈ tb := tb_at 41 (by decide +kernel) rfl
theorem lf_X1_100 : Cond.fieldLink RX1 100 "FarSums$Points" "paceY" "[I" ∈ tb := tb_at 42 (by decide +kernel) rfl
theorem lf_X2_31 : Cond.fieldLink RX2 31 "FarSums$Points" "number" "I" ∈ tb := tb_at 43 (by decide +kernel) rfl
theorem lf_X6_100 : Cond.fieldLink RX6 100 "FarSums$Points" "number" "I" ∈ tb := tb_at 44 (by decide +kernel) rfl
theorem lm_X6_18 : Cond.methodLink RX6 18 yX0_init ∈ tb := tb_at 64 (by decide +kernel) rfl
theorem lf_X0_26 : Cond.fieldLink RX0 26 "FarSums$Boxes" "points" "LFarSums$Points;" ∈ tb := tb_at 68 (by decide +kernel) rfl
theorem lf_X0_9 : Cond.fieldLink RX0 9 "FarSums$Boxes" "tally" "[I" ∈ tb := tb_at 69 (by decide +kernel) rfl
theorem lf_X0_15 : Cond.fieldLink RX0 15 "FarSums$Boxes" "room" "I" ∈ tb := tb_at 70 (by decide +kernel) rfl
theorem lf_X6_128 : Cond.fieldLink RX6 128 "FarSums$Boxes" "room" "I" ∈ tb := tb_at 71 (by decide +kernel) rfl
theorem lf_X0_19 : Cond.fieldLink RX0 19 "FarSums$Boxes" "moments" "[J" ∈ tb := tb_at 72 (by decide +kernel) rfl
theorem lf_X1_50 : Cond.fieldLink RX1 50 "FarSums$Boxes" "moments" "[J" ∈ tb := tb_at 73 (by decide +kernel) rfl
theorem lf_X6_174 : Cond.fieldLink RX6 174 "FarSums$Boxes" "moments" "[J" ∈ tb := tb_at 74 (by decide +kernel) rfl
theorem lf_X0_23 : Cond.fieldLink RX0 23 "FarSums$Boxes" "bulk" "I" ∈ tb := tb_at 75 (by decide +kernel) rfl
theorem lf_X6_168 : Cond.fieldLink RX6 168 "FarSums$Boxes" "bulk" "I" ∈ tb := tb_at 76 (by decide +kernel) rfl
theorem ln_X6_27 : Cond.methodLinkNest RX6 27 yX3_init "FarSums" ∈ nw := nw_at 91 (by decide +kernel) rfl
theorem lf_X3_9 : Cond.fieldLink RX3 9 "FarSums$Polynomial" "numbers" "[J" ∈ tb := tb_at 95 (by decide +kernel) rfl
theorem lm_X6_32 : Cond.methodLink RX6 32 yX3_set ∈ tb := tb_at 99 (by decide +kernel) rfl
theorem ln_X3_15 : Cond.methodLinkNest RX3 15 yX6_slot "FarSums" ∈ nw := nw_at 103 (by decide +kernel) rfl
theorem lm_X6_38 : Cond.methodLink RX6 38 yX4_init ∈ tb := tb_at 108 (by decide +kernel) rfl
theorem ln_X4_11 : Cond.methodLinkNest RX4 11 yX3_init "FarSums" ∈ nw := nw_at 113 (by decide +kernel) rfl
theorem lf_X4_18 : Cond.fieldLink RX4 18 "FarSums$Series" "factors" "LFarSums$Polynomial;" ∈ tb := tb_at 114 (by decide +kernel) rfl
theorem lf_X4_12 : Cond.fieldLink RX4 12 "FarSums$Series" "result" "LFarSums$Polynomial;" ∈ tb := tb_at 115 (by decide +kernel) rfl
theorem lf_X1_80 : Cond.fieldLink RX1 80 "FarSums$Series" "result" "LFarSums$Polynomial;" ∈ tb := tb_at 116 (by decide +kernel) rfl
theorem lf_X6_251 : Cond.fieldLink RX6 251 "FarSums$Series" "result" "LFarSums$Polynomial;" ∈ tb := tb_at 117 (by decide +kernel) rfl
theorem lm_X6_47 : Cond.methodLink RX6 47 yX5_init ∈ tb := tb_at 125 (by decide +kernel) rfl
theorem lf_X5_34 : Cond.fieldLink RX5 34 "FarSums$Trail" "points" "LFarSums$Points;" ∈ tb := tb_at 129 (by decide +kernel) rfl
theorem lf_X5_38 : Cond.fieldLink RX5 38 "FarSums$Trail" "boxes" "LFarSums$Boxes;" ∈ tb := tb_at 130 (by decide +kernel) rfl
theorem lf_X5_9 : Cond.fieldLink RX5 9 "FarSums$Trail" "level" "[I" ∈ tb := tb_at 131 (by decide +kernel) rfl
theorem lf_X6_231 : Cond.fieldLink RX6 231 "FarSums$Trail" "level" "[I" ∈ tb := tb_at 132 (by decide +kernel) rfl
theorem lf_X5_15 : Cond.fieldLink RX5 15 "FarSums$Trail" "first" "[I" ∈ tb := tb_at 133 (by decide +kernel) rfl
theorem lf_X6_234 : Cond.fieldLink RX6 234 "FarSums$Trail" "first" "[I" ∈ tb := tb_at 134 (by decide +kernel) rfl
theorem lf_X5_18 : Cond.fieldLink RX5 18 "FarSums$Trail" "second" "[I" ∈ tb := tb_at 135 (by decide +kernel) rfl
theorem lf_X6_244 : Cond.fieldLink RX6 244 "FarSums$Trail" "second" "[I" ∈ tb := tb_at 136 (by decide +kernel) rfl
theorem lf_X5_21 : Cond.fieldLink RX5 21 "FarSums$Trail" "length" "I" ∈ tb := tb_at 137 (by decide +kernel) rfl
theorem lf_X6_153 : Cond.fieldLink RX6 153 "FarSums$Trail" "length" "I" ∈ tb := tb_at 138 (by decide +kernel) rfl
theorem lf_X5_25 : Cond.fieldLink RX5 25 "FarSums$Trail" "placeX" "I" ∈ tb := tb_at 139 (by decide +kernel) rfl
theorem lf_X5_28 : Cond.fieldLink RX5 28 "FarSums$Trail" "placeY" "I" ∈ tb := tb_at 140 (by decide +kernel) rfl
theorem lf_X5_31 : Cond.fieldLink RX5 31 "FarSums$Trail" "distance" "I" ∈ tb := tb_at 141 (by decide +kernel) rfl
theorem lm_X6_56 : Cond.methodLink RX6 56 yX1_init ∈ tb := tb_at 163 (by decide +kernel) rfl
theorem lf_X1_22 : Cond.fieldLink RX1 22 "FarSums$Motion" "points" "LFarSums$Points;" ∈ tb := tb_at 167 (by decide +kernel) rfl
theorem lf_X1_26 : Cond.fieldLink RX1 26 "FarSums$Motion" "boxes" "LFarSums$Boxes;" ∈ tb := tb_at 168 (by decide +kernel) rfl
theorem lf_X1_30 : Cond.fieldLink RX1 30 "FarSums$Motion" "series" "LFarSums$Series;" ∈ tb := tb_at 169 (by decide +kernel) rfl
theorem lf_X1_9 : Cond.fieldLink RX1 9 "FarSums$Motion" "pushX" "[I" ∈ tb := tb_at 170 (by decide +kernel) rfl
theorem lf_X1_15 : Cond.fieldLink RX1 15 "FarSums$Motion" "pushY" "[I" ∈ tb := tb_at 171 (by decide +kernel) rfl
theorem lf_X1_18 : Cond.fieldLink RX1 18 "FarSums$Motion" "steps" "I" ∈ tb := tb_at 172 (by decide +kernel) rfl
theorem lf_X6_193 : Cond.fieldLink RX6 193 "FarSums$Motion" "steps" "I" ∈ tb := tb_at 173 (by decide +kernel) rfl
theorem lf_X6_10 : Cond.fieldLink RX6 10 "FarSums" "points" "LFarSums$Points;" ∈ tb := tb_at 187 (by decide +kernel) rfl
theorem lf_X6_21 : Cond.fieldLink RX6 21 "FarSums" "boxes" "LFarSums$Boxes;" ∈ tb := tb_at 188 (by decide +kernel) rfl
theorem lf_X6_28 : Cond.fieldLink RX6 28 "FarSums" "factors" "LFarSums$Polynomial;" ∈ tb := tb_at 189 (by decide +kernel) rfl
theorem lf_X6_41 : Cond.fieldLink RX6 41 "FarSums" "series" "LFarSums$Series;" ∈ tb := tb_at 190 (by decide +kernel) rfl
theorem lf_X6_50 : Cond.fieldLink RX6 50 "FarSums" "trail" "LFarSums$Trail;" ∈ tb := tb_at 191 (by decide +kernel) rfl
theorem lf_X6_59 : Cond.fieldLink RX6 59 "FarSums" "motion" "LFarSums$Motion;" ∈ tb := tb_at 192 (by decide +kernel) rfl
theorem lm_L_13 : Cond.methodLink RL 13 yX6_point ∈ tb := tb_at 206 (by decide +kernel) rfl
theorem lm_X6_63 : Cond.methodLink RX6 63 yX6_isPlace ∈ tb := tb_at 210 (by decide +kernel) rfl
theorem lm_X6_67 : Cond.methodLink RX6 67 yX6_isWeight ∈ tb := tb_at 213 (by decide +kernel) rfl
theorem lm_X6_71 : Cond.methodLink RX6 71 yX2_leastFree ∈ tb := tb_at 216 (by decide +kernel) rfl
theorem lm_X6_75 : Cond.methodLink RX6 75 yX2_add ∈ tb := tb_at 220 (by decide +kernel) rfl
theorem lm_X2_35 : Cond.methodLink RX2 35 yX2_put ∈ tb := tb_at 224 (by decide +kernel) rfl
theorem lm_X2_39 : Cond.methodLink RX2 39 yX2_setPace ∈ tb := tb_at 228 (by decide +kernel) rfl
theorem lm_X6_79 : Cond.methodLink RX6 79 yX0_enter ∈ tb := tb_at 232 (by decide +kernel) rfl
theorem lm_X0_30 : Cond.methodLink RX0 30 yX0_placeIndex ∈ tb := tb_at 236 (by decide +kernel) rfl
theorem lm_X0_52 : Cond.methodLink RX0 52 yX0_numberAt ∈ tb := tb_at 239 (by decide +kernel) rfl
theorem lm_X0_34 : Cond.methodLink RX0 34 yX0_boxIndex ∈ tb := tb_at 242 (by decide +kernel) rfl
theorem lf_X0_40 : Cond.fieldLinkNest RX0 40 "FarSums" "FIRST_OF_LEVEL" "[I" "FarSums" ∈ nw := nw_at 245 (by decide +kernel) rfl
theorem lm_L_18 : Cond.methodLink RL 18 yX6_take ∈ tb := tb_at 247 (by decide +kernel) rfl
theorem lm_X6_83 : Cond.methodLink RX6 83 yX2_has ∈ tb := tb_at 251 (by decide +kernel) rfl
theorem lm_X6_93 : Cond.methodLink RX6 93 yX0_leave ∈ tb := tb_at 255 (by decide +kernel) rfl
theorem lm_X6_96 : Cond.methodLink RX6 96 yX2_remove ∈ tb := tb_at 259 (by decide +kernel) rfl
theorem lm_L_23 : Cond.methodLink RL 23 yX6_move ∈ tb := tb_at 263 (by decide +kernel) rfl
theorem lm_X6_104 : Cond.methodLink RX6 104 yX2_put ∈ tb := tb_at 267 (by decide +kernel) rfl
theorem lm_L_27 : Cond.methodLink RL 27 yX6_weigh ∈ tb := tb_at 268 (by decide +kernel) rfl
theorem lm_L_32 : Cond.methodLink RL 32 yX6_pace ∈ tb := tb_at 272 (by decide +kernel) rfl
theorem lm_X6_111 : Cond.methodLink RX6 111 yX6_isPaceNumber ∈ tb := tb_at 276 (by decide +kernel) rfl
theorem lm_X6_114 : Cond.methodLink RX6 114 yX2_setPace ∈ tb := tb_at 279 (by decide +kernel) rfl
theorem lm_L_36 : Cond.methodLink RL 36 yX6_at ∈ tb := tb_at 280 (by decide +kernel) rfl
theorem lm_X6_117 : Cond.methodLink RX6 117 yX2_read ∈ tb := tb_at 284 (by decide +kernel) rfl
theorem lm_L_40 : Cond.methodLink RL 40 yX6_kernel ∈ tb := tb_at 288 (by decide +kernel) rfl
theorem lm_X6_121 : Cond.methodLink RX6 121 yX6_isPowers ∈ tb := tb_at 292 (by decide +kernel) rfl
theorem lm_X6_124 : Cond.methodLink RX6 124 yX3_get ∈ tb := tb_at 295 (by decide +kernel) rfl
theorem lm_L_44 : Cond.methodLink RL 44 yX6_capacity ∈ tb := tb_at 299 (by decide +kernel) rfl
theorem lm_L_48 : Cond.methodLink RL 48 yX6_sum ∈ tb := tb_at 303 (by decide +kernel) rfl
theorem lc_X6_131 : Cond.constantLong RX6 131 (-9000000000000000000) ∈ tb := tb_at 307 (by decide +kernel) rfl
theorem lm_X6_137 : Cond.methodLink RX6 137 yX6_pullOf ∈ tb := tb_at 308 (by decide +kernel) rfl
theorem lm_X6_227 : Cond.methodLink RX6 227 yX3_valueAt ∈ tb := tb_at 312 (by decide +kernel) rfl
theorem lm_L_53 : Cond.methodLink RL 53 yX6_across ∈ tb := tb_at 316 (by decide +kernel) rfl
theorem lm_X6_141 : Cond.methodLink RX6 141 yX6_isDistance ∈ tb := tb_at 320 (by decide +kernel) rfl
theorem lm_X6_144 : Cond.methodLink RX6 144 yX5_trace ∈ tb := tb_at 323 (by decide +kernel) rfl
theorem lm_X5_42 : Cond.methodLink RX5 42 yX5_visit ∈ tb := tb_at 327 (by decide +kernel) rfl
theorem lm_X5_46 : Cond.methodLink RX5 46 yX0_pointsIn ∈ tb := tb_at 331 (by decide +kernel) rfl
theorem lm_X5_52 : Cond.methodLink RX5 52 yX5_isFar ∈ tb := tb_at 335 (by decide +kernel) rfl
theorem ln_X5_65 : Cond.methodLinkNest RX5 65 yX6_sideOf "FarSums" ∈ nw := nw_at 339 (by decide +kernel) rfl
theorem ln_X5_69 : Cond.methodLinkNest RX5 69 yX6_fromMiddle "FarSums" ∈ nw := nw_at 342 (by decide +kernel) rfl
theorem lm_X6_257 : Cond.methodLink RX6 257 yX6_sideOf ∈ tb := tb_at 345 (by decide +kernel) rfl
theorem lm_X5_72 : Cond.methodLink RX5 72 yJ9_abs_0f7a4 ∈ tb := tb_at 346 (by decide +kernel) rfl
theorem lm_X5_56 : Cond.methodLink RX5 56 yX5_note ∈ tb := tb_at 349 (by decide +kernel) rfl
theorem lm_X5_59 : Cond.methodLink RX5 59 yX0_isSplit ∈ tb := tb_at 353 (by decide +kernel) rfl
theorem lm_X0_37 : Cond.methodLink RX0 37 yX0_pointsIn ∈ tb := tb_at 357 (by decide +kernel) rfl
theorem lm_X5_62 : Cond.methodLink RX5 62 yX5_notePoints ∈ tb := tb_at 358 (by decide +kernel) rfl
theorem lm_X5_77 : Cond.methodLink RX5 77 yX0_holds ∈ tb := tb_at 362 (by decide +kernel) rfl
theorem lm_X6_147 : Cond.methodLink RX6 147 yX6_about ∈ tb := tb_at 366 (by decide +kernel) rfl
theorem lm_X6_237 : Cond.methodLink RX6 237 yX6_termOf ∈ tb := tb_at 370 (by decide +kernel) rfl
theorem lm_X6_165 : Cond.methodLink RX6 165 yX0_gather ∈ tb := tb_at 374 (by decide +kernel) rfl
theorem lm_X0_59 : Cond.methodLink RX0 59 yX0_holds ∈ tb := tb_at 378 (by decide +kernel) rfl
theorem ln_X0_66 : Cond.methodLinkNest RX0 66 yX6_fromMiddle "FarSums" ∈ nw := nw_at 379 (by decide +kernel) rfl
theorem lm_X0_69 : Cond.methodLink RX0 69 yX0_addMoments ∈ tb := tb_at 380 (by decide +kernel) rfl
theorem ln_X0_79 : Cond.methodLinkNest RX0 79 yX6_slot "FarSums" ∈ nw := nw_at 384 (by decide +kernel) rfl
theorem lm_X0_73 : Cond.methodLink RX0 73 yJ9_abs_0f7a4 ∈ tb := tb_at 385 (by decide +kernel) rfl
theorem lm_X6_247 : Cond.methodLink RX6 247 yX4_expandTerm ∈ tb := tb_at 386 (by decide +kernel) rfl
theorem lm_X4_21 : Cond.methodLink RX4 21 yX3_clear ∈ tb := tb_at 390 (by decide +kernel) rfl
theorem lm_X4_24 : Cond.methodLink RX4 24 yX3_get ∈ tb := tb_at 394 (by decide +kernel) rfl
theorem lm_X4_28 : Cond.methodLink RX4 28 yX4_addTermParts ∈ tb := tb_at 395 (by decide +kernel) rfl
theorem lm_X4_42 : Cond.methodLink RX4 42 yX4_waysToChoose ∈ tb := tb_at 399 (by decide +kernel) rfl
theorem lf_X4_61 : Cond.fieldLinkNest RX4 61 "FarSums" "CHOOSE" "[I" "FarSums" ∈ nw := nw_at 402 (by decide +kernel) rfl
theorem ln_X4_46 : Cond.methodLinkNest RX4 46 yX6_slot "FarSums" ∈ nw := nw_at 404 (by decide +kernel) rfl
theorem lm_X4_50 : Cond.methodLink RX4 50 yX3_add ∈ tb := tb_at 405 (by decide +kernel) rfl
theorem lm_X6_254 : Cond.methodLink RX6 254 yX6_fromMiddle ∈ tb := tb_at 409 (by decide +kernel) rfl
theorem lm_X6_150 : Cond.methodLink RX6 150 yX6_wholeEnd ∈ tb := tb_at 410 (by decide +kernel) rfl
theorem lm_X6_241 : Cond.methodLink RX6 241 yX6_endOf ∈ tb := tb_at 414 (by decide +kernel) rfl
theorem lm_X6_260 : Cond.methodLink RX6 260 yX4_expandEnd ∈ tb := tb_at 418 (by decide +kernel) rfl
theorem lm_X4_32 : Cond.methodLink RX4 32 yJ9_abs_067f4 ∈ tb := tb_at 422 (by decide +kernel) rfl
theorem lm_X4_38 : Cond.methodLink RX4 38 yX4_addEndParts ∈ tb := tb_at 425 (by decide +kernel) rfl
theorem lm_X4_54 : Cond.methodLink RX4 54 yJ9_max_7cf53 ∈ tb := tb_at 429 (by decide +kernel) rfl
theorem lm_X4_57 : Cond.methodLink RX4 57 yX4_power ∈ tb := tb_at 432 (by decide +kernel) rfl
theorem lm_X6_264 : Cond.methodLink RX6 264 yJ9_abs_0f7a4 ∈ tb := tb_at 435 (by decide +kernel) rfl
theorem lm_L_60 : Cond.methodLink RL 60 yX6_order ∈ tb := tb_at 436 (by decide +kernel) rfl
theorem lm_L_65 : Cond.methodLink RL 65 yX6_way ∈ tb := tb_at 440 (by decide +kernel) rfl
theorem lm_X6_156 : Cond.methodLink RX6 156 yX5_read ∈ tb := tb_at 444 (by decide +kernel) rfl
theorem lm_L_70 : Cond.methodLink RL 70 yX6_box ∈ tb := tb_at 448 (by decide +kernel) rfl
theorem lm_X6_157 : Cond.methodLink RX6 157 yX0_isThere ∈ tb := tb_at 452 (by decide +kernel) rfl
theorem lm_X6_161 : Cond.methodLink RX6 161 yX0_pointsIn ∈ tb := tb_at 456 (by decide +kernel) rfl
theorem lm_X6_171 : Cond.methodLink RX6 171 yX0_isSplit ∈ tb := tb_at 457 (by decide +kernel) rfl
theorem lm_L_75 : Cond.methodLink RL 75 yX6_moment ∈ tb := tb_at 458 (by decide +kernel) rfl
theorem lm_X6_178 : Cond.methodLink RX6 178 yX6_slot ∈ tb := tb_at 462 (by decide +kernel) rfl
theorem lm_L_79 : Cond.methodLink RL 79 yX6_leaf ∈ tb := tb_at 463 (by decide +kernel) rfl
theorem lm_X6_181 : Cond.methodLink RX6 181 yX0_leafLevel ∈ tb := tb_at 467 (by decide +kernel) rfl
theorem lm_L_83 : Cond.methodLink RL 83 yX6_nearest ∈ tb := tb_at 471 (by decide +kernel) rfl
theorem lm_X6_184 : Cond.methodLink RX6 184 yX2_nearerThan ∈ tb := tb_at 475 (by decide +kernel) rfl
theorem lm_X2_48 : Cond.methodLink RX2 48 yX2_rankKey ∈ tb := tb_at 479 (by decide +kernel) rfl
theorem lm_L_87 : Cond.methodLink RL 87 yX6_step ∈ tb := tb_at 483 (by decide +kernel) rfl
theorem lm_X6_187 : Cond.methodLink RX6 187 yX1_forth ∈ tb := tb_at 487 (by decide +kernel) rfl
theorem lm_X1_34 : Cond.methodLink RX1 34 yX1_findPushes ∈ tb := tb_at 491 (by decide +kernel) rfl
theorem lm_X1_44 : Cond.methodLink RX1 44 yX0_gather ∈ tb := tb_at 495 (by decide +kernel) rfl
theorem lm_X1_54 : Cond.methodLink RX1 54 yX4_expandTerm ∈ tb := tb_at 496 (by decide +kernel) rfl
theorem lm_X1_72 : Cond.methodLink RX1 72 yX1_wholeSum ∈ tb := tb_at 497 (by decide +kernel) rfl
theorem ln_X1_84 : Cond.methodLinkNest RX1 84 yX6_fromMiddle "FarSums" ∈ nw := nw_at 501 (by decide +kernel) rfl
theorem lm_X1_88 : Cond.methodLink RX1 88 yX3_valueAt ∈ tb := tb_at 502 (by decide +kernel) rfl
theorem lm_X1_76 : Cond.methodLink RX1 76 yX1_pushOf ∈ tb := tb_at 503 (by decide +kernel) rfl
theorem ln_X1_94 : Cond.methodLinkNest RX1 94 yX6_wrapPace "FarSums" ∈ nw := nw_at 506 (by decide +kernel) rfl
theorem lc_X6_269 : Cond.constantLong RX6 269 (-32) ∈ tb := tb_at 509 (by decide +kernel) rfl
theorem lc_X6_271 : Cond.constantLong RX6 271 (63) ∈ tb := tb_at 510 (by decide +kernel) rfl
theorem lm_X1_37 : Cond.methodLink RX1 37 yX1_addPushes ∈ tb := tb_at 511 (by decide +kernel) rfl
theorem lm_X1_103 : Cond.methodLink RX1 103 yX2_setPace ∈ tb := tb_at 515 (by decide +kernel) rfl
theorem lm_X1_41 : Cond.methodLink RX1 41 yX1_shiftPlaces ∈ tb := tb_at 516 (by decide +kernel) rfl
theorem lm_X1_106 : Cond.methodLink RX1 106 yX0_leave ∈ tb := tb_at 520 (by decide +kernel) rfl
theorem ln_X1_110 : Cond.methodLinkNest RX1 110 yX6_wrapPlace "FarSums" ∈ nw := nw_at 521 (by decide +kernel) rfl
theorem lm_X1_114 : Cond.methodLink RX1 114 yX2_put ∈ tb := tb_at 524 (by decide +kernel) rfl
theorem lm_X1_117 : Cond.methodLink RX1 117 yX0_enter ∈ tb := tb_at 525 (by decide +kernel) rfl
theorem lm_X6_190 : Cond.methodLink RX6 190 yX1_back ∈ tb := tb_at 526 (by decide +kernel) rfl
theorem lm_L_91 : Cond.methodLink RL 91 yX6_count ∈ tb := tb_at 530 (by decide +kernel) rfl
theorem lm_X6_196 : Cond.methodLink RX6 196 yX0_splitBoxes ∈ tb := tb_at 534 (by decide +kernel) rfl
theorem lm_X6_199 : Cond.methodLink RX6 199 yX0_greatestLevel ∈ tb := tb_at 538 (by decide +kernel) rfl
theorem lm_X6_202 : Cond.methodLink RX6 202 yX2_wholeBulk ∈ tb := tb_at 542 (by decide +kernel) rfl
theorem lm_X2_42 : Cond.methodLink RX2 42 yJ9_abs_0f7a4 ∈ tb := tb_at 546 (by decide +kernel) rfl
theorem lm_L_95 : Cond.methodLink RL 95 yX6_digest ∈ tb := tb_at 547 (by decide +kernel) rfl
theorem lc_X6_205 : Cond.constantLong RX6 205 (151) ∈ tb := tb_at 551 (by decide +kernel) rfl
theorem lc_X6_207 : Cond.constantLong RX6 207 (31) ∈ tb := tb_at 552 (by decide +kernel) rfl
theorem lm_X6_209 : Cond.methodLink RX6 209 yX6_count ∈ tb := tb_at 553 (by decide +kernel) rfl
theorem lm_X6_213 : Cond.methodLink RX6 213 yX6_digestPoints ∈ tb := tb_at 554 (by decide +kernel) rfl
theorem lm_X6_217 : Cond.methodLink RX6 217 yX6_digestFactors ∈ tb := tb_at 558 (by decide +kernel) rfl
theorem lm_X6_220 : Cond.methodLink RX6 220 yX6_digestBoxes ∈ tb := tb_at 562 (by decide +kernel) rfl
theorem lm_X6_223 : Cond.methodLink RX6 223 yX6_digestMoments ∈ tb := tb_at 566 (by decide +kernel) rfl
theorem lm_L_12 : Cond.methodLink RL 12 yX7_init ∈ tb := tb_at 572 (by decide +kernel) rfl
theorem lf_X7_7 : Cond.fieldLink RX7 7 "FarSumsModel" "there" "[Z" ∈ tb := tb_at 576 (by decide +kernel) rfl
theorem lf_X7_13 : Cond.fieldLink RX7 13 "FarSumsModel" "px" "[I" ∈ tb := tb_at 577 (by decide +kernel) rfl
theorem lf_X7_17 : Cond.fieldLink RX7 17 "FarSumsModel" "py" "[I" ∈ tb := tb_at 578 (by decide +kernel) rfl
theorem lf_X7_20 : Cond.fieldLink RX7 20 "FarSumsModel" "weight" "[I" ∈ tb := tb_at 579 (by decide +kernel) rfl
theorem lf_X7_23 : Cond.fieldLink RX7 23 "FarSumsModel" "vx" "[I" ∈ tb := tb_at 580 (by decide +kernel) rfl
theorem lf_X7_26 : Cond.fieldLink RX7 26 "FarSumsModel" "vy" "[I" ∈ tb := tb_at 581 (by decide +kernel) rfl
theorem lf_X7_29 : Cond.fieldLink RX7 29 "FarSumsModel" "kernel" "[I" ∈ tb := tb_at 582 (by decide +kernel) rfl
theorem lf_X7_32 : Cond.fieldLink RX7 32 "FarSumsModel" "most" "I" ∈ tb := tb_at 583 (by decide +kernel) rfl
theorem lf_X7_201 : Cond.fieldLink RX7 201 "FarSumsModel" "steps" "I" ∈ tb := tb_at 584 (by decide +kernel) rfl
theorem lf_X7_36 : Cond.fieldLink RX7 36 "FarSumsModel" "stackLevel" "[I" ∈ tb := tb_at 585 (by decide +kernel) rfl
theorem lf_X7_39 : Cond.fieldLink RX7 39 "FarSumsModel" "stackI" "[I" ∈ tb := tb_at 586 (by decide +kernel) rfl
theorem lf_X7_42 : Cond.fieldLink RX7 42 "FarSumsModel" "stackJ" "[I" ∈ tb := tb_at 587 (by decide +kernel) rfl
theorem lf_X7_45 : Cond.fieldLink RX7 45 "FarSumsModel" "wayLevel" "[I" ∈ tb := tb_at 588 (by decide +kernel) rfl
theorem lf_X7_48 : Cond.fieldLink RX7 48 "FarSumsModel" "wayI" "[I" ∈ tb := tb_at 589 (by decide +kernel) rfl
theorem lf_X7_51 : Cond.fieldLink RX7 51 "FarSumsModel" "wayJ" "[I" ∈ tb := tb_at 590 (by decide +kernel) rfl
theorem lf_X7_150 : Cond.fieldLink RX7 150 "FarSumsModel" "wayMany" "I" ∈ tb := tb_at 591 (by decide +kernel) rfl
theorem lf_X7_153 : Cond.fieldLink RX7 153 "FarSumsModel" "about" "J" ∈ tb := tb_at 592 (by decide +kernel) rfl
theorem lf_X7_157 : Cond.fieldLink RX7 157 "FarSumsModel" "end" "J" ∈ tb := tb_at 593 (by decide +kernel) rfl
theorem lf_X7_54 : Cond.fieldLink RX7 54 "FarSumsModel" "pushX" "[I" ∈ tb := tb_at 594 (by decide +kernel) rfl
theorem lf_X7_57 : Cond.fieldLink RX7 57 "FarSumsModel" "pushY" "[I" ∈ tb := tb_at 595 (by decide +kernel) rfl
theorem lm_L_17 : Cond.methodLink RL 17 yX7_point ∈ tb := tb_at 637 (by decide +kernel) rfl
theorem lm_X7_68 : Cond.methodLink RX7 68 yX7_isPlace ∈ tb := tb_at 641 (by decide +kernel) rfl
theorem lc_X7_60 : Cond.constantLong RX7 60 (63) ∈ tb := tb_at 644 (by decide +kernel) rfl
theorem lm_X7_62 : Cond.methodLink RX7 62 yX7_in ∈ tb := tb_at 645 (by decide +kernel) rfl
theorem lc_X7_72 : Cond.constantLong RX7 72 (-1000) ∈ tb := tb_at 648 (by decide +kernel) rfl
theorem lc_X7_74 : Cond.constantLong RX7 74 (1000) ∈ tb := tb_at 649 (by decide +kernel) rfl
theorem lm_L_22 : Cond.methodLink RL 22 yX7_take ∈ tb := tb_at 650 (by decide +kernel) rfl
theorem lm_X7_76 : Cond.methodLink RX7 76 yX7_isPoint ∈ tb := tb_at 654 (by decide +kernel) rfl
theorem lc_X7_66 : Cond.constantLong RX7 66 (39) ∈ tb := tb_at 658 (by decide +kernel) rfl
theorem lm_X7_80 : Cond.methodLink RX7 80 yX7_many ∈ tb := tb_at 659 (by decide +kernel) rfl
theorem lm_L_26 : Cond.methodLink RL 26 yX7_move ∈ tb := tb_at 663 (by decide +kernel) rfl
theorem lm_L_31 : Cond.methodLink RL 31 yX7_weigh ∈ tb := tb_at 667 (by decide +kernel) rfl
theorem lm_L_35 : Cond.methodLink RL 35 yX7_pace ∈ tb := tb_at 671 (by decide +kernel) rfl
theorem lc_X7_84 : Cond.constantLong RX7 84 (-32) ∈ tb := tb_at 675 (by decide +kernel) rfl
theorem lc_X7_86 : Cond.constantLong RX7 86 (31) ∈ tb := tb_at 676 (by decide +kernel) rfl
theorem lm_L_39 : Cond.methodLink RL 39 yX7_at ∈ tb := tb_at 677 (by decide +kernel) rfl
theorem lm_L_43 : Cond.methodLink RL 43 yX7_kernel ∈ tb := tb_at 681 (by decide +kernel) rfl
theorem lm_X7_88 : Cond.methodLink RX7 88 yX7_isPair ∈ tb := tb_at 685 (by decide +kernel) rfl
theorem lc_X7_91 : Cond.constantLong RX7 91 (-9) ∈ tb := tb_at 688 (by decide +kernel) rfl
theorem lc_X7_93 : Cond.constantLong RX7 93 (9) ∈ tb := tb_at 689 (by decide +kernel) rfl
theorem lm_L_47 : Cond.methodLink RL 47 yX7_capacity ∈ tb := tb_at 690 (by decide +kernel) rfl
theorem lc_X7_95 : Cond.constantLong RX7 95 (8) ∈ tb := tb_at 694 (by decide +kernel) rfl
theorem lm_L_52 : Cond.methodLink RL 52 yX7_sum ∈ tb := tb_at 695 (by decide +kernel) rfl
theorem lm_X7_107 : Cond.methodLink RX7 107 yX7_sumAt ∈ tb := tb_at 699 (by decide +kernel) rfl
theorem lm_X7_103 : Cond.methodLink RX7 103 yX7_pull ∈ tb := tb_at 703 (by decide +kernel) rfl
theorem lm_X7_97 : Cond.methodLink RX7 97 yX7_power ∈ tb := tb_at 707 (by decide +kernel) rfl
theorem lc_X7_101 : Cond.constantLong RX7 101 (16) ∈ tb := tb_at 710 (by decide +kernel) rfl
theorem lc_X7_111 : Cond.constantLong RX7 111 (-9000000000000000000) ∈ tb := tb_at 711 (by decide +kernel) rfl
theorem lm_L_74 : Cond.methodLink RL 74 yX7_box ∈ tb := tb_at 712 (by decide +kernel) rfl
theorem lm_X7_131 : Cond.methodLink RX7 131 yX7_isBox ∈ tb := tb_at 716 (by decide +kernel) rfl
theorem lc_X7_121 : Cond.constantLong RX7 121 (5) ∈ tb := tb_at 720 (by decide +kernel) rfl
theorem lm_X7_123 : Cond.methodLink RX7 123 yX7_isSplit ∈ tb := tb_at 721 (by decide +kernel) rfl
theorem lm_X7_117 : Cond.methodLink RX7 117 yX7_pointsIn ∈ tb := tb_at 725 (by decide +kernel) rfl
theorem lm_X7_113 : Cond.methodLink RX7 113 yX7_isIn ∈ tb := tb_at 729 (by decide +kernel) rfl
theorem lc_X7_134 : Cond.constantLong RX7 134 (2) ∈ tb := tb_at 733 (by decide +kernel) rfl
theorem lm_X7_136 : Cond.methodLink RX7 136 yX7_bulk ∈ tb := tb_at 734 (by decide +kernel) rfl
theorem lm_L_78 : Cond.methodLink RL 78 yX7_moment ∈ tb := tb_at 738 (by decide +kernel) rfl
theorem lm_X7_139 : Cond.methodLink RX7 139 yX7_momentOf ∈ tb := tb_at 742 (by decide +kernel) rfl
theorem lm_X7_127 : Cond.methodLink RX7 127 yX7_middle ∈ tb := tb_at 746 (by decide +kernel) rfl
theorem lm_L_82 : Cond.methodLink RL 82 yX7_leaf ∈ tb := tb_at 749 (by decide +kernel) rfl
theorem lm_L_57 : Cond.methodLink RL 57 yX7_across ∈ tb := tb_at 753 (by decide +kernel) rfl
theorem lc_X7_171 : Cond.constantLong RX7 171 (4) ∈ tb := tb_at 757 (by decide +kernel) rfl
theorem lm_X7_173 : Cond.methodLink RX7 173 yX7_goAcross ∈ tb := tb_at 758 (by decide +kernel) rfl
theorem lm_X7_146 : Cond.methodLink RX7 146 yX7_size ∈ tb := tb_at 762 (by decide +kernel) rfl
theorem lm_X7_160 : Cond.methodLink RX7 160 yX7_term ∈ tb := tb_at 765 (by decide +kernel) rfl
theorem lm_X7_143 : Cond.methodLink RX7 143 yX7_choose ∈ tb := tb_at 769 (by decide +kernel) rfl
theorem lm_X7_164 : Cond.methodLink RX7 164 yX7_endOf ∈ tb := tb_at 772 (by decide +kernel) rfl
theorem lm_X7_167 : Cond.methodLink RX7 167 yX7_goes ∈ tb := tb_at 776 (by decide +kernel) rfl
theorem lm_L_64 : Cond.methodLink RL 64 yX7_order ∈ tb := tb_at 780 (by decide +kernel) rfl
theorem lm_L_69 : Cond.methodLink RL 69 yX7_way ∈ tb := tb_at 784 (by decide +kernel) rfl
theorem lm_L_86 : Cond.methodLink RL 86 yX7_nearest ∈ tb := tb_at 788 (by decide +kernel) rfl
theorem lm_X7_177 : Cond.methodLink RX7 177 yX7_farOf ∈ tb := tb_at 792 (by decide +kernel) rfl
theorem lm_L_90 : Cond.methodLink RL 90 yX7_step ∈ tb := tb_at 796 (by decide +kernel) rfl
theorem lc_X7_193 : Cond.constantLong RX7 193 (-8) ∈ tb := tb_at 800 (by decide +kernel) rfl
theorem lm_X7_195 : Cond.methodLink RX7 195 yX7_goOn ∈ tb := tb_at 801 (by decide +kernel) rfl
theorem lm_X7_186 : Cond.methodLink RX7 186 yX7_findPushes ∈ tb := tb_at 805 (by decide +kernel) rfl
theorem lm_X7_182 : Cond.methodLink RX7 182 yX7_push ∈ tb := tb_at 809 (by decide +kernel) rfl
theorem lc_X7_180 : Cond.constantLong RX7 180 (32) ∈ tb := tb_at 812 (by decide +kernel) rfl
theorem lm_X7_189 : Cond.methodLink RX7 189 yX7_brought ∈ tb := tb_at 813 (by decide +kernel) rfl
theorem lm_X7_198 : Cond.methodLink RX7 198 yX7_goBack ∈ tb := tb_at 816 (by decide +kernel) rfl
theorem lm_L_94 : Cond.methodLink RL 94 yX7_count ∈ tb := tb_at 820 (by decide +kernel) rfl
theorem lm_L_99 : Cond.methodLink RL 99 yX7_digest ∈ tb := tb_at 824 (by decide +kernel) rfl
theorem lc_X7_204 : Cond.constantLong RX7 204 (151) ∈ tb := tb_at 828 (by decide +kernel) rfl
theorem lm_X7_206 : Cond.methodLink RX7 206 yX7_count ∈ tb := tb_at 829 (by decide +kernel) rfl
theorem lm_X7_209 : Cond.methodLink RX7 209 yX7_at ∈ tb := tb_at 830 (by decide +kernel) rfl
theorem lc_L_58 : Cond.constantLong RL 58 (4294967295) ∈ tb := tb_at 831 (by decide +kernel) rfl
theorem li_L : Cond.initialized RL ∈ tb := tb_at 0 (by decide +kernel) rfl
theorem li_X6 : Cond.initialized RX6 ∈ tb := tb_at 1 (by decide +kernel) rfl
theorem li_X2 : Cond.initialized RX2 ∈ tb := tb_at 2 (by decide +kernel) rfl
theorem li_X0 : Cond.initialized RX0 ∈ tb := tb_at 3 (by decide +kernel) rfl
theorem li_X3 : Cond.initialized RX3 ∈ tb := tb_at 4 (by decide +kernel) rfl
theorem li_X4 : Cond.initialized RX4 ∈ tb := tb_at 5 (by decide +kernel) rfl
theorem li_X5 : Cond.initialized RX5 ∈ tb := tb_at 6 (by decide +kernel) rfl
theorem li_X1 : Cond.initialized RX1 ∈ tb := tb_at 7 (by decide +kernel) rfl
theorem li_X7 : Cond.initialized RX7 ∈ tb := tb_at 8 (by decide +kernel) rfl
theorem li_J9 : Cond.initialized RJ9 ∈ tb := tb_at 9 (by decide +kernel) rfl
theorem tb_sel {c : Cond} (i : Nat) (h : (k2_sels lw_privs)[i]? = some c) (hg : goodWord c = true) : c ∈ tb := tb_mem (List.mem_append_left _ (List.mem_of_getElem? h)) hg
theorem kX0_enter : CalV yX0_enter cX0_enter 4 none 2 := ⟨⟨tb_at 235 (by decide +kernel) rfl, li_X0, ⟨by decide +kernel, by decide +kernel, by decide +kernel⟩, by decide⟩, tb_at 233 (by decide +kernel) rfl, tb_at 234 (by decide +kernel) rfl⟩
theorem kX0_leave : CalV yX0_leave cX0_leave 4 none 2 := ⟨⟨tb_at 258 (by decide +kernel) rfl, li_X0, ⟨by decide +kernel, by decide +kernel, by decide +kernel⟩, by decide⟩, tb_at 256 (by decide +kernel) rfl, tb_at 257 (by decide +kernel) rfl⟩
theorem kX0_pointsIn : CalV yX0_pointsIn cX0_pointsIn 4 (some .int) 3 := ⟨⟨tb_at 334 (by decide +kernel) rfl, li_X0, ⟨by decide +kernel, by decide +kernel, by decide +kernel⟩, by decide⟩, tb_at 332 (by decide +kernel) rfl, tb_at 333 (by decide +kernel) rfl⟩
theorem kX0_isThere : CalV yX0_isThere cX0_isThere 5 (some .boolean) 3 := ⟨⟨tb_at 455 (by decide +kernel) rfl, li_X0, ⟨by decide +kernel, by decide +kernel, by decide +kernel⟩, by decide⟩, tb_at 453 (by decide +kernel) rfl, tb_at 454 (by decide +kernel) rfl⟩
theorem kX0_isSplit : CalV yX0_isSplit cX0_isSplit 4 (some .boolean) 3 := ⟨⟨tb_at 356 (by decide +kernel) rfl, li_X0, ⟨by decide +kernel, by decide +kernel, by decide +kernel⟩, by decide⟩, tb_at 354 (by decide +kernel) rfl, tb_at 355 (by decide +kernel) rfl⟩
theorem kX0_splitBoxes : CalV yX0_splitBoxes cX0_splitBoxes 3 (some .int) 0 := ⟨⟨tb_at 537 (by decide +kernel) rfl, li_X0, ⟨by decide +kernel, by decide +kernel, by decide +kernel⟩, by decide⟩, tb_at 535 (by decide +kernel) rfl, tb_at 536 (by decide +kernel) rfl⟩
theorem kX0_greatestLevel : CalV yX0_greatestLevel cX0_greatestLevel 3 (some .int) 0 := ⟨⟨tb_at 541 (by decide +kernel) rfl, li_X0, ⟨by decide +kernel, by decide +kernel, by decide +kernel⟩, by decide⟩, tb_at 539 (by decide +kernel) rfl, tb_at 540 (by decide +kernel) rfl⟩
theorem kX0_leafLevel : CalV yX0_leafLevel cX0_leafLevel 4 (some .int) 2 := ⟨⟨tb_at 470 (by decide +kernel) rfl, li_X0, ⟨by decide +kernel, by decide +kernel, by decide +kernel⟩, by decide⟩, tb_at 468 (by decide +kernel) rfl, tb_at 469 (by decide +kernel) rfl⟩
theorem kX0_holds : CalV yX0_holds cX0_holds 5 (some .boolean) 4 := ⟨⟨tb_at 365 (by decide +kernel) rfl, li_X0, ⟨by decide +kernel, by decide +kernel, by decide +kernel⟩, by decide⟩, tb_at 363 (by decide +kernel) rfl, tb_at 364 (by decide +kernel) rfl⟩
theorem kX0_gather : CalV yX0_gather cX0_gather 5 none 3 := ⟨⟨tb_at 377 (by decide +kernel) rfl, li_X0, ⟨by decide +kernel, by decide +kernel, by decide +kernel⟩, by decide⟩, tb_at 375 (by decide +kernel) rfl, tb_at 376 (by decide +kernel) rfl⟩
theorem kX0_addMoments : CalV yX0_addMoments cX0_addMoments 10 none 3 := ⟨⟨tb_at 383 (by decide +kernel) rfl, li_X0, ⟨by decide +kernel, by decide +kernel, by decide +kernel⟩, by decide⟩, tb_at 382 (by decide +kernel) rfl, tb_sel 7 (by decide +kernel) rfl⟩
theorem kX0_numberAt : CalS yX0_numberAt cX0_numberAt 2 (some .int) 2 := ⟨⟨tb_at 241 (by decide +kernel) rfl, li_X0, ⟨by decide +kernel, by decide +kernel, by decide +kernel⟩, by decide⟩, tb_at 240 (by decide +kernel) rfl⟩
theorem kX0_placeIndex : CalS yX0_placeIndex cX0_placeIndex 3 (some .int) 3 := ⟨⟨tb_at 238 (by decide +kernel) rfl, li_X0, ⟨by decide +kernel, by decide +kernel, by decide +kernel⟩, by decide⟩, tb_at 237 (by decide +kernel) rfl⟩
theorem kX0_boxIndex : CalS yX0_boxIndex cX0_boxIndex 3 (some .int) 3 := ⟨⟨tb_at 244 (by decide +kernel) rfl, li_X0, ⟨by decide +kernel, by decide +kernel, by decide +kernel⟩, by decide⟩, tb_at 243 (by decide +kernel) rfl⟩
theorem kX1_forth : CalV yX1_forth cX1_forth 1 none 0 := ⟨⟨tb_at 490 (by decide +kernel) rfl, li_X1, ⟨by decide +kernel, by decide +kernel, by decide +kernel⟩, by decide⟩, tb_at 488 (by decide +kernel) rfl, tb_at 489 (by decide +kernel) rfl⟩
theorem kX1_back : CalV yX1_back cX1_back 1 none 0 := ⟨⟨tb_at 529 (by decide +kernel) rfl, li_X1, ⟨by decide +kernel, by decide +kernel, by decide +kernel⟩, by decide⟩, tb_at 527 (by decide +kernel) rfl, tb_at 528 (by decide +kernel) rfl⟩
theorem kX1_findPushes : CalV yX1_findPushes cX1_findPushes 4 none 0 := ⟨⟨tb_at 494 (by decide +kernel) rfl, li_X1, ⟨by decide +kernel, by decide +kernel, by decide +kernel⟩, by decide⟩, tb_at 493 (by decide +kernel) rfl, tb_sel 13 (by decide +kernel) rfl⟩
theorem kX1_wholeSum : CalV yX1_wholeSum cX1_wholeSum 3 (some .long) 2 := ⟨⟨tb_at 500 (by decide +kernel) rfl, li_X1, ⟨by decide +kernel, by decide +kernel, by decide +kernel⟩, by decide⟩, tb_at 499 (by decide +kernel) rfl, tb_sel 14 (by decide +kernel) rfl⟩
theorem kX1_pushOf : CalS yX1_pushOf cX1_pushOf 2 (some .int) 1 := ⟨⟨tb_at 505 (by decide +kernel) rfl, li_X1, ⟨by decide +kernel, by decide +kernel, by decide +kernel⟩, by decide⟩, tb_at 504 (by decide +kernel) rfl⟩
theorem kX1_addPushes : CalV yX1_addPushes cX1_addPushes 3 none 1 := ⟨⟨tb_at 514 (by decide +kernel) rfl, li_X1, ⟨by decide +kernel, by decide +kernel, by decide +kernel⟩, by decide⟩, tb_at 513 (by decide +kernel) rfl, tb_sel 15 (by decide +kernel) rfl⟩
theorem kX1_shiftPlaces : CalV yX1_shiftPlaces cX1_shiftPlaces 3 none 1 := ⟨⟨tb_at 519 (by decide +kernel) rfl, li_X1, ⟨by decide +kernel, by decide +kernel, by decide +kernel⟩, by decide⟩, tb_at 518 (by decide +kernel) rfl, tb_sel 16 (by decide +kernel) rfl⟩
theorem kX2_has : CalV yX2_has cX2_has 2 (some .boolean) 1 := ⟨⟨tb_at 254 (by decide +kernel) rfl, li_X2, ⟨by decide +kernel, by decide +kernel, by decide +kernel⟩, by decide⟩, tb_at 252 (by decide +kernel) rfl, tb_at 253 (by decide +kernel) rfl⟩
theorem kX2_leastFree : CalV yX2_leastFree cX2_leastFree 2 (some .int) 0 := ⟨⟨tb_at 219 (by decide +kernel) rfl, li_X2, ⟨by decide +kernel, by decide +kernel, by decide +kernel⟩, by decide⟩, tb_at 217 (by decide +kernel) rfl, tb_at 218 (by decide +kernel) rfl⟩
theorem kX2_add : CalV yX2_add cX2_add 5 none 4 := ⟨⟨tb_at 223 (by decide +kernel) rfl, li_X2, ⟨by decide +kernel, by decide +kernel, by decide +kernel⟩, by decide⟩, tb_at 221 (by decide +kernel) rfl, tb_at 222 (by decide +kernel) rfl⟩
theorem kX2_remove : CalV yX2_remove cX2_remove 2 none 1 := ⟨⟨tb_at 262 (by decide +kernel) rfl, li_X2, ⟨by decide +kernel, by decide +kernel, by decide +kernel⟩, by decide⟩, tb_at 260 (by decide +kernel) rfl, tb_at 261 (by decide +kernel) rfl⟩
theorem kX2_put : CalV yX2_put cX2_put 4 none 3 := ⟨⟨tb_at 227 (by decide +kernel) rfl, li_X2, ⟨by decide +kernel, by decide +kernel, by decide +kernel⟩, by decide⟩, tb_at 225 (by decide +kernel) rfl, tb_at 226 (by decide +kernel) rfl⟩
theorem kX2_setPace : CalV yX2_setPace cX2_setPace 4 none 3 := ⟨⟨tb_at 231 (by decide +kernel) rfl, li_X2, ⟨by decide +kernel, by decide +kernel, by decide +kernel⟩, by decide⟩, tb_at 229 (by decide +kernel) rfl, tb_at 230 (by decide +kernel) rfl⟩
theorem kX2_read : CalV yX2_read cX2_read 3 (some .int) 2 := ⟨⟨tb_at 287 (by decide +kernel) rfl, li_X2, ⟨by decide +kernel, by decide +kernel, by decide +kernel⟩, by decide⟩, tb_at 285 (by decide +kernel) rfl, tb_at 286 (by decide +kernel) rfl⟩
theorem kX2_wholeBulk : CalV yX2_wholeBulk cX2_wholeBulk 3 (some .int) 0 := ⟨⟨tb_at 545 (by decide +kernel) rfl, li_X2, ⟨by decide +kernel, by decide +kernel, by decide +kernel⟩, by decide⟩, tb_at 543 (by decide +kernel) rfl, tb_at 544 (by decide +kernel) rfl⟩
theorem kX2_nearerThan : CalV yX2_nearerThan cX2_nearerThan 7 (some .int) 3 := ⟨⟨tb_at 478 (by decide +kernel) rfl, li_X2, ⟨by decide +kernel, by decide +kernel, by decide +kernel⟩, by decide⟩, tb_at 476 (by decide +kernel) rfl, tb_at 477 (by decide +kernel) rfl⟩
theorem kX2_rankKey : CalV yX2_rankKey cX2_rankKey 6 (some .int) 3 := ⟨⟨tb_at 482 (by decide +kernel) rfl, li_X2, ⟨by decide +kernel, by decide +kernel, by decide +kernel⟩, by decide⟩, tb_at 481 (by decide +kernel) rfl, tb_sel 12 (by decide +kernel) rfl⟩
theorem kX3_get : CalV yX3_get cX3_get 3 (some .long) 2 := ⟨⟨tb_at 298 (by decide +kernel) rfl, li_X3, ⟨by decide +kernel, by decide +kernel, by decide +kernel⟩, by decide⟩, tb_at 296 (by decide +kernel) rfl, tb_at 297 (by decide +kernel) rfl⟩
theorem kX3_set : CalV yX3_set cX3_set 5 none 3 := ⟨⟨tb_at 102 (by decide +kernel) rfl, li_X3, ⟨by decide +kernel, by decide +kernel, by decide +kernel⟩, by decide⟩, tb_at 100 (by decide +kernel) rfl, tb_at 101 (by decide +kernel) rfl⟩
theorem kX3_add : CalV yX3_add cX3_add 5 none 3 := ⟨⟨tb_at 408 (by decide +kernel) rfl, li_X3, ⟨by decide +kernel, by decide +kernel, by decide +kernel⟩, by decide⟩, tb_at 406 (by decide +kernel) rfl, tb_at 407 (by decide +kernel) rfl⟩
theorem kX3_clear : CalV yX3_clear cX3_clear 2 none 0 := ⟨⟨tb_at 393 (by decide +kernel) rfl, li_X3, ⟨by decide +kernel, by decide +kernel, by decide +kernel⟩, by decide⟩, tb_at 391 (by decide +kernel) rfl, tb_at 392 (by decide +kernel) rfl⟩
theorem kX3_valueAt : CalV yX3_valueAt cX3_valueAt 11 (some .long) 2 := ⟨⟨tb_at 315 (by decide +kernel) rfl, li_X3, ⟨by decide +kernel, by decide +kernel, by decide +kernel⟩, by decide⟩, tb_at 313 (by decide +kernel) rfl, tb_at 314 (by decide +kernel) rfl⟩
theorem kX4_expandTerm : CalV yX4_expandTerm cX4_expandTerm 7 none 2 := ⟨⟨tb_at 389 (by decide +kernel) rfl, li_X4, ⟨by decide +kernel, by decide +kernel, by decide +kernel⟩, by decide⟩, tb_at 387 (by decide +kernel) rfl, tb_at 388 (by decide +kernel) rfl⟩
theorem kX4_expandEnd : CalV yX4_expandEnd cX4_expandEnd 9 none 3 := ⟨⟨tb_at 421 (by decide +kernel) rfl, li_X4, ⟨by decide +kernel, by decide +kernel, by decide +kernel⟩, by decide⟩, tb_at 419 (by decide +kernel) rfl, tb_at 420 (by decide +kernel) rfl⟩
theorem kX4_addTermParts : CalV yX4_addTermParts cX4_addTermParts 11 none 5 := ⟨⟨tb_at 398 (by decide +kernel) rfl, li_X4, ⟨by decide +kernel, by decide +kernel, by decide +kernel⟩, by decide⟩, tb_at 397 (by decide +kernel) rfl, tb_sel 8 (by decide +kernel) rfl⟩
theorem kX4_addEndParts : CalV yX4_addEndParts cX4_addEndParts 9 none 5 := ⟨⟨tb_at 428 (by decide +kernel) rfl, li_X4, ⟨by decide +kernel, by decide +kernel, by decide +kernel⟩, by decide⟩, tb_at 427 (by decide +kernel) rfl, tb_sel 11 (by decide +kernel) rfl⟩
theorem kX4_waysToChoose : CalS yX4_waysToChoose cX4_waysToChoose 4 (some .long) 4 := ⟨⟨tb_at 401 (by decide +kernel) rfl, li_X4, ⟨by decide +kernel, by decide +kernel, by decide +kernel⟩, by decide⟩, tb_at 400 (by decide +kernel) rfl⟩
theorem kX4_power : CalS yX4_power cX4_power 6 (some .long) 2 := ⟨⟨tb_at 434 (by decide +kernel) rfl, li_X4, ⟨by decide +kernel, by decide +kernel, by decide +kernel⟩, by decide⟩, tb_at 433 (by decide +kernel) rfl⟩
theorem kX5_trace : CalV yX5_trace cX5_trace 4 none 3 := ⟨⟨tb_at 326 (by decide +kernel) rfl, li_X5, ⟨by decide +kernel, by decide +kernel, by decide +kernel⟩, by decide⟩, tb_at 324 (by decide +kernel) rfl, tb_at 325 (by decide +kernel) rfl⟩
theorem kX5_read : CalV yX5_read cX5_read 3 (some .int) 2 := ⟨⟨tb_at 447 (by decide +kernel) rfl, li_X5, ⟨by decide +kernel, by decide +kernel, by decide +kernel⟩, by decide⟩, tb_at 445 (by decide +kernel) rfl, tb_at 446 (by decide +kernel) rfl⟩
theorem kX5_visit : CalV yX5_visit cX5_visit 4 none 3 := ⟨⟨tb_at 330 (by decide +kernel) rfl, li_X5, ⟨by decide +kernel, by decide +kernel, by decide +kernel⟩, by decide⟩, tb_at 329 (by decide +kernel) rfl, tb_sel 1 (by decide +kernel) rfl⟩
theorem kX5_isFar : CalV yX5_isFar cX5_isFar 5 (some .boolean) 3 := ⟨⟨tb_at 338 (by decide +kernel) rfl, li_X5, ⟨by decide +kernel, by decide +kernel, by decide +kernel⟩, by decide⟩, tb_at 337 (by decide +kernel) rfl, tb_sel 2 (by decide +kernel) rfl⟩
theorem kX5_notePoints : CalV yX5_notePoints cX5_notePoints 5 none 3 := ⟨⟨tb_at 361 (by decide +kernel) rfl, li_X5, ⟨by decide +kernel, by decide +kernel, by decide +kernel⟩, by decide⟩, tb_at 360 (by decide +kernel) rfl, tb_sel 4 (by decide +kernel) rfl⟩
theorem kX5_note : CalV yX5_note cX5_note 4 none 3 := ⟨⟨tb_at 352 (by decide +kernel) rfl, li_X5, ⟨by decide +kernel, by decide +kernel, by decide +kernel⟩, by decide⟩, tb_at 351 (by decide +kernel) rfl, tb_sel 3 (by decide +kernel) rfl⟩
theorem kX6_point : CalV yX6_point cX6_point 5 (some .int) 3 := ⟨⟨tb_at 209 (by decide +kernel) rfl, li_X6, ⟨by decide +kernel, by decide +kernel, by decide +kernel⟩, by decide⟩, tb_at 207 (by decide +kernel) rfl, tb_at 208 (by decide +kernel) rfl⟩
theorem kX6_take : CalV yX6_take cX6_take 2 (some .int) 1 := ⟨⟨tb_at 250 (by decide +kernel) rfl, li_X6, ⟨by decide +kernel, by decide +kernel, by decide +kernel⟩, by decide⟩, tb_at 248 (by decide +kernel) rfl, tb_at 249 (by decide +kernel) rfl⟩
theorem kX6_move : CalV yX6_move cX6_move 4 (some .int) 3 := ⟨⟨tb_at 266 (by decide +kernel) rfl, li_X6, ⟨by decide +kernel, by decide +kernel, by decide +kernel⟩, by decide⟩, tb_at 264 (by decide +kernel) rfl, tb_at 265 (by decide +kernel) rfl⟩
theorem kX6_weigh : CalV yX6_weigh cX6_weigh 4 (some .int) 2 := ⟨⟨tb_at 271 (by decide +kernel) rfl, li_X6, ⟨by decide +kernel, by decide +kernel, by decide +kernel⟩, by decide⟩, tb_at 269 (by decide +kernel) rfl, tb_at 270 (by decide +kernel) rfl⟩
theorem kX6_pace : CalV yX6_pace cX6_pace 4 (some .int) 3 := ⟨⟨tb_at 275 (by decide +kernel) rfl, li_X6, ⟨by decide +kernel, by decide +kernel, by decide +kernel⟩, by decide⟩, tb_at 273 (by decide +kernel) rfl, tb_at 274 (by decide +kernel) rfl⟩
theorem kX6_at : CalV yX6_at cX6_at 3 (some .int) 2 := ⟨⟨tb_at 283 (by decide +kernel) rfl, li_X6, ⟨by decide +kernel, by decide +kernel, by decide +kernel⟩, by decide⟩, tb_at 281 (by decide +kernel) rfl, tb_at 282 (by decide +kernel) rfl⟩
theorem kX6_kernel : CalV yX6_kernel cX6_kernel 5 (some .int) 3 := ⟨⟨tb_at 291 (by decide +kernel) rfl, li_X6, ⟨by decide +kernel, by decide +kernel, by decide +kernel⟩, by decide⟩, tb_at 289 (by decide +kernel) rfl, tb_at 290 (by decide +kernel) rfl⟩
theorem kX6_capacity : CalV yX6_capacity cX6_capacity 3 (some .int) 1 := ⟨⟨tb_at 302 (by decide +kernel) rfl, li_X6, ⟨by decide +kernel, by decide +kernel, by decide +kernel⟩, by decide⟩, tb_at 300 (by decide +kernel) rfl, tb_at 301 (by decide +kernel) rfl⟩
theorem kX6_sum : CalV yX6_sum cX6_sum 6 (some .long) 2 := ⟨⟨tb_at 306 (by decide +kernel) rfl, li_X6, ⟨by decide +kernel, by decide +kernel, by decide +kernel⟩, by decide⟩, tb_at 304 (by decide +kernel) rfl, tb_at 305 (by decide +kernel) rfl⟩
theorem kX6_across : CalV yX6_across cX6_across 6 (some .long) 5 := ⟨⟨tb_at 319 (by decide +kernel) rfl, li_X6, ⟨by decide +kernel, by decide +kernel, by decide +kernel⟩, by decide⟩, tb_at 317 (by decide +kernel) rfl, tb_at 318 (by decide +kernel) rfl⟩
theorem kX6_order : CalV yX6_order cX6_order 7 (some .int) 4 := ⟨⟨tb_at 439 (by decide +kernel) rfl, li_X6, ⟨by decide +kernel, by decide +kernel, by decide +kernel⟩, by decide⟩, tb_at 437 (by decide +kernel) rfl, tb_at 438 (by decide +kernel) rfl⟩
theorem kX6_way : CalV yX6_way cX6_way 6 (some .int) 5 := ⟨⟨tb_at 443 (by decide +kernel) rfl, li_X6, ⟨by decide +kernel, by decide +kernel, by decide +kernel⟩, by decide⟩, tb_at 441 (by decide +kernel) rfl, tb_at 442 (by decide +kernel) rfl⟩
theorem kX6_box : CalV yX6_box cX6_box 5 (some .int) 4 := ⟨⟨tb_at 451 (by decide +kernel) rfl, li_X6, ⟨by decide +kernel, by decide +kernel, by decide +kernel⟩, by decide⟩, tb_at 449 (by decide +kernel) rfl, tb_at 450 (by decide +kernel) rfl⟩
theorem kX6_moment : CalV yX6_moment cX6_moment 6 (some .long) 5 := ⟨⟨tb_at 461 (by decide +kernel) rfl, li_X6, ⟨by decide +kernel, by decide +kernel, by decide +kernel⟩, by decide⟩, tb_at 459 (by decide +kernel) rfl, tb_at 460 (by decide +kernel) rfl⟩
theorem kX6_leaf : CalV yX6_leaf cX6_leaf 3 (some .int) 2 := ⟨⟨tb_at 466 (by decide +kernel) rfl, li_X6, ⟨by decide +kernel, by decide +kernel, by decide +kernel⟩, by decide⟩, tb_at 464 (by decide +kernel) rfl, tb_at 465 (by decide +kernel) rfl⟩
theorem kX6_nearest : CalV yX6_nearest cX6_nearest 5 (some .int) 3 := ⟨⟨tb_at 474 (by decide +kernel) rfl, li_X6, ⟨by decide +kernel, by decide +kernel, by decide +kernel⟩, by decide⟩, tb_at 472 (by decide +kernel) rfl, tb_at 473 (by decide +kernel) rfl⟩
theorem kX6_step : CalV yX6_step cX6_step 3 (some .int) 1 := ⟨⟨tb_at 486 (by decide +kernel) rfl, li_X6, ⟨by decide +kernel, by decide +kernel, by decide +kernel⟩, by decide⟩, tb_at 484 (by decide +kernel) rfl, tb_at 485 (by decide +kernel) rfl⟩
theorem kX6_count : CalV yX6_count cX6_count 2 (some .int) 1 := ⟨⟨tb_at 533 (by decide +kernel) rfl, li_X6, ⟨by decide +kernel, by decide +kernel, by decide +kernel⟩, by decide⟩, tb_at 531 (by decide +kernel) rfl, tb_at 532 (by decide +kernel) rfl⟩
theorem kX6_digest : CalV yX6_digest cX6_digest 4 (some .long) 0 := ⟨⟨tb_at 550 (by decide +kernel) rfl, li_X6, ⟨by decide +kernel, by decide +kernel, by decide +kernel⟩, by decide⟩, tb_at 548 (by decide +kernel) rfl, tb_at 549 (by decide +kernel) rfl⟩
theorem kX6_digestPoints : CalV yX6_digestPoints cX6_digestPoints 7 (some .long) 1 := ⟨⟨tb_at 557 (by decide +kernel) rfl, li_X6, ⟨by decide +kernel, by decide +kernel, by decide +kernel⟩, by decide⟩, tb_at 556 (by decide +kernel) rfl, tb_sel 17 (by decide +kernel) rfl⟩
theorem kX6_digestFactors : CalV yX6_digestFactors cX6_digestFactors 7 (some .long) 1 := ⟨⟨tb_at 561 (by decide +kernel) rfl, li_X6, ⟨by decide +kernel, by decide +kernel, by decide +kernel⟩, by decide⟩, tb_at 560 (by decide +kernel) rfl, tb_sel 18 (by decide +kernel) rfl⟩
theorem kX6_digestBoxes : CalV yX6_digestBoxes cX6_digestBoxes 9 (some .long) 1 := ⟨⟨tb_at 565 (by decide +kernel) rfl, li_X6, ⟨by decide +kernel, by decide +kernel, by decide +kernel⟩, by decide⟩, tb_at 564 (by decide +kernel) rfl, tb_sel 19 (by decide +kernel) rfl⟩
theorem kX6_digestMoments : CalV yX6_digestMoments cX6_digestMoments 8 (some .long) 4 := ⟨⟨tb_at 569 (by decide +kernel) rfl, li_X6, ⟨by decide +kernel, by decide +kernel, by decide +kernel⟩, by decide⟩, tb_at 568 (by decide +kernel) rfl, tb_sel 20 (by decide +kernel) rfl⟩
theorem kX6_pullOf : CalV yX6_pullOf cX6_pullOf 6 (some .long) 3 := ⟨⟨tb_at 311 (by decide +kernel) rfl, li_X6, ⟨by decide +kernel, by decide +kernel, by decide +kernel⟩, by decide⟩, tb_at 310 (by decide +kernel) rfl, tb_sel 0 (by decide +kernel) rfl⟩
theorem kX6_about : CalV yX6_about cX6_about 7 (some .long) 3 := ⟨⟨tb_at 369 (by decide +kernel) rfl, li_X6, ⟨by decide +kernel, by decide +kernel, by decide +kernel⟩, by decide⟩, tb_at 368 (by decide +kernel) rfl, tb_sel 5 (by decide +kernel) rfl⟩
theorem kX6_wholeEnd : CalV yX6_wholeEnd cX6_wholeEnd 7 (some .long) 3 := ⟨⟨tb_at 413 (by decide +kernel) rfl, li_X6, ⟨by decide +kernel, by decide +kernel, by decide +kernel⟩, by decide⟩, tb_at 412 (by decide +kernel) rfl, tb_sel 9 (by decide +kernel) rfl⟩
theorem kX6_termOf : CalV yX6_termOf cX6_termOf 6 (some .long) 4 := ⟨⟨tb_at 373 (by decide +kernel) rfl, li_X6, ⟨by decide +kernel, by decide +kernel, by decide +kernel⟩, by decide⟩, tb_at 372 (by decide +kernel) rfl, tb_sel 6 (by decide +kernel) rfl⟩
theorem kX6_endOf : CalV yX6_endOf cX6_endOf 6 (some .long) 4 := ⟨⟨tb_at 417 (by decide +kernel) rfl, li_X6, ⟨by decide +kernel, by decide +kernel, by decide +kernel⟩, by decide⟩, tb_at 416 (by decide +kernel) rfl, tb_sel 10 (by decide +kernel) rfl⟩
theorem kX6_isPlace : CalS yX6_isPlace cX6_isPlace 2 (some .boolean) 2 := ⟨⟨tb_at 212 (by decide +kernel) rfl, li_X6, ⟨by decide +kernel, by decide +kernel, by decide +kernel⟩, by decide⟩, tb_at 211 (by decide +kernel) rfl⟩
theorem kX6_isWeight : CalS yX6_isWeight cX6_isWeight 1 (some .boolean) 1 := ⟨⟨tb_at 215 (by decide +kernel) rfl, li_X6, ⟨by decide +kernel, by decide +kernel, by decide +kernel⟩, by decide⟩, tb_at 214 (by decide +kernel) rfl⟩
theorem kX6_isPaceNumber : CalS yX6_isPaceNumber cX6_isPaceNumber 1 (some .boolean) 1 := ⟨⟨tb_at 278 (by decide +kernel) rfl, li_X6, ⟨by decide +kernel, by decide +kernel, by decide +kernel⟩, by decide⟩, tb_at 277 (by decide +kernel) rfl⟩
theorem kX6_isDistance : CalS yX6_isDistance cX6_isDistance 1 (some .boolean) 1 := ⟨⟨tb_at 322 (by decide +kernel) rfl, li_X6, ⟨by decide +kernel, by decide +kernel, by decide +kernel⟩, by decide⟩, tb_at 321 (by decide +kernel) rfl⟩
theorem kX6_isPowers : CalS yX6_isPowers cX6_isPowers 2 (some .boolean) 2 := ⟨⟨tb_at 294 (by decide +kernel) rfl, li_X6, ⟨by decide +kernel, by decide +kernel, by decide +kernel⟩, by decide⟩, tb_at 293 (by decide +kernel) rfl⟩
theorem kX6_slot : CalS yX6_slot cX6_slot 2 (some .int) 2 := ⟨⟨tb_at 105 (by decide +kernel) rfl, li_X6, ⟨by decide +kernel, by decide +kernel, by decide +kernel⟩, by decide⟩, tb_at 104 (by decide +kernel) rfl⟩
theorem kX6_sideOf : CalS yX6_sideOf cX6_sideOf 1 (some .int) 1 := ⟨⟨tb_at 341 (by decide +kernel) rfl, li_X6, ⟨by decide +kernel, by decide +kernel, by decide +kernel⟩, by decide⟩, tb_at 340 (by decide +kernel) rfl⟩
theorem kX6_fromMiddle : CalS yX6_fromMiddle cX6_fromMiddle 4 (some .int) 3 := ⟨⟨tb_at 344 (by decide +kernel) rfl, li_X6, ⟨by decide +kernel, by decide +kernel, by decide +kernel⟩, by decide⟩, tb_at 343 (by decide +kernel) rfl⟩
theorem kX6_wrapPace : CalS yX6_wrapPace cX6_wrapPace 2 (some .int) 1 := ⟨⟨tb_at 508 (by decide +kernel) rfl, li_X6, ⟨by decide +kernel, by decide +kernel, by decide +kernel⟩, by decide⟩, tb_at 507 (by decide +kernel) rfl⟩
theorem kX6_wrapPlace : CalS yX6_wrapPlace cX6_wrapPlace 1 (some .int) 1 := ⟨⟨tb_at 523 (by decide +kernel) rfl, li_X6, ⟨by decide +kernel, by decide +kernel, by decide +kernel⟩, by decide⟩, tb_at 522 (by decide +kernel) rfl⟩
theorem kX7_in : CalS yX7_in cX7_in 6 (some .boolean) 3 := ⟨⟨tb_at 647 (by decide +kernel) rfl, li_X7, ⟨by decide +kernel, by decide +kernel, by decide +kernel⟩, by decide⟩, tb_at 646 (by decide +kernel) rfl⟩
theorem kX7_isPlace : CalS yX7_isPlace cX7_isPlace 2 (some .boolean) 2 := ⟨⟨tb_at 643 (by decide +kernel) rfl, li_X7, ⟨by decide +kernel, by decide +kernel, by decide +kernel⟩, by decide⟩, tb_at 642 (by decide +kernel) rfl⟩
theorem kX7_isPoint : CalV yX7_isPoint cX7_isPoint 2 (some .boolean) 1 := ⟨⟨tb_at 657 (by decide +kernel) rfl, li_X7, ⟨by decide +kernel, by decide +kernel, by decide +kernel⟩, by decide⟩, tb_at 656 (by decide +kernel) rfl, tb_sel 21 (by decide +kernel) rfl⟩
theorem kX7_many : CalV yX7_many cX7_many 3 (some .int) 0 := ⟨⟨tb_at 662 (by decide +kernel) rfl, li_X7, ⟨by decide +kernel, by decide +kernel, by decide +kernel⟩, by decide⟩, tb_at 661 (by decide +kernel) rfl, tb_sel 22 (by decide +kernel) rfl⟩
theorem kX7_point : CalV yX7_point cX7_point 5 (some .int) 3 := ⟨⟨tb_at 640 (by decide +kernel) rfl, li_X7, ⟨by decide +kernel, by decide +kernel, by decide +kernel⟩, by decide⟩, tb_at 638 (by decide +kernel) rfl, tb_at 639 (by decide +kernel) rfl⟩
theorem kX7_take : CalV yX7_take cX7_take 2 (some .int) 1 := ⟨⟨tb_at 653 (by decide +kernel) rfl, li_X7, ⟨by decide +kernel, by decide +kernel, by decide +kernel⟩, by decide⟩, tb_at 651 (by decide +kernel) rfl, tb_at 652 (by decide +kernel) rfl⟩
theorem kX7_move : CalV yX7_move cX7_move 4 (some .int) 3 := ⟨⟨tb_at 666 (by decide +kernel) rfl, li_X7, ⟨by decide +kernel, by decide +kernel, by decide +kernel⟩, by decide⟩, tb_at 664 (by decide +kernel) rfl, tb_at 665 (by decide +kernel) rfl⟩
theorem kX7_weigh : CalV yX7_weigh cX7_weigh 4 (some .int) 2 := ⟨⟨tb_at 670 (by decide +kernel) rfl, li_X7, ⟨by decide +kernel, by decide +kernel, by decide +kernel⟩, by decide⟩, tb_at 668 (by decide +kernel) rfl, tb_at 669 (by decide +kernel) rfl⟩
theorem kX7_pace : CalV yX7_pace cX7_pace 4 (some .int) 3 := ⟨⟨tb_at 674 (by decide +kernel) rfl, li_X7, ⟨by decide +kernel, by decide +kernel, by decide +kernel⟩, by decide⟩, tb_at 672 (by decide +kernel) rfl, tb_at 673 (by decide +kernel) rfl⟩
theorem kX7_at : CalV yX7_at cX7_at 3 (some .int) 2 := ⟨⟨tb_at 680 (by decide +kernel) rfl, li_X7, ⟨by decide +kernel, by decide +kernel, by decide +kernel⟩, by decide⟩, tb_at 678 (by decide +kernel) rfl, tb_at 679 (by decide +kernel) rfl⟩
theorem kX7_isPair : CalS yX7_isPair cX7_isPair 2 (some .boolean) 2 := ⟨⟨tb_at 687 (by decide +kernel) rfl, li_X7, ⟨by decide +kernel, by decide +kernel, by decide +kernel⟩, by decide⟩, tb_at 686 (by decide +kernel) rfl⟩
theorem kX7_kernel : CalV yX7_kernel cX7_kernel 5 (some .int) 3 := ⟨⟨tb_at 684 (by decide +kernel) rfl, li_X7, ⟨by decide +kernel, by decide +kernel, by decide +kernel⟩, by decide⟩, tb_at 682 (by decide +kernel) rfl, tb_at 683 (by decide +kernel) rfl⟩
theorem kX7_capacity : CalV yX7_capacity cX7_capacity 3 (some .int) 1 := ⟨⟨tb_at 693 (by decide +kernel) rfl, li_X7, ⟨by decide +kernel, by decide +kernel, by decide +kernel⟩, by decide⟩, tb_at 691 (by decide +kernel) rfl, tb_at 692 (by decide +kernel) rfl⟩
theorem kX7_power : CalS yX7_power cX7_power 6 (some .long) 2 := ⟨⟨tb_at 709 (by decide +kernel) rfl, li_X7, ⟨by decide +kernel, by decide +kernel, by decide +kernel⟩, by decide⟩, tb_at 708 (by decide +kernel) rfl⟩
theorem kX7_pull : CalV yX7_pull cX7_pull 8 (some .long) 3 := ⟨⟨tb_at 706 (by decide +kernel) rfl, li_X7, ⟨by decide +kernel, by decide +kernel, by decide +kernel⟩, by decide⟩, tb_at 705 (by decide +kernel) rfl, tb_sel 24 (by decide +kernel) rfl⟩
theorem kX7_sumAt : CalV yX7_sumAt cX7_sumAt 6 (some .long) 2 := ⟨⟨tb_at 702 (by decide +kernel) rfl, li_X7, ⟨by decide +kernel, by decide +kernel, by decide +kernel⟩, by decide⟩, tb_at 701 (by decide +kernel) rfl, tb_sel 23 (by decide +kernel) rfl⟩
theorem kX7_sum : CalV yX7_sum cX7_sum 3 (some .long) 2 := ⟨⟨tb_at 698 (by decide +kernel) rfl, li_X7, ⟨by decide +kernel, by decide +kernel, by decide +kernel⟩, by decide⟩, tb_at 696 (by decide +kernel) rfl, tb_at 697 (by decide +kernel) rfl⟩
theorem kX7_isIn : CalV yX7_isIn cX7_isIn 6 (some .boolean) 4 := ⟨⟨tb_at 732 (by decide +kernel) rfl, li_X7, ⟨by decide +kernel, by decide +kernel, by decide +kernel⟩, by decide⟩, tb_at 731 (by decide +kernel) rfl, tb_sel 28 (by decide +kernel) rfl⟩
theorem kX7_pointsIn : CalV yX7_pointsIn cX7_pointsIn 6 (some .int) 3 := ⟨⟨tb_at 728 (by decide +kernel) rfl, li_X7, ⟨by decide +kernel, by decide +kernel, by decide +kernel⟩, by decide⟩, tb_at 727 (by decide +kernel) rfl, tb_sel 27 (by decide +kernel) rfl⟩
theorem kX7_bulk : CalV yX7_bulk cX7_bulk 7 (some .long) 3 := ⟨⟨tb_at 737 (by decide +kernel) rfl, li_X7, ⟨by decide +kernel, by decide +kernel, by decide +kernel⟩, by decide⟩, tb_at 736 (by decide +kernel) rfl, tb_sel 29 (by decide +kernel) rfl⟩
theorem kX7_isSplit : CalV yX7_isSplit cX7_isSplit 4 (some .boolean) 3 := ⟨⟨tb_at 724 (by decide +kernel) rfl, li_X7, ⟨by decide +kernel, by decide +kernel, by decide +kernel⟩, by decide⟩, tb_at 723 (by decide +kernel) rfl, tb_sel 26 (by decide +kernel) rfl⟩
theorem kX7_isBox : CalV yX7_isBox cX7_isBox 6 (some .boolean) 3 := ⟨⟨tb_at 719 (by decide +kernel) rfl, li_X7, ⟨by decide +kernel, by decide +kernel, by decide +kernel⟩, by decide⟩, tb_at 718 (by decide +kernel) rfl, tb_sel 25 (by decide +kernel) rfl⟩
theorem kX7_middle : CalS yX7_middle cX7_middle 3 (some .int) 2 := ⟨⟨tb_at 748 (by decide +kernel) rfl, li_X7, ⟨by decide +kernel, by decide +kernel, by decide +kernel⟩, by decide⟩, tb_at 747 (by decide +kernel) rfl⟩
theorem kX7_momentOf : CalV yX7_momentOf cX7_momentOf 9 (some .long) 5 := ⟨⟨tb_at 745 (by decide +kernel) rfl, li_X7, ⟨by decide +kernel, by decide +kernel, by decide +kernel⟩, by decide⟩, tb_at 744 (by decide +kernel) rfl, tb_sel 30 (by decide +kernel) rfl⟩
theorem kX7_box : CalV yX7_box cX7_box 5 (some .int) 4 := ⟨⟨tb_at 715 (by decide +kernel) rfl, li_X7, ⟨by decide +kernel, by decide +kernel, by decide +kernel⟩, by decide⟩, tb_at 713 (by decide +kernel) rfl, tb_at 714 (by decide +kernel) rfl⟩
theorem kX7_moment : CalV yX7_moment cX7_moment 6 (some .long) 5 := ⟨⟨tb_at 741 (by decide +kernel) rfl, li_X7, ⟨by decide +kernel, by decide +kernel, by decide +kernel⟩, by decide⟩, tb_at 739 (by decide +kernel) rfl, tb_at 740 (by decide +kernel) rfl⟩
theorem kX7_leaf : CalV yX7_leaf cX7_leaf 4 (some .int) 2 := ⟨⟨tb_at 752 (by decide +kernel) rfl, li_X7, ⟨by decide +kernel, by decide +kernel, by decide +kernel⟩, by decide⟩, tb_at 750 (by decide +kernel) rfl, tb_at 751 (by decide +kernel) rfl⟩
theorem kX7_choose : CalS yX7_choose cX7_choose 5 (some .long) 2 := ⟨⟨tb_at 771 (by decide +kernel) rfl, li_X7, ⟨by decide +kernel, by decide +kernel, by decide +kernel⟩, by decide⟩, tb_at 770 (by decide +kernel) rfl⟩
theorem kX7_term : CalV yX7_term cX7_term 19 (some .long) 6 := ⟨⟨tb_at 768 (by decide +kernel) rfl, li_X7, ⟨by decide +kernel, by decide +kernel, by decide +kernel⟩, by decide⟩, tb_at 767 (by decide +kernel) rfl, tb_sel 32 (by decide +kernel) rfl⟩
theorem kX7_size : CalS yX7_size cX7_size 2 (some .long) 1 := ⟨⟨tb_at 764 (by decide +kernel) rfl, li_X7, ⟨by decide +kernel, by decide +kernel, by decide +kernel⟩, by decide⟩, tb_at 763 (by decide +kernel) rfl⟩
theorem kX7_endOf : CalV yX7_endOf cX7_endOf 19 (some .long) 6 := ⟨⟨tb_at 775 (by decide +kernel) rfl, li_X7, ⟨by decide +kernel, by decide +kernel, by decide +kernel⟩, by decide⟩, tb_at 774 (by decide +kernel) rfl, tb_sel 33 (by decide +kernel) rfl⟩
theorem kX7_goes : CalV yX7_goes cX7_goes 4 none 3 := ⟨⟨tb_at 779 (by decide +kernel) rfl, li_X7, ⟨by decide +kernel, by decide +kernel, by decide +kernel⟩, by decide⟩, tb_at 778 (by decide +kernel) rfl, tb_sel 34 (by decide +kernel) rfl⟩
theorem kX7_goAcross : CalV yX7_goAcross cX7_goAcross 12 none 4 := ⟨⟨tb_at 761 (by decide +kernel) rfl, li_X7, ⟨by decide +kernel, by decide +kernel, by decide +kernel⟩, by decide⟩, tb_at 760 (by decide +kernel) rfl, tb_sel 31 (by decide +kernel) rfl⟩
theorem kX7_across : CalV yX7_across cX7_across 6 (some .long) 5 := ⟨⟨tb_at 756 (by decide +kernel) rfl, li_X7, ⟨by decide +kernel, by decide +kernel, by decide +kernel⟩, by decide⟩, tb_at 754 (by decide +kernel) rfl, tb_at 755 (by decide +kernel) rfl⟩
theorem kX7_order : CalV yX7_order cX7_order 7 (some .int) 4 := ⟨⟨tb_at 783 (by decide +kernel) rfl, li_X7, ⟨by decide +kernel, by decide +kernel, by decide +kernel⟩, by decide⟩, tb_at 781 (by decide +kernel) rfl, tb_at 782 (by decide +kernel) rfl⟩
theorem kX7_way : CalV yX7_way cX7_way 6 (some .int) 5 := ⟨⟨tb_at 787 (by decide +kernel) rfl, li_X7, ⟨by decide +kernel, by decide +kernel, by decide +kernel⟩, by decide⟩, tb_at 785 (by decide +kernel) rfl, tb_at 786 (by decide +kernel) rfl⟩
theorem kX7_farOf : CalV yX7_farOf cX7_farOf 4 (some .int) 3 := ⟨⟨tb_at 795 (by decide +kernel) rfl, li_X7, ⟨by decide +kernel, by decide +kernel, by decide +kernel⟩, by decide⟩, tb_at 794 (by decide +kernel) rfl, tb_sel 35 (by decide +kernel) rfl⟩
theorem kX7_nearest : CalV yX7_nearest cX7_nearest 7 (some .int) 3 := ⟨⟨tb_at 791 (by decide +kernel) rfl, li_X7, ⟨by decide +kernel, by decide +kernel, by decide +kernel⟩, by decide⟩, tb_at 789 (by decide +kernel) rfl, tb_at 790 (by decide +kernel) rfl⟩
theorem kX7_push : CalS yX7_push cX7_push 4 (some .int) 2 := ⟨⟨tb_at 811 (by decide +kernel) rfl, li_X7, ⟨by decide +kernel, by decide +kernel, by decide +kernel⟩, by decide⟩, tb_at 810 (by decide +kernel) rfl⟩
theorem kX7_findPushes : CalV yX7_findPushes cX7_findPushes 2 none 0 := ⟨⟨tb_at 808 (by decide +kernel) rfl, li_X7, ⟨by decide +kernel, by decide +kernel, by decide +kernel⟩, by decide⟩, tb_at 807 (by decide +kernel) rfl, tb_sel 37 (by decide +kernel) rfl⟩
theorem kX7_brought : CalS yX7_brought cX7_brought 1 (some .int) 1 := ⟨⟨tb_at 815 (by decide +kernel) rfl, li_X7, ⟨by decide +kernel, by decide +kernel, by decide +kernel⟩, by decide⟩, tb_at 814 (by decide +kernel) rfl⟩
theorem kX7_goOn : CalV yX7_goOn cX7_goOn 2 none 0 := ⟨⟨tb_at 804 (by decide +kernel) rfl, li_X7, ⟨by decide +kernel, by decide +kernel, by decide +kernel⟩, by decide⟩, tb_at 803 (by decide +kernel) rfl, tb_sel 36 (by decide +kernel) rfl⟩
theorem kX7_goBack : CalV yX7_goBack cX7_goBack 2 none 0 := ⟨⟨tb_at 819 (by decide +kernel) rfl, li_X7, ⟨by decide +kernel, by decide +kernel, by decide +kernel⟩, by decide⟩, tb_at 818 (by decide +kernel) rfl, tb_sel 38 (by decide +kernel) rfl⟩
theorem kX7_step : CalV yX7_step cX7_step 3 (some .int) 1 := ⟨⟨tb_at 799 (by decide +kernel) rfl, li_X7, ⟨by decide +kernel, by decide +kernel, by decide +kernel⟩, by decide⟩, tb_at 797 (by decide +kernel) rfl, tb_at 798 (by decide +kernel) rfl⟩
theorem kX7_count : CalV yX7_count cX7_count 9 (some .int) 1 := ⟨⟨tb_at 823 (by decide +kernel) rfl, li_X7, ⟨by decide +kernel, by decide +kernel, by decide +kernel⟩, by decide⟩, tb_at 821 (by decide +kernel) rfl, tb_at 822 (by decide +kernel) rfl⟩
theorem kX7_digest : CalV yX7_digest cX7_digest 7 (some .long) 0 := ⟨⟨tb_at 827 (by decide +kernel) rfl, li_X7, ⟨by decide +kernel, by decide +kernel, by decide +kernel⟩, by decide⟩, tb_at 825 (by decide +kernel) rfl, tb_at 826 (by decide +kernel) rfl⟩
theorem kJ9_abs_0f7a4 : CalS yJ9_abs_0f7a4 cJ9_abs_0f7a4 1 (some .int) 1 := ⟨⟨tb_at 348 (by decide +kernel) rfl, li_J9, ⟨by decide +kernel, by decide +kernel, by decide +kernel⟩, by decide⟩, tb_at 347 (by decide +kernel) rfl⟩
theorem kJ9_abs_067f4 : CalS yJ9_abs_067f4 cJ9_abs_067f4 2 (some .long) 1 := ⟨⟨tb_at 424 (by decide +kernel) rfl, li_J9, ⟨by decide +kernel, by decide +kernel, by decide +kernel⟩, by decide⟩, tb_at 423 (by decide +kernel) rfl⟩
theorem kJ9_max_7cf53 : CalS yJ9_max_7cf53 cJ9_max_7cf53 2 (some .int) 2 := ⟨⟨tb_at 431 (by decide +kernel) rfl, li_J9, ⟨by decide +kernel, by decide +kernel, by decide +kernel⟩, by decide⟩, tb_at 430 (by decide +kernel) rfl⟩
end
